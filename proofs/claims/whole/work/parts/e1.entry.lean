/-- the cells at the start -/
def hp0 (aL aR bL bR dL dR gM : Nat → Int32) : Hp := fun p => ([(fun k => ([0, 0, 0, 0, 0, 0, 0, 0, 0, 0] : List Int32).getD k 0), (fun k => ([0, 0, 0, 0, 0, 0, 0, 0, 1] : List Int32).getD k 0), aL, aR, (fun _ => 0), (fun _ => 0), (fun _ => 0), (fun _ => 0), (fun k => ([0, 0, 0, 0, 0, 0, 0, 0, 1] : List Int32).getD k 0), bL, bR, (fun _ => 0), (fun _ => 0), (fun _ => 0), (fun _ => 0), (fun k => ([0, 0, 0, 0, 0, 0, 0, 0, 1] : List Int32).getD k 0), dL, dR, (fun _ => 0), (fun _ => 0), (fun _ => 0), (fun _ => 0), (fun k => ([0, 0, 0, 0, 0, 0, (-1)] : List Int32).getD k 0), (fun _ => 0), (fun _ => 0), (fun _ => 0), (fun k => ([0, (-1), 0] : List Int32).getD k 0), (fun k => ([0, (-1), 0] : List Int32).getD k 0), (fun k => ([0, (-1), 0] : List Int32).getD k 0), (fun k => ([0, (-1), 0] : List Int32).getD k 0), (fun _ => 0), (fun _ => 0), (fun _ => 0), (fun _ => 0), (fun _ => 0), (fun k => ([2, 0, (-1), 0] : List Int32).getD k 0), (fun k => ([2, 0, (-1), 0] : List Int32).getD k 0), (fun k => ([2, 0, (-1), 0] : List Int32).getD k 0), (fun k => ([2, 0, (-1), 0] : List Int32).getD k 0), (fun k => ([0, 0, 0, 0, 0, 0] : List Int32).getD k 0), (fun _ => 0), (fun k => ([0, 0, 0, 0, 0, 0, 0, 0, 0, 0, 0, 0, 0, 0, 0, 0, 0, 0, 0, 0, 0, 0, 0, 0, 0, 0, 0] : List Int32).getD k 0), (upd gM (2 : Int32).toNatClampNeg (1)), (fun _ => 0), (fun _ => 0), (fun _ => 0), (fun _ => 0), (fun _ => 0), (fun _ => 0), (upd (upd (upd (upd (fun _ => 0) (0 : Int32).toNatClampNeg ((-1))) (1 : Int32).toNatClampNeg ((-1))) (2 : Int32).toNatClampNeg ((-1))) (3 : Int32).toNatClampNeg ((-1))), (fun _ => 0), (fun _ => 0), (fun _ => 0), (fun _ => 0), (fun _ => 0), (fun _ => 0)] : List (Nat → Int32)).getD p (fun _ => 0)
def adF (l : List Nat) (t0 t1 t2 t3 b t4 : Nat) (adK adV : Nat → Nat) (p : Nat) : Nat := if p < 56 then l.getD p 0 else if p = 90 then t0 else if p = 91 then t1 else if p = 92 then t2 else if p = 93 then t3 else if p = 99 then b else if p < 300 then adK (p - 200) else if p < 400 then adV (p - 300) else t4
theorem adF_K (l : List Nat) (t0 t1 t2 t3 b t4 : Nat) (adK adV : Nat → Nat) {i : Nat} (hi : i < 16) : adF l t0 t1 t2 t3 b t4 adK adV (200 + i) = adK i := by
  unfold adF
  rw [if_neg (by omega), if_neg (by omega), if_neg (by omega), if_neg (by omega), if_neg (by omega), if_neg (by omega), if_pos (by omega), Nat.add_sub_cancel_left]
theorem adF_V (l : List Nat) (t0 t1 t2 t3 b t4 : Nat) (adK adV : Nat → Nat) {i : Nat} (hi : i < 16) : adF l t0 t1 t2 t3 b t4 adK adV (300 + i) = adV i := by
  unfold adF
  rw [if_neg (by omega), if_neg (by omega), if_neg (by omega), if_neg (by omega), if_neg (by omega), if_neg (by omega), if_neg (by omega), if_pos (by omega), Nat.add_sub_cancel_left]
theorem adF_L (l : List Nat) (t0 t1 t2 t3 b t4 : Nat) (adK adV : Nat → Nat) {i : Nat} (hi : i < 56) : adF l t0 t1 t2 t3 b t4 adK adV i = l.getD i 0 := by
  unfold adF
  rw [if_pos hi]
theorem wl_at {ws : va_W} {l : List Nat} (hl : ws.map Prod.fst = l) {i : Nat} (hi : i < ws.length) : ∃ p, ws[i]? = some p ∧ p.1 = l.getD i 0 := by
  subst hl
  refine ⟨ws[i], List.getElem?_eq_getElem hi, ?_⟩
  simp [List.getD_eq_getElem?_getD, hi]
theorem rel0 {aL aR bL bR dL dR gM : Nat → Int32} (h1 : ∀ k, k < 4 → aL k = tbF.getD k 0) (h2 : ∀ k, k < 8 → aR k = 10) (h3 : (gM 0 = 0 ∧ gM 1 = 0 ∧ gM 2 = 0) ∧ (gM 3 = 2 ∧ gM 4 = 3 ∧ gM 5 = 2 ∧ gM 6 = 20) ∧ ∀ k, 7 ≤ k → k < 15 → gM k = 10) : Rel (hp0 aL aR bL bR dL dR gM) := by
  have e6 : vg (hp0 aL aR bL bR dL dR gM) 1 0 6 = 0 := rfl
  have hn : nG (vg (hp0 aL aR bL bR dL dR gM) 1) = 0 := rfl
  have eS : hp0 aL aR bL bR dL dR gM 42 = upd gM 2 1 := rfl
  obtain ⟨⟨g0, g1, g2⟩, ⟨g3, g4, g5, g6⟩, g7⟩ := h3
  refine ⟨⟨⟨⟨?_, ?_, ?_⟩, fun k hk => ?_, fun k hk => ?_, fun i hi => absurd hi (by rw [hn]; omega)⟩, ⟨⟨by rw [e6]; decide, fun i hi => absurd hi (by rw [hn]; omega)⟩, ?_, fun i hi => absurd hi (by rw [hn]; omega)⟩⟩, ?_, ?_, ?_, ?_, ?_, ?_⟩
  · rw [e6, eS, mv_06]; simp [upd, g0]
  · rw [eS, mv_07]; show (0 : Int32) = _; simp [upd, g1]
  · rw [eS, mv_08]; show (1 : Int32) = _; simp [upd]
  · show aL k = _
    rw [h1 k hk, eS]
    rcases (show k = 0 ∨ k = 1 ∨ k = 2 ∨ k = 3 by omega) with rfl | rfl | rfl | rfl
    · rw [mv_10]; simp [upd, g3, tbF]
    · rw [mv_11]; simp [upd, g4, tbF]
    · rw [mv_12]; simp [upd, g5, tbF]
    · rw [mv_13]; simp [upd, g6, tbF]
  · show aR k = _
    rw [h2 k hk, eS, mv_2 _ hk]
    unfold upd
    rw [if_neg (by omega), g7 _ (by omega) (by omega)]
  · show 0 ≤ aL 3 ∧ aL 3 ≤ 99
    rw [h1 3 (by decide)]
    decide
  · exact ⟨rfl, Or.inl rfl, fun z => absurd z (by show ¬ (0 : Int32) = 1; decide)⟩
  · exact ⟨rfl, ⟨by show (0 : Int32) ≤ 0; decide, by show (0 : Int32) ≤ 200; decide⟩, fun k hk => absurd hk (by show ¬ k < ix 0; rw [show ix 0 = 0 from rfl]; omega)⟩
  · exact ⟨rfl, ⟨by show (0 : Int32) ≤ 0; decide, by show (0 : Int32) ≤ 10; decide⟩, fun k hk => absurd hk (by show ¬ k < 3 * ix 0; rw [show ix 0 = 0 from rfl]; omega)⟩
  · intro t ht
    rcases (show t = 0 ∨ t = 1 ∨ t = 2 ∨ t = 3 by omega) with rfl | rfl | rfl | rfl
    all_goals exact ⟨rfl, rfl, ⟨by show (-1 : Int32) ≤ -1; decide, by show (-1 : Int32) ≤ 3; decide⟩, ⟨by show (0 : Int32) ≤ 0; decide, by show (0 : Int32) ≤ 40; decide⟩, fun k hk => rfl⟩
  · intro t ht
    rcases (show t = 0 ∨ t = 1 ∨ t = 2 ∨ t = 3 by omega) with rfl | rfl | rfl | rfl
    all_goals exact Or.inr (Or.inr ⟨rfl, rfl⟩)
  · exact ⟨rfl, ⟨by show (0 : Int32) ≤ 0; decide, by show (0 : Int32) ≤ 30; decide⟩, fun k hk => absurd hk (by show ¬ k < ix 0; rw [show ix 0 = 0 from rfl]; omega)⟩
