theorem inX0 : ∀ x ∈ u_ws RX0 TX0 6, x ∈ lwG := by decide +kernel
theorem inX1 : ∀ x ∈ u_ws RX1 TX1 9, x ∈ lwG := by decide +kernel
theorem inX2 : ∀ x ∈ u_ws RX2 TX2 3, x ∈ lwG := by decide +kernel
theorem inX3 : ∀ x ∈ u_ws RX3 TX3 4, x ∈ lwG := by decide +kernel
theorem inX4 : ∀ x ∈ u_ws RX4 TX4 7, x ∈ lwG := by decide +kernel
theorem inX5 : ∀ x ∈ u_ws RX5 TX5 10, x ∈ lwG := by decide +kernel
theorem inX6 : ∀ x ∈ u_ws RX6 TX6 27, x ∈ lwG := by decide +kernel
theorem cls_in : ∀ ci C T N, clsT[ci]? = some (C, T, N) → (∀ x ∈ u_ws C T N, x ∈ lwG) ∧ nfl.getD ci 0 = N
  | 0, _, _, _, h => by cases h; exact ⟨inX0, rfl⟩
  | 1, _, _, _, h => by cases h; exact ⟨inX1, rfl⟩
  | 2, _, _, _, h => by cases h; exact ⟨inX2, rfl⟩
  | 3, _, _, _, h => by cases h; exact ⟨inX3, rfl⟩
  | 4, _, _, _, h => by cases h; exact ⟨inX4, rfl⟩
  | 5, _, _, _, h => by cases h; exact ⟨inX5, rfl⟩
  | 6, _, _, _, h => by cases h; exact ⟨inX6, rfl⟩
  | n + 7, _, _, _, h => by simp at h
theorem en1_obj {w : WD} {h : Hp} {p ci : Nat} (hc : ocl p = some ci) : en1 w h p = .inr (ci, (List.range (nfl.getD ci 0)).map (fun k => cv (wad w) (fv p k h))) := by
  unfold en1; rw [hc]
theorem en1_arr {w : WD} {h : Hp} {p n : Nat} (hc : alen p = some n) : en1 w h p = .inl (wI w, n, .inl (h p)) := by
  obtain ⟨h1, h2, -⟩ := alen_ok p (alen_lt p n hc) n hc
  unfold en1; rw [h1, h2, hc]; rfl
theorem en1_up {w : WD} {h : Hp} {p ci j : Nat} {x : Int32} (hc : ocl p = some ci) (hl : lay p j = none) (hj : j < nfl.getD ci 0) : .inr (ci, ((List.range (nfl.getD ci 0)).map (fun k => cv (wad w) (fv p k h))).set j (.int x)) = en1 w (up2 h p j x) p := by
  rw [en1_obj hc]
  generalize nfl.getD ci 0 = N at hj ⊢
  congr 2
  apply List.ext_getElem?
  intro i
  by_cases hi : i < N
  · rw [List.getElem?_map, List.getElem?_range hi]
    by_cases hij : i = j
    · subst hij
      rw [List.getElem?_set_self (by simpa using hi)]
      simp [fv, hl, up2, cv]
    · rw [List.getElem?_set_ne (Ne.symm hij), List.getElem?_map, List.getElem?_range hi]
      simp [fv, up2, hij]
  · rw [List.getElem?_eq_none (by simpa using hi), List.getElem?_eq_none (by simpa using hi)]
section SNH
variable {p : Program} {l : Launch} {e : Env} {R : Room} {s : State} {m : MethodId} {args : Array Value} {below : List Frame} {meth : Method} {c : Code} {cc : ByteArray} {nL : Nat} {own : String} {w : WD} {cells slots : Nat} {Qm : State → Prop} {pc q : Nat}

theorem sn_get (X : Cxt p m c cc nL s args own w) {C ref : String} {T : u_T} {N ci j i : Nat} (hc : clsT[ci]? = some (C, T, N)) (hj : j < N) (hl : (Cond.fieldLink own i ref (T j).2.1 (T j).2.2.1) ∈ lwG) (hs : ref = (T j).1) (hd : decode cc pc = .ok (.getfield i, 3)) (hq : pc + 3 = q) : Sn (Jd p l e R s m args below meth c nL w cells slots Qm) pc (i_get ci j q) := by
  subst hq; subst hs
  intro k L sk h ht hk H locs ls hP hS hL
  revert ht
  unfold i_get
  split
  · rename_i pp r
    intro ht
    obtain ⟨hx, hb, hml, hown, hts, hG⟩ := X
    obtain ⟨hin, hN⟩ := cls_in ci C T N hc
    have hp := ocl_lt _ _ ht.1
    have he : (wsO w h)[pp]? = some (wad w pp, .inr (ci, (List.range (nfl.getD ci 0)).map (fun k => cv (wad w) (fv pp k h)))) := by
      rw [ws_at w h hp, en1_obj ht.1]
    exact va_get (C := C) (T := T) (N := N) hx hb hts hin hown hG.1 hP pp he hc j hj (hts _ hl) (fun _ h9 => h9) (v := cv (wad w) (fv pp j h)) (by rw [hN]; simp [hj]) hd (hk _ ht.2 H locs ls hP hS hL)
  · exact False.elim
theorem sn_put0 (X : Cxt p m c cc nL s args own w) {C ref : String} {T : u_T} {N ci j i : Nat} {ty0 : Nat → FieldType} (hty : ∀ k, k < N → parseFieldDescriptor (T k).2.2.1 = some (ty0 k)) (hnm : ∀ a, a < N → ∀ b, b < N → a ≠ b → (T a).2.1 ≠ (T b).2.1) (hc : clsT[ci]? = some (C, T, N)) (hj : j < N) (hfin : (T j).2.2.2 = false) (hl : (Cond.fieldLink own i ref (T j).2.1 (T j).2.2.1) ∈ lwG) (hs : ref = (T j).1) (hd : decode cc pc = .ok (.putfield i, 3)) {x : Int32} {pp : Nat} (hn : narrow (ty0 j) (.int x) = .int x) (hf : fits (ty0 j) (.int x) = true) (ho : ocl pp = some ci) (hy : lay pp j = none)
    {k : St → Prop} {L : Lo} {r : List Value} {h : Hp} (ht : k (pc + 3, L, r, up2 h pp j x)) (hk : ∀ st, k st → (Jd p l e R s m args below meth c nL w cells slots Qm) st) : (Jd p l e R s m args below meth c nL w cells slots Qm) (pc, L, .int x :: .ref pp :: r, h) := by
  subst hs
  intro H locs ls hP hS hL
  obtain ⟨hx, hb, hml, hown, hts, hG⟩ := X
  obtain ⟨hin, hN⟩ := cls_in ci C T N hc
  have hp := ocl_lt _ _ ho
  have he : (wsO w h)[pp]? = some (wad w pp, .inr (ci, (List.range (nfl.getD ci 0)).map (fun k => cv (wad w) (fv pp k h)))) := by
    rw [ws_at w h hp, en1_obj ho]
  refine va_put (C := C) (T := T) (N := N) (v := .int x) hx hb hts hin ty0 hty hnm hown hG.1 hP (ws_D hG h) hS pp he hc j hj (hts _ hl) (fun _ h9 => h9) hfin (hty j hj) hn hf (by rw [hN]; simpa using hj) hd (fun H1 locs1 hP1 hD1 hS1 => ?_)
  rw [ws_set (g := up2 h pp j x) (en1_up ho hy (by rw [hN]; exact hj)) (fun q hq => up2_ne hq)] at hP1
  exact hk _ ht H1 locs1 ls hP1 hS1 hL
theorem sn_put (X : Cxt p m c cc nL s args own w) {C ref : String} {T : u_T} {N ci j i : Nat} {ty0 : Nat → FieldType} (hty : ∀ k, k < N → parseFieldDescriptor (T k).2.2.1 = some (ty0 k)) (hnm : ∀ a, a < N → ∀ b, b < N → a ≠ b → (T a).2.1 ≠ (T b).2.1) (hc : clsT[ci]? = some (C, T, N)) (hj : j < N) (hfin : (T j).2.2.2 = false) (hi : ty0 j = .int) (hl : (Cond.fieldLink own i ref (T j).2.1 (T j).2.2.1) ∈ lwG) (hs : ref = (T j).1) (hd : decode cc pc = .ok (.putfield i, 3)) (hq : pc + 3 = q) : Sn (Jd p l e R s m args below meth c nL w cells slots Qm) pc (i_put ci j q) := by
  subst hq
  intro k L sk h ht hk
  revert ht
  unfold i_put
  split
  · intro ht
    exact sn_put0 X hty hnm hc hj hfin hl hs hd (by rw [hi]; rfl) (by rw [hi]; rfl) ht.1.1 ht.1.2 ht.2 hk
  · exact False.elim
theorem sn_putz (X : Cxt p m c cc nL s args own w) {C ref : String} {T : u_T} {N ci j i : Nat} {ty0 : Nat → FieldType} (hty : ∀ k, k < N → parseFieldDescriptor (T k).2.2.1 = some (ty0 k)) (hnm : ∀ a, a < N → ∀ b, b < N → a ≠ b → (T a).2.1 ≠ (T b).2.1) (hc : clsT[ci]? = some (C, T, N)) (hj : j < N) (hfin : (T j).2.2.2 = false) (hi : ty0 j = .boolean) (hl : (Cond.fieldLink own i ref (T j).2.1 (T j).2.2.1) ∈ lwG) (hs : ref = (T j).1) (hd : decode cc pc = .ok (.putfield i, 3)) (hq : pc + 3 = q) : Sn (Jd p l e R s m args below meth c nL w cells slots Qm) pc (i_putz ci j q) := by
  subst hq
  intro k L sk h ht hk
  revert ht
  unfold i_putz
  split
  · intro ht
    refine sn_put0 X hty hnm hc hj hfin hl hs hd ?_ ?_ ht.1.1 ht.1.2 ht.2.2 hk
    · rw [hi]; rcases ht.2.1 with e | e <;> rw [e] <;> decide +kernel
    · rw [hi]; rcases ht.2.1 with e | e <;> rw [e] <;> decide +kernel
  · exact False.elim
theorem rdA_some {pp : Nat} {h : Hp} {a : Nat × (Nat → Int32)} (hr : rdA pp h = some a) : (alen pp = some a.1 ∧ a.2 = h pp) ∨ (∃ t, ext pp = some t ∧ a = (t.length, fun i => t.getD i 0)) := by
  unfold rdA at hr
  split at hr
  · rename_i n hn
    cases hr
    exact Or.inl ⟨hn, rfl⟩
  · split at hr
    · rename_i t ht
      cases hr
      exact Or.inr ⟨t, ht, rfl⟩
    · cases hr
theorem sn_iald (X : Cxt p m c cc nL s args own w) (hd : decode cc pc = .ok (.iaload, 1)) (hq : pc + 1 = q) : Sn (Jd p l e R s m args below meth c nL w cells slots Qm) pc (i_iald q) := by
  subst hq
  intro k L sk h ht hk H locs ls hP hS hL
  revert ht
  unfold i_iald
  split
  · rename_i i pp r
    split
    · rename_i a ha
      intro ht
      obtain ⟨hx, hb, hml, hown, hts, hG⟩ := X
      rcases rdA_some ha with ⟨h1, h2⟩ | ⟨t, h1, h2⟩
      · have h3 := ht.2
        rw [h2] at h3
        exact va_iald hx hb hG.1 hP pp 0 (by rw [ws_at w h (alen_lt _ _ h1), en1_arr h1]) rfl ht.1 hd (hk _ h3 H locs ls hP hS hL)
      · subst h2
        obtain ⟨g1, g2, g3⟩ := hG.2.2.1 pp t h1
        exact va_sld hx hb g1 g2 g3 hS ht.1 hd (hk _ ht.2 H locs ls hP hS hL)
    · exact False.elim
  · exact False.elim
theorem sn_iast (X : Cxt p m c cc nL s args own w) (hd : decode cc pc = .ok (.iastore, 1)) (hq : pc + 1 = q) : Sn (Jd p l e R s m args below meth c nL w cells slots Qm) pc (i_iast q) := by
  subst hq
  intro k L sk h ht hk H locs ls hP hS hL
  revert ht
  unfold i_iast
  split
  · rename_i x i pp r
    split
    · rename_i n hn
      intro ht
      obtain ⟨hx, hb, hml, hown, hts, hG⟩ := X
      refine va_iast hx hb hG.1 hP (ws_D hG h) hS pp 0 (by rw [ws_at w h (alen_lt _ _ hn), en1_arr hn]) rfl ht.1 hd (fun H1 locs1 hP1 hD1 hS1 => ?_)
      rw [ws_set (g := up2 h pp i.toNatClampNeg x) (by rw [en1_arr hn, up2_self]) (fun q hq => up2_ne hq)] at hP1
      exact hk _ ht.2 H1 locs1 ls hP1 hS1 hL
    · exact False.elim
  · exact False.elim
theorem sn_aald (X : Cxt p m c cc nL s args own w) (hd : decode cc pc = .ok (.aaload, 1)) (hq : pc + 1 = q) : Sn (Jd p l e R s m args below meth c nL w cells slots Qm) pc (i_aald q) := by
  subst hq
  intro k L sk h ht hk H locs ls hP hS hL
  revert ht
  unfold i_aald
  split
  · rename_i i pp r
    split
    · rename_i b hb0
      intro ht
      obtain ⟨hx, hb, hml, hown, hts, hG⟩ := X
      obtain ⟨h1, h2, h3⟩ := ral_ok pp b hb0
      rcases h3 with ⟨e1, e2⟩ | ⟨e1, e2⟩
      · subst e1; subst e2
        exact va_aldq (f := fun i => some (wad w (26 + i))) hx hb hG.1 hP 25 1 (by rw [ws_at w h (by decide)]; rfl) rfl ht.1 hd (hk _ ht.2 H locs ls hP hS hL)
      · subst e1; subst e2
        exact va_aldq (f := fun i => some (wad w (35 + i))) hx hb hG.1 hP 34 2 (by rw [ws_at w h (by decide)]; rfl) rfl ht.1 hd (hk _ ht.2 H locs ls hP hS hL)
    · exact False.elim
  · exact False.elim
theorem sn_alen (X : Cxt p m c cc nL s args own w) (hd : decode cc pc = .ok (.arraylength, 1)) (hq : pc + 1 = q) : Sn (Jd p l e R s m args below meth c nL w cells slots Qm) pc (i_alen q) := by
  subst hq
  intro k L sk h ht hk H locs ls hP hS hL
  revert ht
  unfold i_alen
  split
  · rename_i pp r
    split
    · rename_i a ha
      intro ht
      obtain ⟨hx, hb, hml, hown, hts, hG⟩ := X
      rcases rdA_some ha with ⟨h1, h2⟩ | ⟨t, h1, h2⟩
      · exact va_alen hx hb hG.1 hP pp 0 (x := (a.1, .inl (h pp))) (by rw [ws_at w h (alen_lt _ _ h1), en1_arr h1]) rfl rfl hd (hk _ ht H locs ls hP hS hL)
      · subst h2
        obtain ⟨g1, g2, g3⟩ := hG.2.2.1 pp t h1
        exact va_slen hx hb g1 g2 g3 hS hd (hk _ ht H locs ls hP hS hL)
    · exact False.elim
  · exact False.elim
theorem sn_gets (X : Cxt p m c cc nL s args own w) {n ref : String} {pp i : Nat} (hZ : va_Z "MannersGaol" n "[I" (.ref (wad w pp)) (wA w) s s.heap) (hs : ref = "MannersGaol") (hl : (Cond.fieldLink own i ref n "[I") ∈ lwG) (hd : decode cc pc = .ok (.getstatic i, 3)) (hq : pc + 3 = q) : Sn (Jd p l e R s m args below meth c nL w cells slots Qm) pc (i_rc pp q) := by
  subst hq; subst hs
  intro k L sk h ht hk H locs ls hP hS hL
  exact va_gets X.1 X.2.1 hZ hS X.2.2.2.1 (X.2.2.2.2.1 _ hl) (fun _ h9 => h9) hd (hk _ ht H locs ls hP hS hL)
theorem sn_getsN (X : Cxt p m c cc nL s args own w) {n : String} {pp i : Nat} (hZ : va_Z "MannersGaol" n "[I" (.ref (wad w pp)) (wA w) s s.heap) (hl : va_Nw (.fieldLinkNest own i "MannersGaol" n "[I" "MannersGaol") s) (hd : decode cc pc = .ok (.getstatic i, 3)) (hq : pc + 3 = q) : Sn (Jd p l e R s m args below meth c nL w cells slots Qm) pc (i_rc pp q) := by
  subst hq
  intro k L sk h ht hk H locs ls hP hS hL
  exact va_getsN X.1 X.2.1 hZ hS X.2.2.2.1 (va_Nw.use rfl hl) (fun _ h9 => h9) hd (hk _ ht H locs ls hP hS hL)
theorem csum_eq (ad : Nat → Nat) : ∀ r : List Value, ((r.map (cv ad)).map fun v => v.category).sum = csum r
  | [] => rfl
  | v :: r => by
    have := csum_eq ad r
    simp only [List.map_cons, List.sum_cons, csum, cv_cat] at this ⊢
    omega
end SNH
