/-! TWO GAOLS THAT ARE THE SAME as far as anything can be asked -/
def Geq (G H : GG) : Prop := (G 0 6 = H 0 6 ∧ G 0 7 = H 0 7 ∧ G 0 8 = H 0 8) ∧ (∀ k, k < 4 → G 1 k = H 1 k) ∧ (∀ k, k < 8 → G 2 k = H 2 k) ∧ ∀ i, i < nG G → G 3 i = H 3 i ∧ G 4 i = H 4 i ∧ G 5 i = H 5 i ∧ G 6 i = H 6 i
theorem Geq_n {G H : GG} (h : Geq G H) : nG G = nG H := by simp only [nG, h.1.1]
theorem Geq.refl (G : GG) : Geq G G := ⟨⟨rfl, rfl, rfl⟩, fun _ _ => rfl, fun _ _ => rfl, fun _ _ => ⟨rfl, rfl, rfl, rfl⟩⟩
theorem Geq.symm {G H : GG} (h : Geq G H) : Geq H G := ⟨⟨h.1.1.symm, h.1.2.1.symm, h.1.2.2.symm⟩, fun k hk => (h.2.1 k hk).symm, fun k hk => (h.2.2.1 k hk).symm, fun i hi => by
  have := h.2.2.2 i (by rw [Geq_n h]; exact hi)
  exact ⟨this.1.symm, this.2.1.symm, this.2.2.1.symm, this.2.2.2.symm⟩⟩
theorem Geq.trans {G H K : GG} (h : Geq G H) (g : Geq H K) : Geq G K := ⟨⟨h.1.1.trans g.1.1, h.1.2.1.trans g.1.2.1, h.1.2.2.trans g.1.2.2⟩, fun k hk => (h.2.1 k hk).trans (g.2.1 k hk), fun k hk => (h.2.2.1 k hk).trans (g.2.2.1 k hk), fun i hi => by
  have a := h.2.2.2 i hi
  have b := g.2.2.2 i (by rw [← Geq_n h]; exact hi)
  exact ⟨a.1.trans b.1, a.2.1.trans b.2.1, a.2.2.1.trans b.2.2.1, a.2.2.2.trans b.2.2.2⟩⟩
theorem InvR_c {G H : GG} (h : Geq G H) (i : InvR G) : InvR H := by
  obtain ⟨a, b⟩ := i
  refine ⟨by rw [← h.1.1]; exact a, fun k hk => ?_⟩
  rw [← Geq_n h] at hk
  have e := h.2.2.2 k hk
  rw [← e.2.2.1, ← e.2.2.2, ← h.1.1]
  exact b k hk
theorem nG_8 {G : GG} (h : InvR G) : nG G ≤ 8 := by
  obtain ⟨n, n8, hn, hi⟩ := cntN h.1.1 h.1.2
  exact Nat.le_trans (Nat.le_of_eq hi) n8
theorem ix_n {G : GG} (h : InvR G) {o : Int32} (h0 : 0 ≤ o) (h1 : o < G 0 6) : ix o < nG G := by
  obtain ⟨n, n8, hn, hi⟩ := cntN h.1.1 h.1.2
  rw [show nG G = n from hi]
  rw [hn] at h1
  exact ix_lt h0 h1 (by omega)
theorem thG_c {G H : GG} (h : Geq G H) (r : Int32) : ∀ j, j ≤ nG G → thG G r j = thG H r j
  | 0, _ => rfl
  | j + 1, hj => by
    simp only [thG]
    rw [thG_c h r j (by omega), (h.2.2.2 j (by omega)).2.2.1]
theorem thN_c {G H : GG} (h : Geq G H) (r : Int32) : thG G r (nG G) = thG H r (nG H) := by
  rw [← Geq_n h]
  exact thG_c h r _ (Nat.le_refl _)
theorem outG_c {G H : GG} (h : Geq G H) : outG G = outG H := by
  unfold outG; rw [thN_c h]
theorem heldB_c {G H : GG} (h : Geq G H) (hi : InvR G) {i : Nat} (hn : i < nG G) : heldB G i = heldB H i := by
  have e := h.2.2.2 i hn
  unfold heldB
  rw [← e.2.2.1, ← e.2.2.2, ← h.1.1]
  by_cases c : 0 ≤ G 6 i ∧ G 6 i < G 0 6
  · rw [(h.2.2.2 (ix (G 6 i)) (ix_n hi c.1 c.2)).2.2.1]
  · have : ∀ x y : Int32, (if ¬ G 5 i = 8 ∧ 0 ≤ G 6 i ∧ G 6 i < G 0 6 ∧ x = y then (1 : Int32) else 0) = 0 := by
      intro x y
      rw [if_neg]
      intro q
      exact c ⟨q.2.1, q.2.2.1⟩
    rw [this, this]
theorem riteG_c {G H : GG} (h : Geq G H) {i : Nat} (hn : i < nG G) : riteG G i = riteG H i := by
  have e := h.2.2.2 i hn
  unfold riteG
  rw [← e.2.2.1]
  split
  · rename_i c
    exact h.2.2.1 _ (ix_lt (n := 8) c.1 c.2 (by decide))
  · rfl
theorem needG_c {G H : GG} (h : Geq G H) {i : Nat} (hn : i < nG G) : needG G i = needG H i := by
  have e := h.2.2.2 i hn
  unfold needG
  rw [riteG_c h hn, e.1, e.2.1, e.2.2.1, thN_c h, h.1.2.1, h.2.1 0 (by decide)]
theorem payG_c {G H : GG} (h : Geq G H) {i : Nat} (hn : i < nG G) : payG G i = payG H i := by
  have e := h.2.2.2 i hn
  unfold payG
  rw [e.1, h.2.1 2 (by decide)]
theorem gainG_c {G H : GG} (h : Geq G H) {i : Nat} (hn : i < nG G) : gainG G i = gainG H i := by
  have e := h.2.2.2 i hn
  unfold gainG
  rw [e.1, h.2.1 0 (by decide), h.2.1 1 (by decide)]
theorem Geq_up {G H : GG} (h : Geq G H) {j : Nat} (k : Nat) (v : Int32) (hj : ¬ (j = 0 ∧ k = 6)) : Geq (up2 G j k v) (up2 H j k v) := by
  have hn := upd_count (G := G) (j := j) (k := k) (x := v) hj
  refine ⟨⟨?_, ?_, ?_⟩, fun a ha => ?_, fun a ha => ?_, fun a ha => ?_⟩
  · simp only [up2]; rw [h.1.1]
  · simp only [up2]; rw [h.1.2.1]
  · simp only [up2]; rw [h.1.2.2]
  · simp only [up2]; rw [h.2.1 a ha]
  · simp only [up2]; rw [h.2.2.1 a ha]
  · rw [hn] at ha
    have e := h.2.2.2 a ha
    simp only [up2]; rw [e.1, e.2.1, e.2.2.1, e.2.2.2]
    exact ⟨rfl, rfl, rfl, rfl⟩
theorem turnG_c {G H : GG} (h : Geq G H) (hi : InvR G) {i : Nat} (hn : i < nG G) : Geq (turnG G i) (turnG H i) := by
  have e := h.2.2.2 i hn
  unfold turnG
  rw [← heldB_c h hi hn, ← needG_c h hn, ← payG_c h hn, ← gainG_c h hn, ← e.2.1, ← e.2.2.1]
  split
  · exact Geq_up (Geq_up h _ _ (by simp)) _ _ (by simp)
  · exact Geq_up h _ _ (by simp)
theorem step_n (G : GG) (j : Nat) : nG (stepG G j) = nG G := by simp only [nG, step_0]
theorem stepG_c {G H : GG} (h : Geq G H) (hi : InvR G) : ∀ j, j ≤ nG G → Geq (stepG G j) (stepG H j)
  | 0, _ => h
  | j + 1, hj => by
    have ih := stepG_c h hi j (by omega)
    have hn : j < nG (stepG G j) := by rw [step_n]; omega
    have e := ih.2.2.2 j hn
    simp only [stepG]
    rw [← e.2.2.1]
    split
    · exact ih
    · exact turnG_c ih (inv_step hi j) hn
theorem occG_c {G H : GG} (h : Geq G H) (hi : InvR G) : Geq (occG G) (occG H) := by
  have s := stepG_c h hi (nG G) (Nat.le_refl _)
  unfold occG
  rw [← Geq_n h, ← s.1.2.1]
  exact Geq_up s _ _ (by decide)
theorem occN_c {G H : GG} (h : Geq G H) (hi : InvR G) : ∀ k, Geq (occN G k) (occN H k)
  | 0 => h
  | k + 1 => occG_c (occN_c h hi k) (inv_occN hi k)
theorem occN_n (G : GG) (k : Nat) : nG (occN G k) = nG G := by simp only [nG, occN_6]
theorem fstT_c {G H : GG} (h : Geq G H) (hi : InvR G) {i : Nat} (hn : i < nG G) (room : Int32) : ∀ d t, fstT G i room d t = fstT H i room d t
  | 0, _ => rfl
  | d + 1, t => by
    have e := (occN_c h hi t).2.2.2 i (by rw [occN_n]; exact hn)
    simp only [fstT]
    rw [e.2.2.1, fstT_c h hi hn room d (t + 1)]
theorem oneI_c {G H : GG} (h : Geq G H) : oneI G = oneI H := by unfold oneI; rw [h.1.1, h.1.2.2]
theorem chI_c {G H : GG} (h : Geq G H) : chI G = chI H := by unfold chI; rw [h.1.2.2]
theorem snzG_c {G H : GG} (h : Geq G H) (hi : InvR G) : Geq (snzG G) (snzG H) := by
  unfold snzG
  rw [← h.1.1, ← oneI_c h, ← chI_c h, ← h.1.2.2, ← h.2.1 3 (by decide)]
  split
  · rename_i c0
    have o := one_rng c0 hi.1.2
    have e := h.2.2.2 _ (ix_n hi o.1 o.2)
    rw [← e.2.2.1]
    split
    · exact Geq_up (Geq_up h _ _ (by decide)) _ _ (by simp)
    · exact Geq_up h _ _ (by decide)
  · exact h
theorem drwG_c {G H : GG} (h : Geq G H) (hi : InvR G) : Geq (drwG G) (drwG H) := occG_c (snzG_c h hi) (inv_snz hi)
theorem hdG_c {G H : GG} (h : Geq G H) (hi : InvR G) : ∀ j, j ≤ nG G → hdG G j = hdG H j
  | 0, _ => rfl
  | j + 1, hj => by
    simp only [hdG]
    rw [hdG_c h hi j (by omega), heldB_c h hi (by omega)]
theorem wtG_c {G H : GG} (h : Geq G H) : ∀ j, j ≤ nG G → wtG G j = wtG H j
  | 0, _ => rfl
  | j + 1, hj => by
    simp only [wtG]
    rw [wtG_c h j (by omega), (h.2.2.2 j (by omega)).2.2.2]
theorem grG_c {G H : GG} (h : Geq G H) : ∀ j, j ≤ nG G → grG G j = grG H j
  | 0, _ => rfl
  | j + 1, hj => by
    simp only [grG]
    rw [grG_c h j (by omega), (h.2.2.2 j (by omega)).2.1]
theorem rtG_c {G H : GG} (h : Geq G H) : ∀ j, j ≤ 8 → rtG G j = rtG H j
  | 0, _ => rfl
  | j + 1, hj => by
    simp only [rtG]
    rw [rtG_c h j (by omega), h.2.2.1 j (by omega)]
theorem cwG_c {G H : GG} (h : Geq G H) : ∀ j, cwG G j = cwG H j
  | 0 => rfl
  | j + 1 => by
    simp only [cwG]
    rw [cwG_c h j, thN_c h]
theorem rgA_c {G H : GG} (h : Geq G H) (hi : InvR G) : ∀ d o, rgA G d o = rgA H d o
  | 0, _ => rfl
  | d + 1, o => by
    simp only [rgA]
    rw [← h.1.1]
    split
    · rename_i c
      rw [(h.2.2.2 _ (ix_n hi c.1 c.2)).2.2.2]
      exact rgA_c h hi d _
    · rfl
theorem rgB_c {G H : GG} (h : Geq G H) (hi : InvR G) : ∀ d o r, rgB G d o r = rgB H d o r
  | 0, _, _ => rfl
  | d + 1, o, r => by
    simp only [rgB]
    rw [← h.1.1]
    split
    · rename_i c
      rw [(h.2.2.2 _ (ix_n hi c.1 c.2)).2.2.2]
      exact rgB_c h hi d _ _
    · rfl
theorem cpG_c (D S : GG) (h8 : nG S ≤ 8) : Geq (cpG D S) S := by
  have e6 : cpG D S 0 6 = S 0 6 := by simp [cpG, up2, upA]
  have hn : nG (cpG D S) = nG S := by simp only [nG, e6]
  refine ⟨⟨e6, by simp [cpG, up2], by simp [cpG, up2]⟩, fun k hk => ?_, fun k hk => ?_, fun i hi => ?_⟩
  · simp [cpG, up2, upA, cpy_at, hk]
  · simp [cpG, up2, upA, cpy_at, hk]
  · rw [hn] at hi
    have : i < 8 := by omega
    simp [cpG, up2, upA, cpy_at, this]
/-! THE RELATION between the class's cells and the reference's -/
def KI (G : GG) : Prop := ∀ i, i < nG G → 0 ≤ G 3 i ∧ G 3 i ≤ 5
def InvG (G : GG) : Prop := InvR G ∧ (0 ≤ G 1 3 ∧ G 1 3 ≤ 99) ∧ KI G
theorem InvG_c {G H : GG} (h : Geq G H) (i : InvG G) : InvG H := ⟨InvR_c h i.1, by rw [← h.2.1 3 (by decide)]; exact i.2.1, fun k hk => by
  rw [← Geq_n h] at hk
  rw [← (h.2.2.2 k hk).1]; exact i.2.2 k hk⟩
theorem InvR_n {G : GG} (i : InvR G) {j k : Nat} {v : Int32} (hj : j ≠ 0 ∧ j ≠ 5 ∧ j ≠ 6) : InvR (up2 G j k v) := by
  refine ⟨?_, fun a ha => ?_⟩
  · simp only [up2]; rw [if_neg (by omega)]; exact i.1
  · rw [upd_count (by omega)] at ha
    simp only [up2]
    rw [if_neg (by omega), if_neg (by omega), if_neg (by omega)]
    exact i.2 a ha
theorem KI_n {G : GG} (i : KI G) {j k : Nat} {v : Int32} (hj : j ≠ 3 ∧ ¬ (j = 0 ∧ k = 6)) : KI (up2 G j k v) := by
  intro a ha
  rw [upd_count hj.2] at ha
  simp only [up2]
  rw [if_neg (fun e => hj.1 e.symm)]
  exact i a ha
def RG (h : Hp) : Prop := Geq (vg h 1) (mv (h 42)) ∧ InvG (vg h 1)
def RK (h : Hp) : Prop := h 0 3 = h 41 4 ∧ (h 0 3 = 0 ∨ h 0 3 = 1) ∧ (h 0 3 = 1 → Geq (vg h 15) (mv (h 43)) ∧ InvG (vg h 15))
def RT (h : Hp) : Prop := h 22 1 = h 41 6 ∧ (0 ≤ h 22 1 ∧ h 22 1 ≤ 200) ∧ ∀ k, k < ix (h 22 1) → h 23 k = h 46 k ∧ (0 ≤ h 23 k ∧ h 23 k ≤ 255)
def RW2 (h : Hp) : Prop := h 0 6 = h 41 14 ∧ (0 ≤ h 0 6 ∧ h 0 6 ≤ 10) ∧ ∀ k, k < 3 * ix (h 0 6) → h 24 k = h 48 k
def RS1 (sz it : Nat → Int32) (so si nu : Int32) (n : Nat → Int32) : Prop := sz 1 = so ∧ sz 2 = si ∧ (-1 ≤ so ∧ so ≤ 3) ∧ (0 ≤ si ∧ si ≤ 40) ∧ ∀ k, k < 40 → it k = n k
def RS (h : Hp) : Prop := ∀ t, t < 4 → h (26 + t) 1 = h 49 t ∧ h (26 + t) 2 = h 50 t ∧ (-1 ≤ h 49 t ∧ h 49 t ≤ 3) ∧ (0 ≤ h 50 t ∧ h 50 t ≤ 40) ∧ ∀ k, k < 40 → h (30 + t) k = h 51 (40 * t + k)
def RH (h : Hp) : Prop := ∀ t, t < 4 → (h (35 + t) 0 = 0 ∧ h 52 t = 1 ∧ h (35 + t) 1 = h 53 t) ∨ (h (35 + t) 0 = 1 ∧ h 52 t = 2 ∧ h (35 + t) 2 = h 53 t ∧ h (35 + t) 3 = h 54 t) ∨ (h (35 + t) 0 = 2 ∧ h 52 t = 0)
def RD (h : Hp) : Prop := h 39 1 = h 41 22 ∧ (0 ≤ h 39 1 ∧ h 39 1 ≤ 30) ∧ ∀ k, k < ix (h 39 1) → h 40 k = h 55 k
def Rel (h : Hp) : Prop := RG h ∧ RK h ∧ RT h ∧ RW2 h ∧ RS h ∧ RH h ∧ RD h
/-- only the gaol of now, and what nobody reads -/
def scr (p : Nat) : Prop := (1 ≤ p ∧ p ≤ 14) ∨ p = 42 ∨ p = 44 ∨ p = 45 ∨ p = 47
theorem Rel_now {h g : Hp} (r : Rel h) (same : ∀ p, ¬ scr p → g p = h p) (hG : RG g) : Rel g := by
  have s : ∀ p, 15 ≤ p → p ≤ 41 → g p = h p := fun p h1 h2 => same p (by unfold scr; omega)
  have s2 : ∀ p, 48 ≤ p → p ≤ 55 → g p = h p := fun p h1 h2 => same p (by unfold scr; omega)
  have s0 : g 0 = h 0 := same 0 (by unfold scr; omega)
  have s43 : g 43 = h 43 := same 43 (by unfold scr; omega)
  have s46 : g 46 = h 46 := same 46 (by unfold scr; omega)
  have s41 : g 41 = h 41 := s 41 (by omega) (by omega)
  obtain ⟨_, rk, rt, rw_, rs, rh, rd⟩ := r
  refine ⟨hG, ?_, ?_, ?_, ?_, ?_, ?_⟩
  · unfold RK at rk ⊢
    rw [s0, s41, s43]
    refine ⟨rk.1, rk.2.1, fun c => ?_⟩
    have := rk.2.2 c
    have e : Geq (vg g 15) (vg h 15) := by
      have e : ∀ j, j ≤ 6 → vg g 15 j = vg h 15 j := fun j hj => by
        funext k; simp only [vg]; rw [s (15 + j) (by omega) (by omega)]
      unfold Geq
      rw [e 0 (by omega), e 1 (by omega), e 2 (by omega), e 3 (by omega), e 4 (by omega), e 5 (by omega), e 6 (by omega)]
      exact ⟨⟨rfl, rfl, rfl⟩, fun _ _ => rfl, fun _ _ => rfl, fun _ _ => ⟨rfl, rfl, rfl, rfl⟩⟩
    exact ⟨e.trans this.1, InvG_c e.symm this.2⟩
  · unfold RT at rt ⊢
    rw [s 22 (by omega) (by omega), s41, s 23 (by omega) (by omega), s46]
    exact rt
  · unfold RW2 at rw_ ⊢
    rw [s0, s41, s 24 (by omega) (by omega), s2 48 (by omega) (by omega)]
    exact rw_
  · intro t ht
    rw [s (26 + t) (by omega) (by omega), s (30 + t) (by omega) (by omega), s2 49 (by omega) (by omega), s2 50 (by omega) (by omega), s2 51 (by omega) (by omega)]
    exact rs t ht
  · intro t ht
    rw [s (35 + t) (by omega) (by omega), s2 52 (by omega) (by omega), s2 53 (by omega) (by omega), s2 54 (by omega) (by omega)]
    exact rh t ht
  · unfold RD at rd ⊢
    rw [s 39 (by omega) (by omega), s41, s 40 (by omega) (by omega), s2 55 (by omega) (by omega)]
    exact rd
