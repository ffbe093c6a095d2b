/-! THE ABSTRACT GAOL: component, place -> number. 0: 6 count, 7 occasion, 8 z; 1 laws; 2 rites; 3 kinds; 4 graces; 5 rooms; 6 hosts -/
abbrev GG : Type := Nat → Nat → Int32
def b2 (c : Prop) [Decidable c] : Int32 := if c then 1 else 0
theorem b2_0 (c : Prop) {d : Decidable c} : (@b2 c d = 0) = ¬ c := by
  unfold b2; by_cases h : c <;> simp [h]
theorem b2_n0 (c : Prop) {d : Decidable c} : (¬ @b2 c d = 0) = c := by
  unfold b2; by_cases h : c <;> simp [h]
theorem b2_01 (c : Prop) {d : Decidable c} : (@b2 c d = 0 ∨ @b2 c d = 1) = True := by
  unfold b2; by_cases h : c <;> simp [h]
theorem l01_0 : ((0 : Int32) = 0 ∨ (0 : Int32) = 1) = True := by simp
theorem l01_1 : ((1 : Int32) = 0 ∨ (1 : Int32) = 1) = True := by simp
def GB (b : Nat) : Prop := b = 1 ∨ b = 8
theorem GB_1 : GB 1 = True := by simp [GB]
theorem GB_8 : GB 8 = True := by simp [GB]
theorem vpi {i : Int32} {n : Nat} (hn : n < 2 ^ 31) (h0 : 0 ≤ i) (h1 : i < nI n) : vp_in i n := by
  rw [vp_in_iff]
  rw [Int32.le_iff_toInt_le] at h0
  rw [Int32.lt_iff_toInt_lt, nI_toInt hn] at h1
  exact ⟨by simpa using h0, h1⟩
theorem vpi_iff {i : Int32} {n : Nat} (hn : n < 2 ^ 31) : vp_in i n ↔ 0 ≤ i ∧ i < nI n := by
  constructor
  · intro h
    rw [vp_in_iff] at h
    rw [Int32.le_iff_toInt_le, Int32.lt_iff_toInt_lt, nI_toInt hn]
    exact ⟨by simpa using h.1, h.2⟩
  · rintro ⟨a, b⟩
    exact vpi hn a b
theorem v4 (i : Int32) : vp_in i 4 = (0 ≤ i ∧ i < 4) := propext (vpi_iff (by decide))
theorem v6 (i : Int32) : vp_in i 6 = (0 ≤ i ∧ i < 6) := propext (vpi_iff (by decide))
theorem v8 (i : Int32) : vp_in i 8 = (0 ≤ i ∧ i < 8) := propext (vpi_iff (by decide))
theorem v24 (i : Int32) : vp_in i 24 = (0 ≤ i ∧ i < 24) := propext (vpi_iff (by decide))
theorem v30 (i : Int32) : vp_in i 30 = (0 ≤ i ∧ i < 30) := propext (vpi_iff (by decide))
theorem v40 (i : Int32) : vp_in i 40 = (0 ≤ i ∧ i < 40) := propext (vpi_iff (by decide))
theorem v47 (i : Int32) : vp_in i 47 = (0 ≤ i ∧ i < 47) := propext (vpi_iff (by decide))
theorem v160 (i : Int32) : vp_in i 160 = (0 ≤ i ∧ i < 160) := propext (vpi_iff (by decide))
theorem v200 (i : Int32) : vp_in i 200 = (0 ≤ i ∧ i < 200) := propext (vpi_iff (by decide))
abbrev ix (i : Int32) : Nat := i.toNatClampNeg
theorem ix_nI {n : Nat} (h : n < 2 ^ 31) : ix (nI n) = n := nI_clamp h
theorem ix_lt {i : Int32} {n : Nat} (h0 : 0 ≤ i) (h1 : i < nI n) (hn : n < 2 ^ 31) : ix i < n := by
  obtain ⟨j, h2, h3⟩ := vp_in_of (vpi hn h0 h1) hn
  rw [h3, ix_nI (by omega)]
  exact h2
theorem nI_ix {i : Int32} (h0 : 0 ≤ i) : nI (ix i) = i := by
  obtain ⟨j, h2, h3⟩ := nI_of (x := i) (Int32.not_lt.mpr h0)
  rw [h3, ix_nI h2]
theorem ix_lits : ix 0 = 0 ∧ ix 1 = 1 ∧ ix 2 = 2 ∧ ix 3 = 3 ∧ ix 4 = 4 ∧ ix 5 = 5 ∧ ix 6 = 6 := by decide
/-- the gaol whose first cell is b, as the heap has it -/
def vg (h : Hp) (b j k : Nat) : Int32 := h (b + j) k
def pg (h : Hp) (b : Nat) (G : GG) (p k : Nat) : Int32 := if p < b then h p k else G (p - b) k
theorem vg_pg (h : Hp) (b : Nat) (G : GG) : vg (pg h b G) b = G := by
  funext j k
  have : ¬ b + j < b := by omega
  simp [vg, pg, this]
theorem pg_vg (h : Hp) (b : Nat) : pg h b (vg h b) = h := by
  funext p k
  simp only [pg, vg]
  split
  · rfl
  · rw [Nat.add_sub_cancel' (by omega)]
theorem pg_pg (h : Hp) (b : Nat) (G G' : GG) : pg (pg h b G) b G' = pg h b G' := by
  funext p k; simp only [pg]; split <;> rfl
theorem pg_ge (h : Hp) (b j : Nat) (G : GG) : pg h b G (b + j) = G j := by
  funext k
  have : ¬ b + j < b := by omega
  simp [pg, this]
theorem pg_lt (h : Hp) {b p : Nat} (G : GG) (hp : p < b) : pg h b G p = h p := by
  funext k; simp [pg, hp]
theorem up2_pg (h : Hp) (b j k : Nat) (G : GG) (x : Int32) : up2 (pg h b G) (b + j) k x = pg h b (up2 G j k x) := by
  funext p q
  simp only [up2, pg]
  by_cases hp : p < b
  · have : p ≠ b + j := by omega
    simp [hp, this]
  · by_cases e : p = b + j
    · subst e; simp [hp]
    · have : ¬ p - b = j := by omega
      simp [hp, e, this]
theorem up2_vg (h : Hp) (b j k : Nat) (x : Int32) : up2 h (b + j) k x = pg h b (up2 (vg h b) j k x) := by
  conv => lhs; rw [← pg_vg h b]
  rw [up2_pg]
theorem upA_vg (h : Hp) (b j : Nat) (f : Nat → Int32) : upA h (b + j) f = pg h b (upA (vg h b) j f) := by
  funext p q
  simp only [upA, pg, vg]
  by_cases hp : p < b
  · have : p ≠ b + j := by omega
    simp [hp, this]
  · by_cases e : p = b + j
    · subst e; simp [hp]
    · have h2 : ¬ p - b = j := by omega
      simp only [hp, e, h2, if_false]
      show h p q = h (b + (p - b)) q
      rw [Nat.add_sub_cancel' (by omega)]
theorem up2_at (h : Hp) (p k : Nat) (x : Int32) (p1 k1 : Nat) : up2 h p k x p1 k1 = if p1 = p then (if k1 = k then x else h p1 k1) else h p1 k1 := rfl
abbrev nG (G : GG) : Nat := ix (G 0 6)
/-- numbers of set bits, of sets below 256 -/
def pc8 (x : Int32) : Int32 := nI ((List.range 8).countP (fun j => x.toBitVec.getLsbD j))
/-- those in a room -/
def thG (G : GG) (room : Int32) : Nat → Int32
  | 0 => 0
  | j + 1 => if G 5 j = room then thG G room j ||| ((1 : Int32) <<< (nI j &&& 31)) else thG G room j
theorem or_key : ∀ j, j < 8 → ∀ k, k < 256 → k < 2 ^ j → (0 ≤ (nI k ||| ((1 : Int32) <<< (nI j &&& 31))) ∧ (nI k ||| ((1 : Int32) <<< (nI j &&& 31))) < nI (2 ^ (j + 1))) := by decide +kernel
theorem or_rng (j : Nat) (hj : j < 8) (x : Int32) (h0 : 0 ≤ x) (h1 : x < nI (2 ^ j)) : 0 ≤ (x ||| ((1 : Int32) <<< (nI j &&& 31))) ∧ (x ||| ((1 : Int32) <<< (nI j &&& 31))) < nI (2 ^ (j + 1)) := by
  have h2 : (2 : Nat) ^ j < 2 ^ 31 := Nat.pow_lt_pow_right (by decide) (by omega)
  have h3 : (2 : Nat) ^ j ≤ 2 ^ 8 := Nat.pow_le_pow_right (by decide) (by omega)
  obtain ⟨k, a, b⟩ := vp_in_of (vpi h2 h0 h1) h2
  rw [b]
  exact or_key j hj k (by omega) a
theorem rng_up {j : Nat} (hj : j < 8) {x : Int32} (h1 : x < nI (2 ^ j)) : x < nI (2 ^ (j + 1)) := by
  have a : (2 : Nat) ^ j ≤ 2 ^ (j + 1) := Nat.pow_le_pow_right (by decide) (by omega)
  have b : (2 : Nat) ^ (j + 1) ≤ 2 ^ 8 := Nat.pow_le_pow_right (by decide) (by omega)
  rw [Int32.lt_iff_toInt_lt] at h1 ⊢
  rw [nI_toInt (by omega)] at h1 ⊢
  omega
theorem thG_rng (G : GG) (room : Int32) : ∀ j, j ≤ 8 → 0 ≤ thG G room j ∧ thG G room j < nI (2 ^ j)
  | 0, _ => by
    show 0 ≤ (0 : Int32) ∧ (0 : Int32) < nI (2 ^ 0)
    decide
  | j + 1, hj => by
    obtain ⟨a, b⟩ := thG_rng G room j (by omega)
    unfold thG
    split
    · exact or_rng j (by omega) _ a b
    · exact ⟨a, rng_up (by omega) b⟩
theorem rng256 {j : Nat} (hj : j ≤ 8) {x : Int32} (h1 : x < nI (2 ^ j)) : x < 256 := by
  have b : (2 : Nat) ^ j ≤ 2 ^ 8 := Nat.pow_le_pow_right (by decide) (by omega)
  rw [Int32.lt_iff_toInt_lt] at h1 ⊢
  rw [nI_toInt (by omega)] at h1
  have : (256 : Int32).toInt = 256 := by decide
  omega
theorem thG_256 (G : GG) (room : Int32) {j : Nat} (hj : j ≤ 8) : 0 ≤ thG G room j ∧ thG G room j < 256 := ⟨(thG_rng G room j hj).1, rng256 hj (thG_rng G room j hj).2⟩
/-- one waits for another in the same room -/
def heldG (G : GG) (i : Nat) : Prop := ¬ G 5 i = 8 ∧ 0 ≤ G 6 i ∧ G 6 i < G 0 6 ∧ G 5 (ix (G 6 i)) = G 5 i
def heldD (G : GG) (i : Nat) : Decidable (heldG G i) := by unfold heldG; infer_instance
def heldB (G : GG) (i : Nat) : Int32 := if ¬ G 5 i = 8 ∧ 0 ≤ G 6 i ∧ G 6 i < G 0 6 ∧ G 5 (ix (G 6 i)) = G 5 i then 1 else 0
def outB (G : GG) (i : Nat) : Int32 := if G 5 i = 8 then 1 else 0
theorem outB_0 (G : GG) (i : Nat) : (outB G i = 0) = ¬ G 5 i = 8 := by unfold outB; split <;> simp_all
theorem outB_01 (G : GG) (i : Nat) : (outB G i = 0 ∨ outB G i = 1) = True := by unfold outB; split <;> simp
theorem heldB_01 (G : GG) (i : Nat) : (heldB G i = 0 ∨ heldB G i = 1) = True := by unfold heldB; split <;> simp
def riteG (G : GG) (i : Nat) : Int32 := if 0 ≤ G 5 i ∧ G 5 i < 8 then G 2 (ix (G 5 i)) else 0
def outG (G : GG) : Int32 := pc8 (thG G 8 (nG G))
def needG (G : GG) (i : Nat) : Int32 :=
  if G 3 i = 1 then riteG G i + G 1 0
  else if G 3 i = 2 then riteG G i / 2
  else if G 3 i = 3 then riteG G i + G 1 0 - G 4 i / 10
  else if G 3 i = 4 then riteG G i / 2 + pc8 (thG G (G 5 i) (nG G)) - 1
  else if G 3 i = 5 then (if G 0 7 - G 0 7 / 2 * 2 = 0 then riteG G i else 0)
  else riteG G i
def payG (G : GG) (i : Nat) : Int32 :=
  if G 3 i = 1 then G 1 2 + 1
  else if G 3 i = 2 then G 1 2 - 3
  else if G 3 i = 3 then (G 1 2 + 1) * 2
  else if G 3 i = 4 then G 1 2 - 3 - G 1 2
  else if G 3 i = 5 then 0
  else G 1 2
def gainG (G : GG) (i : Nat) : Int32 :=
  if G 3 i = 2 then G 1 1 + 2
  else if G 3 i = 3 then G 1 1 - 1
  else if G 3 i = 4 then G 1 1 + 2 + G 1 0
  else if G 3 i = 5 then G 1 1 * 2
  else G 1 1
def clp (v : Int32) : Int32 := if v < 0 then 0 else if 99 < v then 99 else v
def turnG (G : GG) (i : Nat) : GG := if heldB G i = 0 ∧ needG G i ≤ G 4 i then up2 (up2 G 5 i (G 5 i + 1)) 4 i (clp (G 4 i - payG G i)) else up2 G 4 i (clp (G 4 i + gainG G i))
def stepG (G : GG) : Nat → GG
  | 0 => G
  | j + 1 => if stepG G j 5 j = 8 then stepG G j else turnG (stepG G j) j
def occG (G : GG) : GG := up2 (stepG G (nG G)) 0 7 (stepG G (nG G) 0 7 + 1)
def occN (G : GG) : Nat → GG
  | 0 => G
  | k + 1 => occG (occN G k)
def drawZ (z : Int32) : Int32 := z * 1103515245 + 12345
def drawV (z : Int32) : Int32 := (z.toUInt32 >>> ((16 : Int32).toUInt32 &&& Int32.toUInt32 31)).toInt32
theorem upd_count {G : GG} {j k : Nat} {x : Int32} (h : ¬ (j = 0 ∧ k = 6)) : nG (up2 G j k x) = nG G := by
  have : up2 G j k x 0 6 = G 0 6 := by
    simp only [up2]
    split
    · rename_i a
      split
      · rename_i b
        exact absurd ⟨a.symm, b.symm⟩ h
      · rfl
    · rfl
  simp only [nG, this]
theorem turn_0 (G : GG) (i k : Nat) : turnG G i 0 k = G 0 k := by
  unfold turnG; split <;> simp [up2]
theorem turn_hi (G : GG) (i : Nat) {j : Nat} (hj : j ≠ 4 ∧ j ≠ 5) : turnG G i j = G j := by
  unfold turnG; funext k; split <;> simp [up2, hj.1, hj.2]
theorem step_0 (G : GG) (k : Nat) : ∀ j, stepG G j 0 k = G 0 k
  | 0 => rfl
  | j + 1 => by
    unfold stepG
    split
    · exact step_0 G k j
    · rw [turn_0, step_0 G k j]
theorem step_hi (G : GG) {c : Nat} (hc : c ≠ 4 ∧ c ≠ 5) : ∀ j, stepG G j c = G c
  | 0 => rfl
  | j + 1 => by
    unfold stepG
    split
    · exact step_hi G hc j
    · rw [turn_hi _ _ hc, step_hi G hc j]
theorem occ_6 (G : GG) : occG G 0 6 = G 0 6 := by simp [occG, up2, step_0]
theorem occ_hi (G : GG) {c : Nat} (hc : c ≠ 4 ∧ c ≠ 5 ∧ c ≠ 0) : occG G c = G c := by
  funext k; simp [occG, up2, hc.2.2, step_hi G ⟨hc.1, hc.2.1⟩]
theorem occN_6 (G : GG) : ∀ k, occN G k 0 6 = G 0 6
  | 0 => rfl
  | k + 1 => by rw [occN, occ_6, occN_6 G k]
theorem occN_hi (G : GG) {c : Nat} (hc : c ≠ 4 ∧ c ≠ 5 ∧ c ≠ 0) : ∀ k, occN G k c = G c
  | 0 => rfl
  | k + 1 => by rw [occN, occ_hi _ hc, occN_hi G hc k]
