/-! THE TEXT: tokens as numbers -/
def spc (c : Int32) : Bool := decide (c = 32)
def alp (c : Int32) : Bool := decide (97 ≤ c ∧ c ≤ 122)
def dgt (c : Int32) : Bool := decide (48 ≤ c ∧ c ≤ 57)
def rE (n : Nat) (t : Nat → Int32) (P : Int32 → Bool) : Nat → Nat → Nat
  | 0, p => p
  | d + 1, p => if p < n ∧ P (t p) = true then rE n t P d (p + 1) else p
def en (n : Nat) (t : Nat → Int32) (P : Int32 → Bool) (p : Nat) : Nat := rE n t P (n - p) p
theorem en_no {n : Nat} {t : Nat → Int32} {P : Int32 → Bool} {p : Nat} (h : ¬ (p < n ∧ P (t p) = true)) : en n t P p = p := by
  unfold en
  cases n - p with
  | zero => rfl
  | succ d => rw [rE, if_neg h]
theorem en_s {n : Nat} {t : Nat → Int32} {P : Int32 → Bool} {p : Nat} (h : p < n ∧ P (t p) = true) : en n t P p = en n t P (p + 1) := by
  unfold en
  rw [show n - p = n - (p + 1) + 1 by omega, rE, if_pos h]
theorem rE_ge (n : Nat) (t : Nat → Int32) (P : Int32 → Bool) : ∀ d p, p ≤ rE n t P d p
  | 0, _ => Nat.le_refl _
  | d + 1, p => by
    rw [rE]
    split
    · exact Nat.le_trans (by omega) (rE_ge n t P d (p + 1))
    · exact Nat.le_refl _
theorem rE_le {n : Nat} (t : Nat → Int32) (P : Int32 → Bool) : ∀ d p, p ≤ n → rE n t P d p ≤ n
  | 0, _, h => h
  | d + 1, p, h => by
    rw [rE]
    split
    · rename_i c
      exact rE_le t P d (p + 1) (by omega)
    · exact h
theorem en_ge (n : Nat) (t : Nat → Int32) (P : Int32 → Bool) (p : Nat) : p ≤ en n t P p := rE_ge n t P _ p
theorem en_le {n : Nat} (t : Nat → Int32) (P : Int32 → Bool) {p : Nat} (h : p ≤ n) : en n t P p ≤ n := rE_le t P _ p h
theorem en_all {n : Nat} {t : Nat → Int32} {P : Int32 → Bool} : ∀ d p, d + p = n → ∀ j, p ≤ j → j < en n t P p → P (t j) = true
  | 0, p, e, j, h1, h2 => by
    rw [en_no (by omega)] at h2
    omega
  | d + 1, p, e, j, h1, h2 => by
    by_cases c : p < n ∧ P (t p) = true
    · rw [en_s c] at h2
      rcases Nat.lt_or_ge p j with x | x
      · exact en_all d (p + 1) (by omega) j x h2
      · have : j = p := by omega
        rw [this]; exact c.2
    · rw [en_no c] at h2
      omega
def st (n : Nat) (t : Nat → Int32) (p : Nat) : Nat := en n t spc p
def kd (n : Nat) (t : Nat → Int32) (s : Nat) : Nat := if s < n then (if alp (t s) = true then 1 else if dgt (t s) = true then 2 else 3) else 0
def ee (n : Nat) (t : Nat → Int32) (s : Nat) : Nat := if s < n then (if alp (t s) = true then en n t alp s else if dgt (t s) = true then en n t dgt s else s + 1) else s
def nx (n : Nat) (t : Nat → Int32) (p : Nat) : Nat := ee n t (st n t p)
def vC (t : Nat → Int32) : Nat → Nat → Int32 → Int32
  | 0, _, v => v
  | d + 1, p, v => vC t d (p + 1) (v * 10 + t p - 48)
def vM (t : Nat → Int32) : Nat → Nat → Int32 → Int32
  | 0, _, v => v
  | d + 1, p, v => vM t d (p + 1) (if 999 < v then v else 10 * v + t p - 48)
def vlC (n : Nat) (t : Nat → Int32) (s : Nat) : Int32 := if kd n t s = 2 then vC t (ee n t s - s) s 0 else 0
def vlM (n : Nat) (t : Nat → Int32) (s : Nat) : Int32 := if kd n t s = 2 then vM t (ee n t s - s) s 0 else 0
theorem st_ge (n : Nat) (t : Nat → Int32) (p : Nat) : p ≤ st n t p := en_ge n t spc p
theorem st_le {n : Nat} (t : Nat → Int32) {p : Nat} (h : p ≤ n) : st n t p ≤ n := en_le t spc h
theorem ee_le {n : Nat} (t : Nat → Int32) {s : Nat} (h : s ≤ n) : ee n t s ≤ n := by
  unfold ee
  split
  · split
    · exact en_le t alp h
    · split
      · exact en_le t dgt h
      · omega
  · exact h
theorem ee_ge (n : Nat) (t : Nat → Int32) (s : Nat) : s ≤ ee n t s := by
  unfold ee
  split
  · split
    · exact en_ge n t alp s
    · split
      · exact en_ge n t dgt s
      · omega
  · exact Nat.le_refl _
theorem ee_gt {n : Nat} {t : Nat → Int32} {s : Nat} (h : ¬ kd n t s = 0) : s < ee n t s := by
  unfold kd at h
  unfold ee
  split
  · rename_i c
    split
    · rename_i c2
      rw [en_s ⟨c, c2⟩]
      exact en_ge n t alp (s + 1)
    · split
      · rename_i c2
        rw [en_s ⟨c, c2⟩]
        exact en_ge n t dgt (s + 1)
      · omega
  · rename_i c
    rw [if_neg c] at h
    exact absurd rfl h
theorem nx_le {n : Nat} (t : Nat → Int32) {p : Nat} (h : p ≤ n) : nx n t p ≤ n := ee_le t (st_le t h)
theorem nx_gt {n : Nat} {t : Nat → Int32} {p : Nat} (h : ¬ kd n t (st n t p) = 0) : p < nx n t p := Nat.lt_of_le_of_lt (st_ge n t p) (ee_gt h)
theorem st_nx (n : Nat) (t : Nat → Int32) (p : Nat) : st n t p ≤ nx n t p := ee_ge n t _
/-- the token at a place, in the class's cell -/
def CK (n : Nat) (t : Nat → Int32) (h : Hp) (p : Nat) (f : Int32) : Hp := upA h 22 (fun j => if j = 1 then nI n else if j = 2 then nI (kd n t (st n t p)) else if j = 3 then nI (st n t p) else if j = 4 then nI (nx n t p) else if j = 5 then vlC n t (st n t p) else if j = 6 then f else h 22 j)
theorem CK_1 (n : Nat) (t : Nat → Int32) (h : Hp) (p : Nat) (f : Int32) : CK n t h p f 22 1 = nI n := by simp [CK, upA]
theorem CK_2 (n : Nat) (t : Nat → Int32) (h : Hp) (p : Nat) (f : Int32) : CK n t h p f 22 2 = nI (kd n t (st n t p)) := by simp [CK, upA]
theorem CK_3 (n : Nat) (t : Nat → Int32) (h : Hp) (p : Nat) (f : Int32) : CK n t h p f 22 3 = nI (st n t p) := by simp [CK, upA]
theorem CK_4 (n : Nat) (t : Nat → Int32) (h : Hp) (p : Nat) (f : Int32) : CK n t h p f 22 4 = nI (nx n t p) := by simp [CK, upA]
theorem CK_5 (n : Nat) (t : Nat → Int32) (h : Hp) (p : Nat) (f : Int32) : CK n t h p f 22 5 = vlC n t (st n t p) := by simp [CK, upA]
theorem CK_6 (n : Nat) (t : Nat → Int32) (h : Hp) (p : Nat) (f : Int32) : CK n t h p f 22 6 = f := by simp [CK, upA]
theorem CK_n (n : Nat) (t : Nat → Int32) (h : Hp) (p : Nat) (f : Int32) {q : Nat} (hq : q ≠ 22) : CK n t h p f q = h q := upA_ne hq
theorem CK_nf (n : Nat) (t : Nat → Int32) (h : Hp) (p : Nat) (f : Int32) (q : Nat) (hq : (q = 22) = False) : CK n t h p f q = h q := CK_n n t h p f (fun e => by rw [hq] at e; exact e)
theorem CK_up (n : Nat) (t : Nat → Int32) (h : Hp) (p : Nat) (f : Int32) (q k : Nat) (x : Int32) (hq : (q = 22) = False) : up2 (CK n t h p f) q k x = CK n t (up2 h q k x) p f := by
  have hq : ¬ q = 22 := by rw [hq]; exact fun e => e
  have e22 : up2 h q k x 22 = h 22 := up2_ne (fun e => hq e.symm)
  unfold CK
  rw [e22]
  funext a b
  simp only [up2, upA]
  grind
theorem CK_f (n : Nat) (t : Nat → Int32) (h : Hp) (p : Nat) (f g : Int32) : up2 (CK n t h p f) 22 6 g = CK n t h p g := by
  unfold CK
  funext a b
  simp only [up2, upA]
  grind
theorem CK_CK (n : Nat) (t : Nat → Int32) (h : Hp) (p q : Nat) (f g : Int32) : CK n t (CK n t h p f) q g = CK n t h q g := by
  unfold CK
  funext a b
  simp only [upA]
  grind
def TP (h : Hp) : Prop := (0 ≤ h 22 1 ∧ h 22 1 ≤ 200) ∧ (0 ≤ h 22 4 ∧ h 22 4 ≤ h 22 1)
def stp (h : Hp) : Hp := CK (ix (h 22 1)) (h 23) h (ix (h 22 4)) (h 22 6)
theorem TP_CK {n : Nat} (hn : n ≤ 200) (t : Nat → Int32) (h : Hp) {p : Nat} (hp : p ≤ n) (f : Int32) : TP (CK n t h p f) := by
  unfold TP
  rw [CK_1, CK_4]
  have := nx_le t hp
  exact ⟨⟨nI_pos' (by omega), nI_le (b := 200) hn (by decide)⟩, nI_pos' (by omega), nI_le this (by omega)⟩
theorem stp_CK {n : Nat} (hn : n ≤ 200) {t : Nat → Int32} {h : Hp} (ht : h 23 = t) {p : Nat} (hp : p ≤ n) (f : Int32) : stp (CK n t h p f) = CK n t h (nx n t p) f := by
  unfold stp
  have := nx_le t hp
  rw [CK_1, CK_4, CK_6, CK_n n t h p f (show (23 : Nat) ≠ 22 by decide), ht, show ix (nI n) = n from ix_nI (by omega), show ix (nI (nx n t p)) = nx n t p from ix_nI (by omega), CK_CK]
/-! letters and digits -/
def S4_isLetter : Sp := fun av h Q => match av with | [.ref p, .int i] => p = 22 ∧ (0 ≤ i ∧ i < 200) ∧ Q (some (.int (if alp (h 23 (ix i)) = true then 1 else 0))) h | _ => False
def S4_isDigit : Sp := fun av h Q => match av with | [.ref p, .int i] => p = 22 ∧ (0 ≤ i ∧ i < 200) ∧ Q (some (.int (if dgt (h 23 (ix i)) = true then 1 else 0))) h | _ => False
theorem alp_t (c : Int32) : (alp c = true) = (97 ≤ c ∧ c ≤ 122) := by unfold alp; simp
theorem dgt_t (c : Int32) : (dgt c = true) = (48 ≤ c ∧ c ≤ 57) := by unfold dgt; simp
theorem spc_t (c : Int32) : (spc c = true) = (c = 32) := by unfold spc; simp
theorem rn4_isLetter {h : Hp} {Q : Po} {p : Nat} {i : Int32} (hS : S4_isLetter [.ref p, .int i] h Q) : Rn (T4_isLetter Q) (0, [some (.ref p), some (.int i)], [], h) := by
  obtain ⟨rfl, hi, hQ⟩ := hS
  simp only [alp_t, ix] at hQ
  refine Rn_in C4_isLetter 60 ?_
  simp only [x4_isLetter_0, x4_isLetter_1, x4_isLetter_4, x4_isLetter_5, x4_isLetter_6, x4_isLetter_8, x4_isLetter_11, x4_isLetter_12, x4_isLetter_15, x4_isLetter_16, x4_isLetter_17, x4_isLetter_19, x4_isLetter_22, x4_isLetter_23, x4_isLetter_26, x4_isLetter_27, i_ald, i_get, i_goto, i_iald, i_ic, i_ic_gt, i_ic_lt, i_ild, i_zret, oc_22, fv_22_0, fv_22_1, ly_22_1, fv_22_2, ly_22_2, fv_22_3, ly_22_3, fv_22_4, ly_22_4, fv_22_5, ly_22_5, fv_22_6, ly_22_6, rd_23, al_23, lck_0, lck_i, lck_r, lck_n, lck_l, csum_0, csum_i, csum_r, csum_l, pops_0, pops_s, psh_n, psh_s, List.getElem?_cons_zero, List.getElem?_cons_succ, List.set_cons_zero, List.set_cons_succ, true_and, and_true, Nat.reduceAdd, Nat.reduceLeDiff, v200, hi, l01_0, l01_1, or_true, true_or, nn, false_implies, true_implies, implies_true, and_true, true_and, not_true_eq_false, not_false_eq_true, eq_self]
  grind
theorem rn4_isDigit {h : Hp} {Q : Po} {p : Nat} {i : Int32} (hS : S4_isDigit [.ref p, .int i] h Q) : Rn (T4_isDigit Q) (0, [some (.ref p), some (.int i)], [], h) := by
  obtain ⟨rfl, hi, hQ⟩ := hS
  simp only [dgt_t, ix] at hQ
  refine Rn_in C4_isDigit 60 ?_
  simp only [x4_isDigit_0, x4_isDigit_1, x4_isDigit_4, x4_isDigit_5, x4_isDigit_6, x4_isDigit_8, x4_isDigit_11, x4_isDigit_12, x4_isDigit_15, x4_isDigit_16, x4_isDigit_17, x4_isDigit_19, x4_isDigit_22, x4_isDigit_23, x4_isDigit_26, x4_isDigit_27, i_ald, i_get, i_goto, i_iald, i_ic, i_ic_gt, i_ic_lt, i_ild, i_zret, oc_22, fv_22_0, fv_22_1, ly_22_1, fv_22_2, ly_22_2, fv_22_3, ly_22_3, fv_22_4, ly_22_4, fv_22_5, ly_22_5, fv_22_6, ly_22_6, rd_23, al_23, lck_0, lck_i, lck_r, lck_n, lck_l, csum_0, csum_i, csum_r, csum_l, pops_0, pops_s, psh_n, psh_s, List.getElem?_cons_zero, List.getElem?_cons_succ, List.set_cons_zero, List.set_cons_succ, true_and, and_true, Nat.reduceAdd, Nat.reduceLeDiff, v200, hi, l01_0, l01_1, or_true, true_or, nn, false_implies, true_implies, implies_true, and_true, true_and, not_true_eq_false, not_false_eq_true, eq_self]
  grind
theorem if10 (c : Prop) {d : Decidable c} : ((@ite _ c d (1 : Int32) 0) = 0) = ¬ c := by by_cases h : c <;> simp [h]
