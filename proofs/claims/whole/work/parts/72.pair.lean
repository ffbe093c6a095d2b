/-! pairs: shelves -/
def udC (s : Int32) : Nat → Int32 → Int32
  | 0, _ => 0
  | d + 1, x => if 0 ≤ x ∧ x < 6 then (if x = s then 1 else udC s d (tbA.getD (ix x) 0)) else 0
def udI (k s : Int32) : Int32 := if s = 0 ∨ k = s ∨ (s = 1 ∧ k = 3) ∨ (s = 2 ∧ k = 4) then 1 else 0
theorem ud_all : ∀ k, k < 6 → ∀ s, s < 6 → udC (nI s) 6 (nI k) = udI (nI k) (nI s) := by decide
theorem udC_01 (s : Int32) : ∀ d x, udC s d x = 0 ∨ udC s d x = 1
  | 0, _ => Or.inl rfl
  | d + 1, x => by
    simp only [udC]
    split
    · split
      · exact Or.inr rfl
      · exact udC_01 s d _
    · exact Or.inl rfl
theorem udI_01 (k s : Int32) : (udI k s = 0 ∨ udI k s = 1) = True := by unfold udI; split <;> simp
def S5_isUnder : Sp := fun av h Q => match av with | [.int k, .int s] => (0 ≤ k ∧ k ≤ 5) ∧ (0 ≤ s ∧ s ≤ 5) ∧ Q (some (.int (udI k s))) h | _ => False
theorem lp5_isUnder {h : Hp} {Q : Po} {k s : Int32} : ∀ d j, d + j = 6 → ∀ x, Q (some (.int (udC s d x))) h → Rn (T5_isUnder Q S5_isKind) (4, [some (.int k), some (.int s), some (.int x), some (.int (nI j))], [], h)
  | 0, j, e, x, hQ => by
    have e : j = 6 := by omega
    subst e
    refine Rn_go C5_isUnder 60 ?_
    simp only [x5_isUnder_0, x5_isUnder_1, x5_isUnder_2, x5_isUnder_3, k5_isUnder_4, t5_isUnder_4, x5_isUnder_5, x5_isUnder_7, x5_isUnder_10, x5_isUnder_11, x5_isUnder_14, x5_isUnder_17, x5_isUnder_18, x5_isUnder_19, x5_isUnder_22, x5_isUnder_23, x5_isUnder_24, x5_isUnder_27, x5_isUnder_28, x5_isUnder_29, x5_isUnder_30, x5_isUnder_33, x5_isUnder_36, x5_isUnder_37, i_cS, i_goto, i_iald, i_ic, i_ic_ge, i_ic_ne, i_if_eq, i_ild, i_inc, i_ist, i_rc, i_zret, oc_0, fv_0_0, fv_0_1, fv_0_2, fv_0_3, ly_0_3, fv_0_4, fv_0_5, fv_0_6, ly_0_6, fv_0_7, fv_0_8, fv_0_9, oc_1, fv_1_0, fv_1_1, fv_1_2, fv_1_3, fv_1_4, fv_1_5, fv_1_6, ly_1_6, fv_1_7, ly_1_7, fv_1_8, ly_1_8, rd_2, al_2, rd_3, al_3, rd_4, al_4, rd_5, al_5, rd_6, al_6, rd_7, al_7, oc_8, fv_8_0, fv_8_1, fv_8_2, fv_8_3, fv_8_4, fv_8_5, fv_8_6, ly_8_6, fv_8_7, ly_8_7, fv_8_8, ly_8_8, rd_9, al_9, rd_10, al_10, rd_11, al_11, rd_12, al_12, rd_13, al_13, rd_14, al_14, oc_15, fv_15_0, fv_15_1, fv_15_2, fv_15_3, fv_15_4, fv_15_5, fv_15_6, ly_15_6, fv_15_7, ly_15_7, fv_15_8, ly_15_8, rd_16, al_16, rd_17, al_17, rd_18, al_18, rd_19, al_19, rd_20, al_20, rd_21, al_21, oc_22, fv_22_0, fv_22_1, ly_22_1, fv_22_2, ly_22_2, fv_22_3, ly_22_3, fv_22_4, ly_22_4, fv_22_5, ly_22_5, fv_22_6, ly_22_6, rd_23, al_23, rd_24, al_24, ra_25, oc_26, fv_26_0, fv_26_1, ly_26_1, fv_26_2, ly_26_2, oc_27, fv_27_0, fv_27_1, ly_27_1, fv_27_2, ly_27_2, oc_28, fv_28_0, fv_28_1, ly_28_1, fv_28_2, ly_28_2, oc_29, fv_29_0, fv_29_1, ly_29_1, fv_29_2, ly_29_2, rd_30, al_30, rd_31, al_31, rd_32, al_32, rd_33, al_33, ra_34, oc_35, fv_35_0, ly_35_0, fv_35_1, ly_35_1, fv_35_2, ly_35_2, fv_35_3, ly_35_3, oc_36, fv_36_0, ly_36_0, fv_36_1, ly_36_1, fv_36_2, ly_36_2, fv_36_3, ly_36_3, oc_37, fv_37_0, ly_37_0, fv_37_1, ly_37_1, fv_37_2, ly_37_2, fv_37_3, ly_37_3, oc_38, fv_38_0, ly_38_0, fv_38_1, ly_38_1, fv_38_2, ly_38_2, fv_38_3, ly_38_3, oc_39, fv_39_0, fv_39_1, ly_39_1, fv_39_2, ly_39_2, fv_39_3, ly_39_3, fv_39_4, ly_39_4, fv_39_5, ly_39_5, rd_40, al_40, rd_90, rd_91, rd_92, rd_93, lck_0, lck_i, lck_r, lck_n, lck_l, csum_0, csum_i, csum_r, csum_l, pops_0, pops_s, psh_n, psh_s, List.getElem?_cons_zero, List.getElem?_cons_succ, List.set_cons_zero, List.set_cons_succ, true_and, and_true, Nat.reduceAdd, Nat.reduceLeDiff, l01_0, or_true, true_or]
    exact ⟨fun _ => hQ, fun c => absurd (by decide) c⟩
  | d + 1, j, e, x, hQ => by
    have hlt : ¬ 6 ≤ nI j := Int32.not_le.mpr (nI_lt (b := 6) (by omega) (by decide))
    refine Rn_go C5_isUnder 60 ?_
    simp only [x5_isUnder_0, x5_isUnder_1, x5_isUnder_2, x5_isUnder_3, k5_isUnder_4, t5_isUnder_4, x5_isUnder_5, x5_isUnder_7, x5_isUnder_10, x5_isUnder_11, x5_isUnder_14, x5_isUnder_17, x5_isUnder_18, x5_isUnder_19, x5_isUnder_22, x5_isUnder_23, x5_isUnder_24, x5_isUnder_27, x5_isUnder_28, x5_isUnder_29, x5_isUnder_30, x5_isUnder_33, x5_isUnder_36, x5_isUnder_37, i_cS, i_goto, i_iald, i_ic, i_ic_ge, i_ic_ne, i_if_eq, i_ild, i_inc, i_ist, i_rc, i_zret, rd_92, lck_0, lck_i, lck_r, lck_n, lck_l, csum_0, csum_i, csum_r, csum_l, pops_0, pops_s, psh_n, psh_s, List.getElem?_cons_zero, List.getElem?_cons_succ, List.set_cons_zero, List.set_cons_succ, true_and, and_true, Nat.reduceAdd, Nat.reduceLeDiff, S5_isKind, b2_0, l01_0, l01_1, or_true, true_or, v6]
    refine ⟨fun c => absurd c hlt, fun _ => ⟨fun c => ?_, fun c => ⟨fun d1 => ⟨Classical.not_not.mp c, ?_⟩, fun d1 => ?_⟩⟩⟩
    · rw [udC, if_neg c] at hQ
      exact hQ
    · rw [udC, if_pos (Classical.not_not.mp c), if_neg d1] at hQ
      have := lp5_isUnder (k := k) d (j + 1) (by omega) _ hQ
      rw [← nI_1] at this
      exact this
    · rw [udC, if_pos (Classical.not_not.mp c), if_pos d1] at hQ
      exact hQ
theorem of6 {k : Int32} (h : 0 ≤ k ∧ k ≤ 5) : ∃ a, a < 6 ∧ k = nI a := by
  obtain ⟨a, b, c⟩ := ofN (n := 6) (by decide) h.1 (show k < (6 : Int32) by grind)
  exact ⟨a, b, c⟩
theorem rn5_isUnder {h : Hp} {Q : Po} {k : Int32} {s : Int32} (hS : S5_isUnder [.int k, .int s] h Q) : Rn (T5_isUnder Q S5_isKind) (0, [some (.int k), some (.int s), none, none], [], h) := by
  obtain ⟨hk, hs, hQ⟩ := hS
  obtain ⟨a, ha, rfl⟩ := of6 hk
  obtain ⟨b, hb, rfl⟩ := of6 hs
  rw [← ud_all a ha b hb] at hQ
  have nx := lp5_isUnder (k := nI a) 6 0 (by omega) (nI a) hQ
  refine Rn_in C5_isUnder 60 ?_
  simp only [x5_isUnder_0, x5_isUnder_1, x5_isUnder_2, x5_isUnder_3, k5_isUnder_4, t5_isUnder_4, x5_isUnder_5, x5_isUnder_7, x5_isUnder_10, x5_isUnder_11, x5_isUnder_14, x5_isUnder_17, x5_isUnder_18, x5_isUnder_19, x5_isUnder_22, x5_isUnder_23, x5_isUnder_24, x5_isUnder_27, x5_isUnder_28, x5_isUnder_29, x5_isUnder_30, x5_isUnder_33, x5_isUnder_36, x5_isUnder_37, i_cS, i_goto, i_iald, i_ic, i_ic_ge, i_ic_ne, i_if_eq, i_ild, i_inc, i_ist, i_rc, i_zret, oc_0, fv_0_0, fv_0_1, fv_0_2, fv_0_3, ly_0_3, fv_0_4, fv_0_5, fv_0_6, ly_0_6, fv_0_7, fv_0_8, fv_0_9, oc_1, fv_1_0, fv_1_1, fv_1_2, fv_1_3, fv_1_4, fv_1_5, fv_1_6, ly_1_6, fv_1_7, ly_1_7, fv_1_8, ly_1_8, rd_2, al_2, rd_3, al_3, rd_4, al_4, rd_5, al_5, rd_6, al_6, rd_7, al_7, oc_8, fv_8_0, fv_8_1, fv_8_2, fv_8_3, fv_8_4, fv_8_5, fv_8_6, ly_8_6, fv_8_7, ly_8_7, fv_8_8, ly_8_8, rd_9, al_9, rd_10, al_10, rd_11, al_11, rd_12, al_12, rd_13, al_13, rd_14, al_14, oc_15, fv_15_0, fv_15_1, fv_15_2, fv_15_3, fv_15_4, fv_15_5, fv_15_6, ly_15_6, fv_15_7, ly_15_7, fv_15_8, ly_15_8, rd_16, al_16, rd_17, al_17, rd_18, al_18, rd_19, al_19, rd_20, al_20, rd_21, al_21, oc_22, fv_22_0, fv_22_1, ly_22_1, fv_22_2, ly_22_2, fv_22_3, ly_22_3, fv_22_4, ly_22_4, fv_22_5, ly_22_5, fv_22_6, ly_22_6, rd_23, al_23, rd_24, al_24, ra_25, oc_26, fv_26_0, fv_26_1, ly_26_1, fv_26_2, ly_26_2, oc_27, fv_27_0, fv_27_1, ly_27_1, fv_27_2, ly_27_2, oc_28, fv_28_0, fv_28_1, ly_28_1, fv_28_2, ly_28_2, oc_29, fv_29_0, fv_29_1, ly_29_1, fv_29_2, ly_29_2, rd_30, al_30, rd_31, al_31, rd_32, al_32, rd_33, al_33, ra_34, oc_35, fv_35_0, ly_35_0, fv_35_1, ly_35_1, fv_35_2, ly_35_2, fv_35_3, ly_35_3, oc_36, fv_36_0, ly_36_0, fv_36_1, ly_36_1, fv_36_2, ly_36_2, fv_36_3, ly_36_3, oc_37, fv_37_0, ly_37_0, fv_37_1, ly_37_1, fv_37_2, ly_37_2, fv_37_3, ly_37_3, oc_38, fv_38_0, ly_38_0, fv_38_1, ly_38_1, fv_38_2, ly_38_2, fv_38_3, ly_38_3, oc_39, fv_39_0, fv_39_1, ly_39_1, fv_39_2, ly_39_2, fv_39_3, ly_39_3, fv_39_4, ly_39_4, fv_39_5, ly_39_5, rd_40, al_40, rd_90, rd_91, rd_92, rd_93, lck_0, lck_i, lck_r, lck_n, lck_l, csum_0, csum_i, csum_r, csum_l, pops_0, pops_s, psh_n, psh_s, List.getElem?_cons_zero, List.getElem?_cons_succ, List.set_cons_zero, List.set_cons_succ, true_and, and_true, Nat.reduceAdd, Nat.reduceLeDiff]
  exact nx
def S6_isUnder : Sp := fun av h Q => match av with | [.int k, .int s] => Q (some (.int (udI k s))) h | _ => False
theorem rn6_isUnder {h : Hp} {Q : Po} {k : Int32} {s : Int32} (hS : S6_isUnder [.int k, .int s] h Q) : Rn (T6_isUnder Q) (0, [some (.int k), some (.int s)], [], h) := by
  refine Rn_in C6_isUnder 60 ?_
  simp only [x6_isUnder_0, x6_isUnder_1, x6_isUnder_4, x6_isUnder_5, x6_isUnder_6, x6_isUnder_9, x6_isUnder_10, x6_isUnder_11, x6_isUnder_14, x6_isUnder_15, x6_isUnder_16, x6_isUnder_19, x6_isUnder_20, x6_isUnder_21, x6_isUnder_24, x6_isUnder_25, x6_isUnder_26, x6_isUnder_29, x6_isUnder_30, x6_isUnder_33, x6_isUnder_34, i_goto, i_ic, i_ic_eq, i_ic_ne, i_if_eq, i_ild, i_zret, oc_41, fv_41_0, fv_41_1, fv_41_2, fv_41_3, fv_41_4, ly_41_4, fv_41_5, fv_41_6, ly_41_6, fv_41_7, ly_41_7, fv_41_8, ly_41_8, fv_41_9, ly_41_9, fv_41_10, ly_41_10, fv_41_11, ly_41_11, fv_41_12, fv_41_13, fv_41_14, ly_41_14, fv_41_15, fv_41_16, fv_41_17, fv_41_18, fv_41_19, fv_41_20, fv_41_21, fv_41_22, ly_41_22, fv_41_23, ly_41_23, fv_41_24, ly_41_24, fv_41_25, ly_41_25, fv_41_26, ly_41_26, rd_42, al_42, rd_43, al_43, rd_44, al_44, rd_45, al_45, rd_46, al_46, rd_47, al_47, rd_48, al_48, rd_49, al_49, rd_50, al_50, rd_51, al_51, rd_52, al_52, rd_53, al_53, rd_54, al_54, rd_55, al_55, lck_0, lck_i, lck_r, lck_n, lck_l, csum_0, csum_i, csum_r, csum_l, pops_0, pops_s, psh_n, psh_s, List.getElem?_cons_zero, List.getElem?_cons_succ, List.set_cons_zero, List.set_cons_succ, true_and, and_true, Nat.reduceAdd, Nat.reduceLeDiff, l01_0, l01_1, or_true, true_or]
  simp only [S6_isUnder, udI] at hS
  grind
def PH (p : Nat) : Prop := p = 35 ∨ p = 36 ∨ p = 37 ∨ p = 38
def PS (p : Nat) : Prop := p = 26 ∨ p = 27 ∨ p = 28 ∨ p = 29
theorem PH_a {a : Nat} (h : a < 4) : PH (35 + a) := by unfold PH; omega
theorem PS_a {a : Nat} (h : a < 4) : PS (26 + a) := by unfold PS; omega
theorem oc35 {a : Nat} (h : a < 4) : ocl (35 + a) = some 3 := by
  rcases (show a = 0 ∨ a = 1 ∨ a = 2 ∨ a = 3 by omega) with rfl | rfl | rfl | rfl <;> rfl
theorem oc26 {a : Nat} (h : a < 4) : ocl (26 + a) = some 2 := by
  rcases (show a = 0 ∨ a = 1 ∨ a = 2 ∨ a = 3 by omega) with rfl | rfl | rfl | rfl <;> rfl
theorem fv35 {a : Nat} (h : a < 4) : (∀ g, fv (35 + a) 0 g = .int (g (35 + a) 0)) ∧ (∀ g, fv (35 + a) 1 g = .int (g (35 + a) 1)) ∧ (∀ g, fv (35 + a) 2 g = .int (g (35 + a) 2)) ∧ (∀ g, fv (35 + a) 3 g = .int (g (35 + a) 3)) ∧ lay (35 + a) 0 = none := by
  rcases (show a = 0 ∨ a = 1 ∨ a = 2 ∨ a = 3 by omega) with rfl | rfl | rfl | rfl
  all_goals exact ⟨fun _ => rfl, fun _ => rfl, fun _ => rfl, fun _ => rfl, rfl⟩
def S3_holdInmate : Sp := fun av h Q => match av with | [.ref p, .int n] => PH p ∧ Q none (up2 (up2 h p 0 0) p 1 n) | _ => False
theorem rn3_holdInmate {h : Hp} {Q : Po} {p : Nat} {n : Int32} (hS : S3_holdInmate [.ref p, .int n] h Q) : Rn (T3_holdInmate Q) (0, [some (.ref p), some (.int n)], [], h) := by
  obtain ⟨hp, hQ⟩ := hS
  rcases hp with rfl | rfl | rfl | rfl
  all_goals
    refine Rn_in C3_holdInmate 60 ?_
    simp only [x3_holdInmate_0, x3_holdInmate_1, x3_holdInmate_2, x3_holdInmate_5, x3_holdInmate_6, x3_holdInmate_7, x3_holdInmate_10, i_ald, i_ic, i_ild, i_put, i_vret, oc_35, fv_35_0, ly_35_0, fv_35_1, ly_35_1, fv_35_2, ly_35_2, fv_35_3, ly_35_3, oc_36, fv_36_0, ly_36_0, fv_36_1, ly_36_1, fv_36_2, ly_36_2, fv_36_3, ly_36_3, oc_37, fv_37_0, ly_37_0, fv_37_1, ly_37_1, fv_37_2, ly_37_2, fv_37_3, ly_37_3, oc_38, fv_38_0, ly_38_0, fv_38_1, ly_38_1, fv_38_2, ly_38_2, fv_38_3, ly_38_3, lck_0, lck_i, lck_r, lck_n, lck_l, csum_0, csum_i, csum_r, csum_l, pops_0, pops_s, psh_n, psh_s, List.getElem?_cons_zero, List.getElem?_cons_succ, List.set_cons_zero, List.set_cons_succ, true_and, and_true, Nat.reduceAdd, Nat.reduceLeDiff]
    exact hQ
def hrV (s : Int32) : Int32 := if s = -1 then 2 else 1
def S3_holdRow : Sp := fun av h Q => match av with | [.ref p, .ref q] => PH p ∧ PS q ∧ Q none (up2 (up2 (up2 h p 0 (hrV (h q 1))) p 2 (h q 1)) p 3 (h q 2)) | _ => False
theorem rn3_holdRow {h : Hp} {Q : Po} {p : Nat} {q : Nat} (hS : S3_holdRow [.ref p, .ref q] h Q) : Rn (T3_holdRow Q) (0, [some (.ref p), some (.ref q)], [], h) := by
  obtain ⟨hp, hq, hQ⟩ := hS
  rcases hp with rfl | rfl | rfl | rfl
  all_goals
    rcases hq with rfl | rfl | rfl | rfl
    all_goals
      simp only [hrV] at hQ
      refine Rn_in C3_holdRow 60 ?_
      simp only [x3_holdRow_0, x3_holdRow_1, x3_holdRow_2, x3_holdRow_5, x3_holdRow_6, x3_holdRow_9, x3_holdRow_10, x3_holdRow_13, x3_holdRow_14, x3_holdRow_17, x3_holdRow_18, x3_holdRow_19, x3_holdRow_22, x3_holdRow_25, x3_holdRow_26, x3_holdRow_27, x3_holdRow_30, x3_holdRow_33, i_ald, i_get, i_goto, i_ic, i_ic_ne, i_put, i_vret, oc_26, fv_26_0, fv_26_1, ly_26_1, fv_26_2, ly_26_2, oc_27, fv_27_0, fv_27_1, ly_27_1, fv_27_2, ly_27_2, oc_28, fv_28_0, fv_28_1, ly_28_1, fv_28_2, ly_28_2, oc_29, fv_29_0, fv_29_1, ly_29_1, fv_29_2, ly_29_2, oc_35, fv_35_0, ly_35_0, fv_35_1, ly_35_1, fv_35_2, ly_35_2, fv_35_3, ly_35_3, oc_36, fv_36_0, ly_36_0, fv_36_1, ly_36_1, fv_36_2, ly_36_2, fv_36_3, ly_36_3, oc_37, fv_37_0, ly_37_0, fv_37_1, ly_37_1, fv_37_2, ly_37_2, fv_37_3, ly_37_3, oc_38, fv_38_0, ly_38_0, fv_38_1, ly_38_1, fv_38_2, ly_38_2, fv_38_3, ly_38_3, lck_0, lck_i, lck_r, lck_n, lck_l, csum_0, csum_i, csum_r, csum_l, pops_0, pops_s, psh_n, psh_s, List.getElem?_cons_zero, List.getElem?_cons_succ, List.set_cons_zero, List.set_cons_succ, true_and, and_true, Nat.reduceAdd, Nat.reduceLeDiff, up2_nf, Nat.reduceEqDiff]
      refine ⟨fun c => ?_, fun c => ?_⟩
      · rw [if_neg c] at hQ; exact hQ
      · rw [if_pos c] at hQ; exact hQ
def hbI (h : Hp) (p : Nat) : Int32 := if h p 0 = 0 ∧ ¬ (0 ≤ h p 1 ∧ h p 1 < h 1 6) then 2 else h p 0
def S5_heldBy : Sp := fun av h Q => match av with | [.ref x, .ref p] => x = 0 ∧ PH p ∧ Q (some (.int (hbI h p))) h | _ => False
theorem rn5_heldBy {h : Hp} {Q : Po} {x : Nat} {p : Nat} (hS : S5_heldBy [.ref x, .ref p] h Q) : Rn (T5_heldBy Q S1_has) (0, [some (.ref x), some (.ref p), none], [], h) := by
  obtain ⟨rfl, hp, hQ⟩ := hS
  rcases hp with rfl | rfl | rfl | rfl
  all_goals
    simp only [hbI] at hQ
    refine Rn_in C5_heldBy 60 ?_
    simp only [x5_heldBy_0, x5_heldBy_1, x5_heldBy_4, x5_heldBy_7, x5_heldBy_8, x5_heldBy_11, x5_heldBy_12, x5_heldBy_15, x5_heldBy_18, x5_heldBy_21, x5_heldBy_22, x5_heldBy_25, x5_heldBy_26, x5_heldBy_27, x5_heldBy_28, x5_heldBy_31, x5_heldBy_32, x5_heldBy_35, x5_heldBy_36, x5_heldBy_39, i_ald, i_cV, i_get, i_goto, i_ic, i_if_eq, i_if_ne, i_ild, i_iret, i_ist, oc_0, fv_0_0, fv_0_1, fv_0_2, fv_0_3, ly_0_3, fv_0_4, fv_0_5, fv_0_6, ly_0_6, fv_0_7, fv_0_8, fv_0_9, oc_1, fv_1_0, fv_1_1, fv_1_2, fv_1_3, fv_1_4, fv_1_5, fv_1_6, ly_1_6, fv_1_7, ly_1_7, fv_1_8, ly_1_8, rd_2, al_2, rd_3, al_3, rd_4, al_4, rd_5, al_5, rd_6, al_6, rd_7, al_7, oc_35, fv_35_0, ly_35_0, fv_35_1, ly_35_1, fv_35_2, ly_35_2, fv_35_3, ly_35_3, oc_36, fv_36_0, ly_36_0, fv_36_1, ly_36_1, fv_36_2, ly_36_2, fv_36_3, ly_36_3, oc_37, fv_37_0, ly_37_0, fv_37_1, ly_37_1, fv_37_2, ly_37_2, fv_37_3, ly_37_3, oc_38, fv_38_0, ly_38_0, fv_38_1, ly_38_1, fv_38_2, ly_38_2, fv_38_3, ly_38_3, lck_0, lck_i, lck_r, lck_n, lck_l, csum_0, csum_i, csum_r, csum_l, pops_0, pops_s, psh_n, psh_s, List.getElem?_cons_zero, List.getElem?_cons_succ, List.set_cons_zero, List.set_cons_succ, true_and, and_true, Nat.reduceAdd, Nat.reduceLeDiff, S1_has, GB_1, b2_0, b2_n0, i00, i10]
    grind
def hoI (h : Hp) (t : Nat) : Int32 := if h 52 t = 1 ∧ ¬ (0 ≤ h 53 t ∧ h 53 t < h 42 0) then 0 else h 52 t
def S6_heldOn : Sp := fun av h Q => match av with | [.ref m, .int t] => m = 41 ∧ (0 ≤ t ∧ t < 4) ∧ Q (some (.int (hoI h (ix t)))) h | _ => False
theorem rn6_heldOn {h : Hp} {Q : Po} {m : Nat} {t : Int32} (hS : S6_heldOn [.ref m, .int t] h Q) : Rn (T6_heldOn Q S6_isOne) (0, [some (.ref m), some (.int t)], [], h) := by
  obtain ⟨rfl, ht, hQ⟩ := hS
  simp only [hoI, ix] at hQ
  refine Rn_in C6_heldOn 60 ?_
  simp only [x6_heldOn_0, x6_heldOn_1, x6_heldOn_4, x6_heldOn_5, x6_heldOn_6, x6_heldOn_7, x6_heldOn_10, x6_heldOn_11, x6_heldOn_12, x6_heldOn_15, x6_heldOn_16, x6_heldOn_17, x6_heldOn_20, x6_heldOn_23, x6_heldOn_24, x6_heldOn_27, x6_heldOn_28, x6_heldOn_31, x6_heldOn_32, x6_heldOn_33, i_ald, i_cV, i_get, i_goto, i_iald, i_ic, i_ic_ne, i_if_ne, i_ild, i_iret, oc_41, fv_41_0, fv_41_1, fv_41_2, fv_41_3, fv_41_4, ly_41_4, fv_41_5, fv_41_6, ly_41_6, fv_41_7, ly_41_7, fv_41_8, ly_41_8, fv_41_9, ly_41_9, fv_41_10, ly_41_10, fv_41_11, ly_41_11, fv_41_12, fv_41_13, fv_41_14, ly_41_14, fv_41_15, fv_41_16, fv_41_17, fv_41_18, fv_41_19, fv_41_20, fv_41_21, fv_41_22, ly_41_22, fv_41_23, ly_41_23, fv_41_24, ly_41_24, fv_41_25, ly_41_25, fv_41_26, ly_41_26, rd_42, al_42, rd_43, al_43, rd_44, al_44, rd_45, al_45, rd_46, al_46, rd_47, al_47, rd_48, al_48, rd_49, al_49, rd_50, al_50, rd_51, al_51, rd_52, al_52, rd_53, al_53, rd_54, al_54, rd_55, al_55, lck_0, lck_i, lck_r, lck_n, lck_l, csum_0, csum_i, csum_r, csum_l, pops_0, pops_s, psh_n, psh_s, List.getElem?_cons_zero, List.getElem?_cons_succ, List.set_cons_zero, List.set_cons_succ, true_and, and_true, Nat.reduceAdd, Nat.reduceLeDiff, S6_isOne, hsB_0, v4, ht, nn, false_implies, true_implies, implies_true, and_true, true_and, not_true_eq_false, not_false_eq_true, eq_self]
  grind
/-- what is held at both sides -/
theorem held_eq {h : Hp} (r : Rel h) {a : Nat} (ha : a < 4) : (hbI h (35 + a) = 0 ∧ hoI h a = 1 ∧ h (35 + a) 1 = h 53 a ∧ (0 ≤ h 53 a ∧ h 53 a < h 1 6)) ∨ (hbI h (35 + a) = 1 ∧ hoI h a = 2 ∧ h (35 + a) 2 = h 53 a ∧ h (35 + a) 3 = h 54 a) ∨ (hbI h (35 + a) = 2 ∧ hoI h a = 0) := by
  have rh := r.2.2.2.2.2.1 a ha
  have e06 : h 1 6 = h 42 0 := r.1.1.1.1
  unfold hbI hoI
  rw [e06]
  rcases rh with ⟨a1, a2, a3⟩ | ⟨a1, a2, a3, a4⟩ | ⟨a1, a2⟩
  · rw [a1, a2, a3]
    by_cases c : 0 ≤ h 53 a ∧ h 53 a < h 42 0
    · left; simp [c]
    · right; right; simp [c]
  · right; left; rw [a1, a2]; simp [a3, a4]
  · right; right; rw [a1, a2]; simp
