/-! names and numbers: the reference -/
def TQm (h : Hp) : Prop := h 41 6 ≤ 200 ∧ 0 ≤ h 41 8 ∧ h 41 8 ≤ h 41 9 ∧ h 41 9 ≤ 200
def nmM (h : Hp) (L a b c z : Int32) : Int32 := if h 41 7 = 1 ∧ h 41 9 - h 41 8 = L ∧ bH h (h 41 8) = a ∧ bH h (h 41 8 + 1) = b ∧ bH h (h 41 8 + 2) = c ∧ bH h (h 41 9 - 1) = z then 1 else 0
def smM (h : Hp) (i a b c : Int32) : Int32 := if bH h (h 41 8 + i) = a ∧ bH h (h 41 8 + i + 1) = b ∧ bH h (h 41 8 + i + 2) = c then 1 else 0
def fiM (h : Hp) (a b c d e : Int32) : Int32 := if ¬ nmM h 5 a b c e = 0 ∧ bH h (h 41 8 + 3) = d then 1 else 0
def twM (h : Hp) (a b : Int32) : Int32 := if h 41 7 = 1 ∧ h 41 9 - h 41 8 = 2 ∧ bH h (h 41 8) = a ∧ bH h (h 41 8 + 1) = b then 1 else 0
def nuM (h : Hp) (top : Int32) : Int32 := if h 41 7 = 2 ∧ ¬ 3 < h 41 9 - h 41 8 ∧ ¬ top < h 41 10 then 1 else 0
def S6_isName : Sp := fun av h Q => match av with | [.ref m, .int L, .int a, .int b, .int c, .int z] => m = 41 ∧ TQm h ∧ 1 ≤ L ∧ Q (some (.int (nmM h L a b c z))) h | _ => False
def S6_isSame : Sp := fun av h Q => match av with | [.ref m, .int i, .int a, .int b, .int c] => m = 41 ∧ TQm h ∧ (0 ≤ i ∧ i ≤ 200) ∧ Q (some (.int (smM h i a b c))) h | _ => False
def S6_isFour : Sp := fun av h Q => match av with | [.ref m, .int a, .int b, .int c, .int z] => m = 41 ∧ TQm h ∧ Q (some (.int (nmM h 4 a b c z))) h | _ => False
def S6_isFive : Sp := fun av h Q => match av with | [.ref m, .int a, .int b, .int c, .int d, .int e] => m = 41 ∧ TQm h ∧ Q (some (.int (fiM h a b c d e))) h | _ => False
def S6_isTwo : Sp := fun av h Q => match av with | [.ref m, .int a, .int b] => m = 41 ∧ TQm h ∧ Q (some (.int (twM h a b))) h | _ => False
def S6_isNumber0 : Sp := fun av h Q => match av with | [.ref m, .int top] => m = 41 ∧ Q (some (.int (nuM h top))) h | _ => False
theorem nmM_01 (h : Hp) (L a b c z : Int32) : (nmM h L a b c z = 0 ∨ nmM h L a b c z = 1) = True := by unfold nmM; split <;> simp
theorem smM_01 (h : Hp) (i a b c : Int32) : (smM h i a b c = 0 ∨ smM h i a b c = 1) = True := by unfold smM; split <;> simp
theorem fiM_01 (h : Hp) (a b c d e : Int32) : (fiM h a b c d e = 0 ∨ fiM h a b c d e = 1) = True := by unfold fiM; split <;> simp
theorem twM_01 (h : Hp) (a b : Int32) : (twM h a b = 0 ∨ twM h a b = 1) = True := by unfold twM; split <;> simp
theorem nuM_01 (h : Hp) (a : Int32) : (nuM h a = 0 ∨ nuM h a = 1) = True := by unfold nuM; split <;> simp
theorem frK {x : Int32} (h0 : 0 ≤ x) (h1 : x ≤ 200) {i : Int32} (i0 : 0 ≤ i) (i1 : i ≤ 300) : 0 ≤ x + i := by grind
theorem rn6_isName {h : Hp} {Q : Po} {m : Nat} {L : Int32} {a : Int32} {b : Int32} {c : Int32} {z : Int32} (hS : S6_isName [.ref m, .int L, .int a, .int b, .int c, .int z] h Q) : Rn (T6_isName Q S6_byteAt) (0, [some (.ref m), some (.int L), some (.int a), some (.int b), some (.int c), some (.int z)], [], h) := by
  obtain ⟨rfl, ⟨a0, a1, a2, a3⟩, l1, hQ⟩ := hS
  have a4 := Int32.le_trans a2 a3
  have f1 : 0 ≤ h 41 8 + 1 := frK a1 a4 (by decide) (by decide)
  have f2 : 0 ≤ h 41 8 + 2 := frK a1 a4 (by decide) (by decide)
  have f3 : h 41 9 - h 41 8 = L → 0 ≤ h 41 9 - 1 := by intro q; grind
  unfold nmM at hQ
  refine Rn_in C6_isName 90 ?_
  by_cases c1 : h 41 7 = 1
  · by_cases c2 : h 41 9 - h 41 8 = L
    · have f4 := f3 c2
      simp only [x6_isName_0, x6_isName_1, x6_isName_4, x6_isName_5, x6_isName_8, x6_isName_9, x6_isName_12, x6_isName_13, x6_isName_16, x6_isName_17, x6_isName_18, x6_isName_21, x6_isName_22, x6_isName_23, x6_isName_26, x6_isName_29, x6_isName_30, x6_isName_33, x6_isName_34, x6_isName_35, x6_isName_38, x6_isName_39, x6_isName_40, x6_isName_43, x6_isName_44, x6_isName_47, x6_isName_48, x6_isName_49, x6_isName_52, x6_isName_53, x6_isName_54, x6_isName_57, x6_isName_59, x6_isName_62, x6_isName_63, x6_isName_64, x6_isName_67, x6_isName_68, x6_isName_69, x6_isName_72, x6_isName_74, x6_isName_77, x6_isName_78, x6_isName_81, x6_isName_82, i_ald, i_cV, i_get, i_goto, i_iadd, i_ic, i_ic_ne, i_ild, i_isub, i_zret, oc_41, fv_41_0, fv_41_1, fv_41_2, fv_41_3, fv_41_4, ly_41_4, fv_41_5, fv_41_6, ly_41_6, fv_41_7, ly_41_7, fv_41_8, ly_41_8, fv_41_9, ly_41_9, fv_41_10, ly_41_10, fv_41_11, ly_41_11, fv_41_12, fv_41_13, fv_41_14, ly_41_14, fv_41_15, fv_41_16, fv_41_17, fv_41_18, fv_41_19, fv_41_20, fv_41_21, fv_41_22, ly_41_22, fv_41_23, ly_41_23, fv_41_24, ly_41_24, fv_41_25, ly_41_25, fv_41_26, ly_41_26, rd_42, al_42, rd_43, al_43, rd_44, al_44, rd_45, al_45, rd_46, al_46, rd_47, al_47, rd_48, al_48, rd_49, al_49, rd_50, al_50, rd_51, al_51, rd_52, al_52, rd_53, al_53, rd_54, al_54, rd_55, al_55, lck_0, lck_i, lck_r, lck_n, lck_l, csum_0, csum_i, csum_r, csum_l, pops_0, pops_s, psh_n, psh_s, List.getElem?_cons_zero, List.getElem?_cons_succ, List.set_cons_zero, List.set_cons_succ, true_and, and_true, Nat.reduceAdd, Nat.reduceLeDiff, S6_byteAt, a0, a1, f1, f2, f4, c1, c2, l01_0, l01_1, or_true, true_or, nn, false_implies, true_implies, implies_true, and_true, true_and, not_true_eq_false, not_false_eq_true, eq_self]
      simp only [c1, c2, true_and] at hQ
      grind
    · rw [if_neg (fun q => c2 q.2.1)] at hQ
      simp only [x6_isName_0, x6_isName_1, x6_isName_4, x6_isName_5, x6_isName_8, x6_isName_9, x6_isName_12, x6_isName_13, x6_isName_16, x6_isName_17, x6_isName_18, x6_isName_21, x6_isName_22, x6_isName_23, x6_isName_26, x6_isName_29, x6_isName_30, x6_isName_33, x6_isName_34, x6_isName_35, x6_isName_38, x6_isName_39, x6_isName_40, x6_isName_43, x6_isName_44, x6_isName_47, x6_isName_48, x6_isName_49, x6_isName_52, x6_isName_53, x6_isName_54, x6_isName_57, x6_isName_59, x6_isName_62, x6_isName_63, x6_isName_64, x6_isName_67, x6_isName_68, x6_isName_69, x6_isName_72, x6_isName_74, x6_isName_77, x6_isName_78, x6_isName_81, x6_isName_82, i_ald, i_cV, i_get, i_goto, i_iadd, i_ic, i_ic_ne, i_ild, i_isub, i_zret, oc_41, fv_41_0, fv_41_1, fv_41_2, fv_41_3, fv_41_4, ly_41_4, fv_41_5, fv_41_6, ly_41_6, fv_41_7, ly_41_7, fv_41_8, ly_41_8, fv_41_9, ly_41_9, fv_41_10, ly_41_10, fv_41_11, ly_41_11, fv_41_12, fv_41_13, fv_41_14, ly_41_14, fv_41_15, fv_41_16, fv_41_17, fv_41_18, fv_41_19, fv_41_20, fv_41_21, fv_41_22, ly_41_22, fv_41_23, ly_41_23, fv_41_24, ly_41_24, fv_41_25, ly_41_25, fv_41_26, ly_41_26, rd_42, al_42, rd_43, al_43, rd_44, al_44, rd_45, al_45, rd_46, al_46, rd_47, al_47, rd_48, al_48, rd_49, al_49, rd_50, al_50, rd_51, al_51, rd_52, al_52, rd_53, al_53, rd_54, al_54, rd_55, al_55, lck_0, lck_i, lck_r, lck_n, lck_l, csum_0, csum_i, csum_r, csum_l, pops_0, pops_s, psh_n, psh_s, List.getElem?_cons_zero, List.getElem?_cons_succ, List.set_cons_zero, List.set_cons_succ, true_and, and_true, Nat.reduceAdd, Nat.reduceLeDiff, S6_byteAt, a0, a1, f1, f2, c1, c2, l01_0, l01_1, or_true, true_or, nn, false_implies, true_implies, implies_true, and_true, true_and, not_true_eq_false, not_false_eq_true, eq_self]
      exact hQ
  · rw [if_neg (fun q => c1 q.1)] at hQ
    simp only [x6_isName_0, x6_isName_1, x6_isName_4, x6_isName_5, x6_isName_8, x6_isName_9, x6_isName_12, x6_isName_13, x6_isName_16, x6_isName_17, x6_isName_18, x6_isName_21, x6_isName_22, x6_isName_23, x6_isName_26, x6_isName_29, x6_isName_30, x6_isName_33, x6_isName_34, x6_isName_35, x6_isName_38, x6_isName_39, x6_isName_40, x6_isName_43, x6_isName_44, x6_isName_47, x6_isName_48, x6_isName_49, x6_isName_52, x6_isName_53, x6_isName_54, x6_isName_57, x6_isName_59, x6_isName_62, x6_isName_63, x6_isName_64, x6_isName_67, x6_isName_68, x6_isName_69, x6_isName_72, x6_isName_74, x6_isName_77, x6_isName_78, x6_isName_81, x6_isName_82, i_ald, i_cV, i_get, i_goto, i_iadd, i_ic, i_ic_ne, i_ild, i_isub, i_zret, oc_41, fv_41_0, fv_41_1, fv_41_2, fv_41_3, fv_41_4, ly_41_4, fv_41_5, fv_41_6, ly_41_6, fv_41_7, ly_41_7, fv_41_8, ly_41_8, fv_41_9, ly_41_9, fv_41_10, ly_41_10, fv_41_11, ly_41_11, fv_41_12, fv_41_13, fv_41_14, ly_41_14, fv_41_15, fv_41_16, fv_41_17, fv_41_18, fv_41_19, fv_41_20, fv_41_21, fv_41_22, ly_41_22, fv_41_23, ly_41_23, fv_41_24, ly_41_24, fv_41_25, ly_41_25, fv_41_26, ly_41_26, rd_42, al_42, rd_43, al_43, rd_44, al_44, rd_45, al_45, rd_46, al_46, rd_47, al_47, rd_48, al_48, rd_49, al_49, rd_50, al_50, rd_51, al_51, rd_52, al_52, rd_53, al_53, rd_54, al_54, rd_55, al_55, lck_0, lck_i, lck_r, lck_n, lck_l, csum_0, csum_i, csum_r, csum_l, pops_0, pops_s, psh_n, psh_s, List.getElem?_cons_zero, List.getElem?_cons_succ, List.set_cons_zero, List.set_cons_succ, true_and, and_true, Nat.reduceAdd, Nat.reduceLeDiff, S6_byteAt, a0, a1, f1, f2, c1, l01_0, l01_1, or_true, true_or, nn, false_implies, true_implies, implies_true, and_true, true_and, not_true_eq_false, not_false_eq_true, eq_self]
    exact hQ
theorem rn6_isSame {h : Hp} {Q : Po} {m : Nat} {i : Int32} {a : Int32} {b : Int32} {c : Int32} (hS : S6_isSame [.ref m, .int i, .int a, .int b, .int c] h Q) : Rn (T6_isSame Q S6_byteAt) (0, [some (.ref m), some (.int i), some (.int a), some (.int b), some (.int c)], [], h) := by
  obtain ⟨rfl, ⟨a0, a1, a2, a3⟩, ⟨i0, i1⟩, hQ⟩ := hS
  have a4 := Int32.le_trans a2 a3
  have f0 : 0 ≤ h 41 8 + i := frK a1 a4 i0 (by grind)
  have f1 : 0 ≤ h 41 8 + i + 1 := by grind
  have f2 : 0 ≤ h 41 8 + i + 2 := by grind
  unfold smM at hQ
  refine Rn_in C6_isSame 90 ?_
  simp only [x6_isSame_0, x6_isSame_1, x6_isSame_2, x6_isSame_5, x6_isSame_6, x6_isSame_7, x6_isSame_10, x6_isSame_11, x6_isSame_14, x6_isSame_15, x6_isSame_16, x6_isSame_19, x6_isSame_20, x6_isSame_21, x6_isSame_22, x6_isSame_23, x6_isSame_26, x6_isSame_27, x6_isSame_30, x6_isSame_31, x6_isSame_32, x6_isSame_35, x6_isSame_36, x6_isSame_37, x6_isSame_38, x6_isSame_39, x6_isSame_42, x6_isSame_44, x6_isSame_47, x6_isSame_48, x6_isSame_51, x6_isSame_52, i_ald, i_cV, i_get, i_goto, i_iadd, i_ic, i_ic_ne, i_ild, i_zret, oc_41, fv_41_0, fv_41_1, fv_41_2, fv_41_3, fv_41_4, ly_41_4, fv_41_5, fv_41_6, ly_41_6, fv_41_7, ly_41_7, fv_41_8, ly_41_8, fv_41_9, ly_41_9, fv_41_10, ly_41_10, fv_41_11, ly_41_11, fv_41_12, fv_41_13, fv_41_14, ly_41_14, fv_41_15, fv_41_16, fv_41_17, fv_41_18, fv_41_19, fv_41_20, fv_41_21, fv_41_22, ly_41_22, fv_41_23, ly_41_23, fv_41_24, ly_41_24, fv_41_25, ly_41_25, fv_41_26, ly_41_26, rd_42, al_42, rd_43, al_43, rd_44, al_44, rd_45, al_45, rd_46, al_46, rd_47, al_47, rd_48, al_48, rd_49, al_49, rd_50, al_50, rd_51, al_51, rd_52, al_52, rd_53, al_53, rd_54, al_54, rd_55, al_55, lck_0, lck_i, lck_r, lck_n, lck_l, csum_0, csum_i, csum_r, csum_l, pops_0, pops_s, psh_n, psh_s, List.getElem?_cons_zero, List.getElem?_cons_succ, List.set_cons_zero, List.set_cons_succ, true_and, and_true, Nat.reduceAdd, Nat.reduceLeDiff, S6_byteAt, a0, f0, f1, f2, l01_0, l01_1, or_true, true_or, nn, false_implies, true_implies, implies_true, and_true, true_and, not_true_eq_false, not_false_eq_true, eq_self]
  grind
theorem ge1 : ((1 : Int32) ≤ 3) = True ∧ ((1 : Int32) ≤ 4) = True ∧ ((1 : Int32) ≤ 5) = True ∧ ((1 : Int32) ≤ 6) = True ∧ ((1 : Int32) ≤ 7) = True ∧ ((1 : Int32) ≤ 8) = True := by decide
theorem in3 : ((0 : Int32) ≤ 3 ∧ (3 : Int32) ≤ 200) = True := by decide
theorem rn6_isFour {h : Hp} {Q : Po} {m : Nat} {a : Int32} {b : Int32} {c : Int32} {z : Int32} (hS : S6_isFour [.ref m, .int a, .int b, .int c, .int z] h Q) : Rn (T6_isFour Q S6_isName) (0, [some (.ref m), some (.int a), some (.int b), some (.int c), some (.int z)], [], h) := by
  obtain ⟨rfl, tq, hQ⟩ := hS
  refine Rn_in C6_isFour 60 ?_
  simp only [x6_isFour_0, x6_isFour_1, x6_isFour_2, x6_isFour_3, x6_isFour_4, x6_isFour_5, x6_isFour_7, x6_isFour_10, i_ald, i_cV, i_ic, i_ild, i_zret, oc_41, fv_41_0, fv_41_1, fv_41_2, fv_41_3, fv_41_4, ly_41_4, fv_41_5, fv_41_6, ly_41_6, fv_41_7, ly_41_7, fv_41_8, ly_41_8, fv_41_9, ly_41_9, fv_41_10, ly_41_10, fv_41_11, ly_41_11, fv_41_12, fv_41_13, fv_41_14, ly_41_14, fv_41_15, fv_41_16, fv_41_17, fv_41_18, fv_41_19, fv_41_20, fv_41_21, fv_41_22, ly_41_22, fv_41_23, ly_41_23, fv_41_24, ly_41_24, fv_41_25, ly_41_25, fv_41_26, ly_41_26, rd_42, al_42, rd_43, al_43, rd_44, al_44, rd_45, al_45, rd_46, al_46, rd_47, al_47, rd_48, al_48, rd_49, al_49, rd_50, al_50, rd_51, al_51, rd_52, al_52, rd_53, al_53, rd_54, al_54, rd_55, al_55, lck_0, lck_i, lck_r, lck_n, lck_l, csum_0, csum_i, csum_r, csum_l, pops_0, pops_s, psh_n, psh_s, List.getElem?_cons_zero, List.getElem?_cons_succ, List.set_cons_zero, List.set_cons_succ, true_and, and_true, Nat.reduceAdd, Nat.reduceLeDiff, S6_isName, tq, ge1, nmM_01, nn, false_implies, true_implies, implies_true, and_true, true_and, not_true_eq_false, not_false_eq_true, eq_self]
  exact hQ
theorem rn6_isFive {h : Hp} {Q : Po} {m : Nat} {a : Int32} {b : Int32} {c : Int32} {d : Int32} {e : Int32} (hS : S6_isFive [.ref m, .int a, .int b, .int c, .int d, .int e] h Q) : Rn (T6_isFive Q S6_isName S6_byteAt) (0, [some (.ref m), some (.int a), some (.int b), some (.int c), some (.int d), some (.int e)], [], h) := by
  obtain ⟨rfl, tq, hQ⟩ := hS
  have f3 : 0 ≤ h 41 8 + 3 := frK tq.2.1 (Int32.le_trans tq.2.2.1 tq.2.2.2) (by decide) (by decide)
  have a0 := tq.1
  unfold fiM at hQ
  refine Rn_in C6_isFive 60 ?_
  simp only [x6_isFive_0, x6_isFive_1, x6_isFive_2, x6_isFive_3, x6_isFive_4, x6_isFive_5, x6_isFive_7, x6_isFive_10, x6_isFive_13, x6_isFive_14, x6_isFive_15, x6_isFive_18, x6_isFive_19, x6_isFive_20, x6_isFive_23, x6_isFive_25, x6_isFive_28, x6_isFive_29, x6_isFive_32, x6_isFive_33, i_ald, i_cV, i_get, i_goto, i_iadd, i_ic, i_ic_ne, i_if_eq, i_ild, i_zret, oc_41, fv_41_0, fv_41_1, fv_41_2, fv_41_3, fv_41_4, ly_41_4, fv_41_5, fv_41_6, ly_41_6, fv_41_7, ly_41_7, fv_41_8, ly_41_8, fv_41_9, ly_41_9, fv_41_10, ly_41_10, fv_41_11, ly_41_11, fv_41_12, fv_41_13, fv_41_14, ly_41_14, fv_41_15, fv_41_16, fv_41_17, fv_41_18, fv_41_19, fv_41_20, fv_41_21, fv_41_22, ly_41_22, fv_41_23, ly_41_23, fv_41_24, ly_41_24, fv_41_25, ly_41_25, fv_41_26, ly_41_26, rd_42, al_42, rd_43, al_43, rd_44, al_44, rd_45, al_45, rd_46, al_46, rd_47, al_47, rd_48, al_48, rd_49, al_49, rd_50, al_50, rd_51, al_51, rd_52, al_52, rd_53, al_53, rd_54, al_54, rd_55, al_55, lck_0, lck_i, lck_r, lck_n, lck_l, csum_0, csum_i, csum_r, csum_l, pops_0, pops_s, psh_n, psh_s, List.getElem?_cons_zero, List.getElem?_cons_succ, List.set_cons_zero, List.set_cons_succ, true_and, and_true, Nat.reduceAdd, Nat.reduceLeDiff, S6_isName, S6_byteAt, tq, ge1, a0, f3, l01_0, l01_1, or_true, true_or, nn, false_implies, true_implies, implies_true, and_true, true_and, not_true_eq_false, not_false_eq_true, eq_self]
  grind
theorem rn6_isTwo {h : Hp} {Q : Po} {m : Nat} {a : Int32} {b : Int32} (hS : S6_isTwo [.ref m, .int a, .int b] h Q) : Rn (T6_isTwo Q S6_byteAt) (0, [some (.ref m), some (.int a), some (.int b)], [], h) := by
  obtain ⟨rfl, ⟨a0, a1, a2, a3⟩, hQ⟩ := hS
  have f1 : 0 ≤ h 41 8 + 1 := frK a1 (Int32.le_trans a2 a3) (by decide) (by decide)
  unfold twM at hQ
  refine Rn_in C6_isTwo 60 ?_
  simp only [x6_isTwo_0, x6_isTwo_1, x6_isTwo_4, x6_isTwo_5, x6_isTwo_8, x6_isTwo_9, x6_isTwo_12, x6_isTwo_13, x6_isTwo_16, x6_isTwo_17, x6_isTwo_18, x6_isTwo_21, x6_isTwo_22, x6_isTwo_23, x6_isTwo_26, x6_isTwo_29, x6_isTwo_30, x6_isTwo_33, x6_isTwo_34, x6_isTwo_35, x6_isTwo_38, x6_isTwo_39, x6_isTwo_40, x6_isTwo_43, x6_isTwo_44, x6_isTwo_47, x6_isTwo_48, x6_isTwo_51, x6_isTwo_52, i_ald, i_cV, i_get, i_goto, i_iadd, i_ic, i_ic_ne, i_ild, i_isub, i_zret, oc_41, fv_41_0, fv_41_1, fv_41_2, fv_41_3, fv_41_4, ly_41_4, fv_41_5, fv_41_6, ly_41_6, fv_41_7, ly_41_7, fv_41_8, ly_41_8, fv_41_9, ly_41_9, fv_41_10, ly_41_10, fv_41_11, ly_41_11, fv_41_12, fv_41_13, fv_41_14, ly_41_14, fv_41_15, fv_41_16, fv_41_17, fv_41_18, fv_41_19, fv_41_20, fv_41_21, fv_41_22, ly_41_22, fv_41_23, ly_41_23, fv_41_24, ly_41_24, fv_41_25, ly_41_25, fv_41_26, ly_41_26, rd_42, al_42, rd_43, al_43, rd_44, al_44, rd_45, al_45, rd_46, al_46, rd_47, al_47, rd_48, al_48, rd_49, al_49, rd_50, al_50, rd_51, al_51, rd_52, al_52, rd_53, al_53, rd_54, al_54, rd_55, al_55, lck_0, lck_i, lck_r, lck_n, lck_l, csum_0, csum_i, csum_r, csum_l, pops_0, pops_s, psh_n, psh_s, List.getElem?_cons_zero, List.getElem?_cons_succ, List.set_cons_zero, List.set_cons_succ, true_and, and_true, Nat.reduceAdd, Nat.reduceLeDiff, S6_byteAt, a0, a1, f1, l01_0, l01_1, or_true, true_or, nn, false_implies, true_implies, implies_true, and_true, true_and, not_true_eq_false, not_false_eq_true, eq_self]
  grind
theorem rn6_isNumber0 {h : Hp} {Q : Po} {m : Nat} {top : Int32} (hS : S6_isNumber0 [.ref m, .int top] h Q) : Rn (T6_isNumber0 Q) (0, [some (.ref m), some (.int top)], [], h) := by
  obtain ⟨rfl, hQ⟩ := hS
  unfold nuM at hQ
  refine Rn_in C6_isNumber0 60 ?_
  simp only [x6_isNumber0_0, x6_isNumber0_1, x6_isNumber0_4, x6_isNumber0_5, x6_isNumber0_8, x6_isNumber0_9, x6_isNumber0_12, x6_isNumber0_13, x6_isNumber0_16, x6_isNumber0_17, x6_isNumber0_18, x6_isNumber0_21, x6_isNumber0_22, x6_isNumber0_25, x6_isNumber0_26, x6_isNumber0_29, x6_isNumber0_30, x6_isNumber0_33, x6_isNumber0_34, i_ald, i_get, i_goto, i_ic, i_ic_gt, i_ic_ne, i_ild, i_isub, i_zret, oc_41, fv_41_0, fv_41_1, fv_41_2, fv_41_3, fv_41_4, ly_41_4, fv_41_5, fv_41_6, ly_41_6, fv_41_7, ly_41_7, fv_41_8, ly_41_8, fv_41_9, ly_41_9, fv_41_10, ly_41_10, fv_41_11, ly_41_11, fv_41_12, fv_41_13, fv_41_14, ly_41_14, fv_41_15, fv_41_16, fv_41_17, fv_41_18, fv_41_19, fv_41_20, fv_41_21, fv_41_22, ly_41_22, fv_41_23, ly_41_23, fv_41_24, ly_41_24, fv_41_25, ly_41_25, fv_41_26, ly_41_26, rd_42, al_42, rd_43, al_43, rd_44, al_44, rd_45, al_45, rd_46, al_46, rd_47, al_47, rd_48, al_48, rd_49, al_49, rd_50, al_50, rd_51, al_51, rd_52, al_52, rd_53, al_53, rd_54, al_54, rd_55, al_55, lck_0, lck_i, lck_r, lck_n, lck_l, csum_0, csum_i, csum_r, csum_l, pops_0, pops_s, psh_n, psh_s, List.getElem?_cons_zero, List.getElem?_cons_succ, List.set_cons_zero, List.set_cons_succ, true_and, and_true, Nat.reduceAdd, Nat.reduceLeDiff, l01_0, l01_1, or_true, true_or, nn, false_implies, true_implies, implies_true, and_true, true_and, not_true_eq_false, not_false_eq_true, eq_self]
  grind
def S6_needs : Sp := fun av h Q => match av with | [.ref m, .int b] => m = 41 ∧ TPm h ∧ ((¬ h 41 11 = 0 ∨ b = 0) → Q none (up2 h 41 11 1)) ∧ ((h 41 11 = 0 ∧ ¬ b = 0) → Q none (stm (up2 h 41 11 0))) | _ => False
theorem TPm_11 {h : Hp} (x : Int32) (q : TPm h) : TPm (up2 h 41 11 x) := by
  unfold TPm at q ⊢
  simpa [up2] using q
theorem u11_11 (h : Hp) (x : Int32) : up2 h 41 11 x 41 11 = x := by simp [up2]
theorem rn6_needs {h : Hp} {Q : Po} {m : Nat} {b : Int32} (hS : S6_needs [.ref m, .int b] h Q) : Rn (T6_needs Q S6_nextToken) (0, [some (.ref m), some (.int b)], [], h) := by
  obtain ⟨rfl, tp, q1, q2⟩ := hS
  have tp0 := TPm_11 0 tp
  refine Rn_in C6_needs 60 ?_
  by_cases c1 : h 41 11 = 0
  · by_cases c2 : b = 0
    · have hQ := q1 (Or.inr c2)
      simp only [x6_needs_0, x6_needs_1, x6_needs_2, x6_needs_5, x6_needs_8, x6_needs_9, x6_needs_12, x6_needs_13, x6_needs_16, x6_needs_17, x6_needs_20, x6_needs_21, x6_needs_24, x6_needs_27, x6_needs_28, x6_needs_31, i_ald, i_cV, i_get, i_goto, i_ic, i_if_ne, i_ild, i_putz, i_vret, oc_41, fv_41_0, fv_41_1, fv_41_2, fv_41_3, fv_41_4, ly_41_4, fv_41_5, fv_41_6, ly_41_6, fv_41_7, ly_41_7, fv_41_8, ly_41_8, fv_41_9, ly_41_9, fv_41_10, ly_41_10, fv_41_11, ly_41_11, fv_41_12, fv_41_13, fv_41_14, ly_41_14, fv_41_15, fv_41_16, fv_41_17, fv_41_18, fv_41_19, fv_41_20, fv_41_21, fv_41_22, ly_41_22, fv_41_23, ly_41_23, fv_41_24, ly_41_24, fv_41_25, ly_41_25, fv_41_26, ly_41_26, rd_42, al_42, rd_43, al_43, rd_44, al_44, rd_45, al_45, rd_46, al_46, rd_47, al_47, rd_48, al_48, rd_49, al_49, rd_50, al_50, rd_51, al_51, rd_52, al_52, rd_53, al_53, rd_54, al_54, rd_55, al_55, lck_0, lck_i, lck_r, lck_n, lck_l, csum_0, csum_i, csum_r, csum_l, pops_0, pops_s, psh_n, psh_s, List.getElem?_cons_zero, List.getElem?_cons_succ, List.set_cons_zero, List.set_cons_succ, true_and, and_true, Nat.reduceAdd, Nat.reduceLeDiff, S6_nextToken, u11_11, c1, c2, l01_0, l01_1, ne_1_0, or_true, true_or, nn, false_implies, true_implies, implies_true, and_true, true_and, not_true_eq_false, not_false_eq_true, eq_self]
      exact hQ
    · have hQ := q2 ⟨c1, c2⟩
      simp only [x6_needs_0, x6_needs_1, x6_needs_2, x6_needs_5, x6_needs_8, x6_needs_9, x6_needs_12, x6_needs_13, x6_needs_16, x6_needs_17, x6_needs_20, x6_needs_21, x6_needs_24, x6_needs_27, x6_needs_28, x6_needs_31, i_ald, i_cV, i_get, i_goto, i_ic, i_if_ne, i_ild, i_putz, i_vret, oc_41, fv_41_0, fv_41_1, fv_41_2, fv_41_3, fv_41_4, ly_41_4, fv_41_5, fv_41_6, ly_41_6, fv_41_7, ly_41_7, fv_41_8, ly_41_8, fv_41_9, ly_41_9, fv_41_10, ly_41_10, fv_41_11, ly_41_11, fv_41_12, fv_41_13, fv_41_14, ly_41_14, fv_41_15, fv_41_16, fv_41_17, fv_41_18, fv_41_19, fv_41_20, fv_41_21, fv_41_22, ly_41_22, fv_41_23, ly_41_23, fv_41_24, ly_41_24, fv_41_25, ly_41_25, fv_41_26, ly_41_26, rd_42, al_42, rd_43, al_43, rd_44, al_44, rd_45, al_45, rd_46, al_46, rd_47, al_47, rd_48, al_48, rd_49, al_49, rd_50, al_50, rd_51, al_51, rd_52, al_52, rd_53, al_53, rd_54, al_54, rd_55, al_55, lck_0, lck_i, lck_r, lck_n, lck_l, csum_0, csum_i, csum_r, csum_l, pops_0, pops_s, psh_n, psh_s, List.getElem?_cons_zero, List.getElem?_cons_succ, List.set_cons_zero, List.set_cons_succ, true_and, and_true, Nat.reduceAdd, Nat.reduceLeDiff, S6_nextToken, u11_11, tp0, c1, c2, l01_0, l01_1, ne_1_0, or_true, true_or, nn, false_implies, true_implies, implies_true, and_true, true_and, not_true_eq_false, not_false_eq_true, eq_self]
      exact hQ
  · have hQ := q1 (Or.inl c1)
    simp only [x6_needs_0, x6_needs_1, x6_needs_2, x6_needs_5, x6_needs_8, x6_needs_9, x6_needs_12, x6_needs_13, x6_needs_16, x6_needs_17, x6_needs_20, x6_needs_21, x6_needs_24, x6_needs_27, x6_needs_28, x6_needs_31, i_ald, i_cV, i_get, i_goto, i_ic, i_if_ne, i_ild, i_putz, i_vret, oc_41, fv_41_0, fv_41_1, fv_41_2, fv_41_3, fv_41_4, ly_41_4, fv_41_5, fv_41_6, ly_41_6, fv_41_7, ly_41_7, fv_41_8, ly_41_8, fv_41_9, ly_41_9, fv_41_10, ly_41_10, fv_41_11, ly_41_11, fv_41_12, fv_41_13, fv_41_14, ly_41_14, fv_41_15, fv_41_16, fv_41_17, fv_41_18, fv_41_19, fv_41_20, fv_41_21, fv_41_22, ly_41_22, fv_41_23, ly_41_23, fv_41_24, ly_41_24, fv_41_25, ly_41_25, fv_41_26, ly_41_26, rd_42, al_42, rd_43, al_43, rd_44, al_44, rd_45, al_45, rd_46, al_46, rd_47, al_47, rd_48, al_48, rd_49, al_49, rd_50, al_50, rd_51, al_51, rd_52, al_52, rd_53, al_53, rd_54, al_54, rd_55, al_55, lck_0, lck_i, lck_r, lck_n, lck_l, csum_0, csum_i, csum_r, csum_l, pops_0, pops_s, psh_n, psh_s, List.getElem?_cons_zero, List.getElem?_cons_succ, List.set_cons_zero, List.set_cons_succ, true_and, and_true, Nat.reduceAdd, Nat.reduceLeDiff, S6_nextToken, u11_11, c1, l01_0, l01_1, ne_1_0, or_true, true_or, nn, false_implies, true_implies, implies_true, and_true, true_and, not_true_eq_false, not_false_eq_true, eq_self]
    exact hQ
def S6_numberTo : Sp := fun av h Q => match av with | [.ref m, .int a, .int top] => m = 41 ∧ TPm h ∧ (0 ≤ a ∧ a < 47) ∧ ((¬ h 41 11 = 0 ∨ nuM h top = 0) → Q none (up2 h 41 11 1)) ∧ ((h 41 11 = 0 ∧ ¬ nuM h top = 0) → Q none (stm (up2 (up2 h 42 (ix a) (h 41 10)) 41 11 0))) | _ => False
theorem TPm_42 {h : Hp} (a : Nat) (x : Int32) (q : TPm h) : TPm (up2 h 42 a x) := by
  unfold TPm at q ⊢
  simpa [up2] using q
theorem u42_41 (h : Hp) (a : Nat) (x : Int32) : up2 h 42 a x 41 = h 41 := up2_ne (by decide)
theorem rn6_numberTo {h : Hp} {Q : Po} {m : Nat} {a : Int32} {top : Int32} (hS : S6_numberTo [.ref m, .int a, .int top] h Q) : Rn (T6_numberTo Q S6_isNumber0 S6_needs) (0, [some (.ref m), some (.int a), some (.int top), none], [], h) := by
  obtain ⟨rfl, tp, ha, q1, q2⟩ := hS
  have tp2 := TPm_42 (ix a) (h 41 10) tp
  simp only [ix] at tp2
  refine Rn_in C6_numberTo 60 ?_
  by_cases c2 : nuM h top = 0
  · have hQ := q1 (Or.inr c2)
    simp only [x6_numberTo_0, x6_numberTo_1, x6_numberTo_2, x6_numberTo_5, x6_numberTo_6, x6_numberTo_7, x6_numberTo_10, x6_numberTo_11, x6_numberTo_14, x6_numberTo_17, x6_numberTo_18, x6_numberTo_21, x6_numberTo_22, x6_numberTo_23, x6_numberTo_26, x6_numberTo_27, x6_numberTo_28, x6_numberTo_29, x6_numberTo_32, i_ald, i_cV, i_get, i_iast, i_if_eq, i_if_ne, i_ild, i_ist, i_vret, oc_41, fv_41_0, fv_41_1, fv_41_2, fv_41_3, fv_41_4, ly_41_4, fv_41_5, fv_41_6, ly_41_6, fv_41_7, ly_41_7, fv_41_8, ly_41_8, fv_41_9, ly_41_9, fv_41_10, ly_41_10, fv_41_11, ly_41_11, fv_41_12, fv_41_13, fv_41_14, ly_41_14, fv_41_15, fv_41_16, fv_41_17, fv_41_18, fv_41_19, fv_41_20, fv_41_21, fv_41_22, ly_41_22, fv_41_23, ly_41_23, fv_41_24, ly_41_24, fv_41_25, ly_41_25, fv_41_26, ly_41_26, rd_42, al_42, rd_43, al_43, rd_44, al_44, rd_45, al_45, rd_46, al_46, rd_47, al_47, rd_48, al_48, rd_49, al_49, rd_50, al_50, rd_51, al_51, rd_52, al_52, rd_53, al_53, rd_54, al_54, rd_55, al_55, lck_0, lck_i, lck_r, lck_n, lck_l, csum_0, csum_i, csum_r, csum_l, pops_0, pops_s, psh_n, psh_s, List.getElem?_cons_zero, List.getElem?_cons_succ, List.set_cons_zero, List.set_cons_succ, true_and, and_true, Nat.reduceAdd, Nat.reduceLeDiff, S6_isNumber0, S6_needs, c2, tp, or_true, true_or, and_false, nn, false_implies, true_implies, implies_true, and_true, true_and, not_true_eq_false, not_false_eq_true, eq_self]
    exact hQ
  · by_cases c1 : h 41 11 = 0
    · have hQ := q2 ⟨c1, c2⟩
      simp only [x6_numberTo_0, x6_numberTo_1, x6_numberTo_2, x6_numberTo_5, x6_numberTo_6, x6_numberTo_7, x6_numberTo_10, x6_numberTo_11, x6_numberTo_14, x6_numberTo_17, x6_numberTo_18, x6_numberTo_21, x6_numberTo_22, x6_numberTo_23, x6_numberTo_26, x6_numberTo_27, x6_numberTo_28, x6_numberTo_29, x6_numberTo_32, i_ald, i_cV, i_get, i_iast, i_if_eq, i_if_ne, i_ild, i_ist, i_vret, oc_41, fv_41_0, fv_41_1, fv_41_2, fv_41_3, fv_41_4, ly_41_4, fv_41_5, fv_41_6, ly_41_6, fv_41_7, ly_41_7, fv_41_8, ly_41_8, fv_41_9, ly_41_9, fv_41_10, ly_41_10, fv_41_11, ly_41_11, fv_41_12, fv_41_13, fv_41_14, ly_41_14, fv_41_15, fv_41_16, fv_41_17, fv_41_18, fv_41_19, fv_41_20, fv_41_21, fv_41_22, ly_41_22, fv_41_23, ly_41_23, fv_41_24, ly_41_24, fv_41_25, ly_41_25, fv_41_26, ly_41_26, rd_42, al_42, rd_43, al_43, rd_44, al_44, rd_45, al_45, rd_46, al_46, rd_47, al_47, rd_48, al_48, rd_49, al_49, rd_50, al_50, rd_51, al_51, rd_52, al_52, rd_53, al_53, rd_54, al_54, rd_55, al_55, lck_0, lck_i, lck_r, lck_n, lck_l, csum_0, csum_i, csum_r, csum_l, pops_0, pops_s, psh_n, psh_s, List.getElem?_cons_zero, List.getElem?_cons_succ, List.set_cons_zero, List.set_cons_succ, true_and, and_true, Nat.reduceAdd, Nat.reduceLeDiff, S6_isNumber0, S6_needs, c2, c1, v47, ha, tp2, u42_41, or_true, true_or, or_false, false_or, and_false, nn, false_implies, true_implies, implies_true, and_true, true_and, not_true_eq_false, not_false_eq_true, eq_self]
      exact hQ
    · have hQ := q1 (Or.inl c1)
      simp only [x6_numberTo_0, x6_numberTo_1, x6_numberTo_2, x6_numberTo_5, x6_numberTo_6, x6_numberTo_7, x6_numberTo_10, x6_numberTo_11, x6_numberTo_14, x6_numberTo_17, x6_numberTo_18, x6_numberTo_21, x6_numberTo_22, x6_numberTo_23, x6_numberTo_26, x6_numberTo_27, x6_numberTo_28, x6_numberTo_29, x6_numberTo_32, i_ald, i_cV, i_get, i_iast, i_if_eq, i_if_ne, i_ild, i_ist, i_vret, oc_41, fv_41_0, fv_41_1, fv_41_2, fv_41_3, fv_41_4, ly_41_4, fv_41_5, fv_41_6, ly_41_6, fv_41_7, ly_41_7, fv_41_8, ly_41_8, fv_41_9, ly_41_9, fv_41_10, ly_41_10, fv_41_11, ly_41_11, fv_41_12, fv_41_13, fv_41_14, ly_41_14, fv_41_15, fv_41_16, fv_41_17, fv_41_18, fv_41_19, fv_41_20, fv_41_21, fv_41_22, ly_41_22, fv_41_23, ly_41_23, fv_41_24, ly_41_24, fv_41_25, ly_41_25, fv_41_26, ly_41_26, rd_42, al_42, rd_43, al_43, rd_44, al_44, rd_45, al_45, rd_46, al_46, rd_47, al_47, rd_48, al_48, rd_49, al_49, rd_50, al_50, rd_51, al_51, rd_52, al_52, rd_53, al_53, rd_54, al_54, rd_55, al_55, lck_0, lck_i, lck_r, lck_n, lck_l, csum_0, csum_i, csum_r, csum_l, pops_0, pops_s, psh_n, psh_s, List.getElem?_cons_zero, List.getElem?_cons_succ, List.set_cons_zero, List.set_cons_succ, true_and, and_true, Nat.reduceAdd, Nat.reduceLeDiff, S6_isNumber0, S6_needs, c2, c1, tp, or_true, true_or, false_and, nn, false_implies, true_implies, implies_true, and_true, true_and, not_true_eq_false, not_false_eq_true, eq_self]
      exact hQ
def kdH (h : Hp) : Int32 := if nmM h 6 105 110 109 101 = 0 ∨ smM h 3 97 116 101 = 0 then (if nmM h 7 98 117 114 114 = 0 ∨ smM h 3 103 108 97 = 0 then (if nmM h 8 100 117 101 116 = 0 ∨ smM h 3 108 108 105 = 0 ∨ ¬ bH h (h 41 8 + 6) = 115 then (if nmM h 6 102 111 114 114 = 0 ∨ smM h 3 103 101 114 = 0 then (if nmM h 3 110 117 110 110 = 0 then (if fiM h 99 104 105 108 100 = 0 then (-1) else 5) else 4) else 3) else 2) else 1) else 0
def lwH (h : Hp) : Int32 := if nmM h 6 115 116 114 116 = 0 ∨ smM h 3 105 99 116 = 0 then (if nmM h 4 101 97 115 101 = 0 then (if nmM h 3 100 117 101 101 = 0 then (if nmM h 6 115 110 101 101 = 0 ∨ smM h 3 101 122 101 = 0 then (-1) else 6) else 5) else 4) else 3
def S6_kindHere : Sp := fun av h Q => match av with | [.ref m] => m = 41 ∧ TQm h ∧ Q (some (.int (kdH h))) h | _ => False
def S6_lawHere : Sp := fun av h Q => match av with | [.ref m] => m = 41 ∧ TQm h ∧ Q (some (.int (lwH h))) h | _ => False
theorem orC (a b g r : Prop) : ((a → g) ∧ (¬ a → (b → g) ∧ (¬ b → r))) = ((a ∨ b → g) ∧ (¬ (a ∨ b) → r)) := by
  apply propext
  by_cases a <;> by_cases b <;> simp_all
theorem orD (a b g r : Prop) : ((a → g) ∧ (¬ a → (¬ b → g) ∧ (b → r))) = ((a ∨ ¬ b → g) ∧ (¬ (a ∨ ¬ b) → r)) := by
  apply propext
  by_cases a <;> by_cases b <;> simp_all
theorem Qif {Q : Po} {h : Hp} (c : Prop) {d : Decidable c} (x y : Int32) : Q (some (.int (@ite _ c d x y))) h = ((c → Q (some (.int x)) h) ∧ (¬ c → Q (some (.int y)) h)) := by
  apply propext
  by_cases c <;> simp_all
theorem rn6_kindHere {h : Hp} {Q : Po} {m : Nat} (hS : S6_kindHere [.ref m] h Q) : Rn (T6_kindHere Q S6_isName S6_isSame S6_byteAt S6_isFive) (0, [some (.ref m)], [], h) := by
  obtain ⟨rfl, tq, hQ⟩ := hS
  have f6 : 0 ≤ h 41 8 + 6 := frK tq.2.1 (Int32.le_trans tq.2.2.1 tq.2.2.2) (by decide) (by decide)
  have a0 := tq.1
  simp only [kdH, Qif] at hQ
  refine Rn_in C6_kindHere 120 ?_
  simp only [x6_kindHere_0, x6_kindHere_1, x6_kindHere_3, x6_kindHere_5, x6_kindHere_7, x6_kindHere_9, x6_kindHere_11, x6_kindHere_14, x6_kindHere_17, x6_kindHere_18, x6_kindHere_19, x6_kindHere_21, x6_kindHere_23, x6_kindHere_25, x6_kindHere_28, x6_kindHere_31, x6_kindHere_32, x6_kindHere_33, x6_kindHere_34, x6_kindHere_36, x6_kindHere_38, x6_kindHere_40, x6_kindHere_42, x6_kindHere_44, x6_kindHere_47, x6_kindHere_50, x6_kindHere_51, x6_kindHere_52, x6_kindHere_54, x6_kindHere_56, x6_kindHere_58, x6_kindHere_61, x6_kindHere_64, x6_kindHere_65, x6_kindHere_66, x6_kindHere_67, x6_kindHere_69, x6_kindHere_71, x6_kindHere_73, x6_kindHere_75, x6_kindHere_77, x6_kindHere_80, x6_kindHere_83, x6_kindHere_84, x6_kindHere_85, x6_kindHere_87, x6_kindHere_89, x6_kindHere_91, x6_kindHere_94, x6_kindHere_97, x6_kindHere_98, x6_kindHere_99, x6_kindHere_102, x6_kindHere_104, x6_kindHere_105, x6_kindHere_108, x6_kindHere_110, x6_kindHere_113, x6_kindHere_114, x6_kindHere_115, x6_kindHere_116, x6_kindHere_118, x6_kindHere_120, x6_kindHere_122, x6_kindHere_124, x6_kindHere_126, x6_kindHere_129, x6_kindHere_132, x6_kindHere_133, x6_kindHere_134, x6_kindHere_136, x6_kindHere_138, x6_kindHere_140, x6_kindHere_143, x6_kindHere_146, x6_kindHere_147, x6_kindHere_148, x6_kindHere_149, x6_kindHere_150, x6_kindHere_152, x6_kindHere_154, x6_kindHere_156, x6_kindHere_158, x6_kindHere_161, x6_kindHere_164, x6_kindHere_165, x6_kindHere_166, x6_kindHere_167, x6_kindHere_169, x6_kindHere_171, x6_kindHere_173, x6_kindHere_175, x6_kindHere_177, x6_kindHere_180, x6_kindHere_183, x6_kindHere_184, x6_kindHere_187, x6_kindHere_188, i_ald, i_cV, i_get, i_goto, i_iadd, i_ic, i_ic_ne, i_if_eq, i_iret, oc_41, fv_41_0, fv_41_1, fv_41_2, fv_41_3, fv_41_4, ly_41_4, fv_41_5, fv_41_6, ly_41_6, fv_41_7, ly_41_7, fv_41_8, ly_41_8, fv_41_9, ly_41_9, fv_41_10, ly_41_10, fv_41_11, ly_41_11, fv_41_12, fv_41_13, fv_41_14, ly_41_14, fv_41_15, fv_41_16, fv_41_17, fv_41_18, fv_41_19, fv_41_20, fv_41_21, fv_41_22, ly_41_22, fv_41_23, ly_41_23, fv_41_24, ly_41_24, fv_41_25, ly_41_25, fv_41_26, ly_41_26, rd_42, al_42, rd_43, al_43, rd_44, al_44, rd_45, al_45, rd_46, al_46, rd_47, al_47, rd_48, al_48, rd_49, al_49, rd_50, al_50, rd_51, al_51, rd_52, al_52, rd_53, al_53, rd_54, al_54, rd_55, al_55, lck_0, lck_i, lck_r, lck_n, lck_l, csum_0, csum_i, csum_r, csum_l, pops_0, pops_s, psh_n, psh_s, List.getElem?_cons_zero, List.getElem?_cons_succ, List.set_cons_zero, List.set_cons_succ, true_and, and_true, Nat.reduceAdd, Nat.reduceLeDiff, S6_isName, S6_isSame, S6_isFive, S6_byteAt, tq, ge1, in3, a0, f6, nn, false_implies, true_implies, implies_true, and_true, true_and, not_true_eq_false, not_false_eq_true, eq_self]
  simp only [orC, orD]
  exact hQ
theorem rn6_lawHere {h : Hp} {Q : Po} {m : Nat} (hS : S6_lawHere [.ref m] h Q) : Rn (T6_lawHere Q S6_isName S6_isSame S6_isFour) (0, [some (.ref m)], [], h) := by
  obtain ⟨rfl, tq, hQ⟩ := hS
  simp only [lwH] at hQ
  refine Rn_in C6_lawHere 120 ?_
  simp only [x6_lawHere_0, x6_lawHere_1, x6_lawHere_3, x6_lawHere_5, x6_lawHere_7, x6_lawHere_9, x6_lawHere_11, x6_lawHere_14, x6_lawHere_17, x6_lawHere_18, x6_lawHere_19, x6_lawHere_21, x6_lawHere_23, x6_lawHere_25, x6_lawHere_28, x6_lawHere_31, x6_lawHere_32, x6_lawHere_33, x6_lawHere_34, x6_lawHere_36, x6_lawHere_38, x6_lawHere_40, x6_lawHere_42, x6_lawHere_45, x6_lawHere_48, x6_lawHere_49, x6_lawHere_50, x6_lawHere_51, x6_lawHere_52, x6_lawHere_54, x6_lawHere_56, x6_lawHere_58, x6_lawHere_60, x6_lawHere_63, x6_lawHere_66, x6_lawHere_67, x6_lawHere_68, x6_lawHere_69, x6_lawHere_71, x6_lawHere_73, x6_lawHere_75, x6_lawHere_77, x6_lawHere_79, x6_lawHere_82, x6_lawHere_85, x6_lawHere_86, x6_lawHere_87, x6_lawHere_89, x6_lawHere_91, x6_lawHere_93, x6_lawHere_96, x6_lawHere_99, x6_lawHere_101, x6_lawHere_104, x6_lawHere_105, i_ald, i_cV, i_goto, i_ic, i_if_eq, i_iret, oc_41, fv_41_0, fv_41_1, fv_41_2, fv_41_3, fv_41_4, ly_41_4, fv_41_5, fv_41_6, ly_41_6, fv_41_7, ly_41_7, fv_41_8, ly_41_8, fv_41_9, ly_41_9, fv_41_10, ly_41_10, fv_41_11, ly_41_11, fv_41_12, fv_41_13, fv_41_14, ly_41_14, fv_41_15, fv_41_16, fv_41_17, fv_41_18, fv_41_19, fv_41_20, fv_41_21, fv_41_22, ly_41_22, fv_41_23, ly_41_23, fv_41_24, ly_41_24, fv_41_25, ly_41_25, fv_41_26, ly_41_26, rd_42, al_42, rd_43, al_43, rd_44, al_44, rd_45, al_45, rd_46, al_46, rd_47, al_47, rd_48, al_48, rd_49, al_49, rd_50, al_50, rd_51, al_51, rd_52, al_52, rd_53, al_53, rd_54, al_54, rd_55, al_55, lck_0, lck_i, lck_r, lck_n, lck_l, csum_0, csum_i, csum_r, csum_l, pops_0, pops_s, psh_n, psh_s, List.getElem?_cons_zero, List.getElem?_cons_succ, List.set_cons_zero, List.set_cons_succ, true_and, and_true, Nat.reduceAdd, Nat.reduceLeDiff, S6_isName, S6_isSame, S6_isFour, tq, ge1, in3, nn, false_implies, true_implies, implies_true, and_true, true_and, not_true_eq_false, not_false_eq_true, eq_self]
  clear tq
  grind (splits := 60)
/-- the token at a place, in the reference's cells -/
def MK (n : Nat) (t : Nat → Int32) (h : Hp) (s : Nat → Int32) (p : Nat) (w : Int32) : Hp := upA (upA h 42 s) 41 (fun j => if j = 7 then nI (kd n t (st n t p)) else if j = 8 then nI (st n t p) else if j = 9 then nI (nx n t p) else if j = 10 then vlM n t (st n t p) else if j = 11 then w else h 41 j)
section MKS
variable (n : Nat) (t : Nat → Int32) (h : Hp) (s : Nat → Int32) (p : Nat) (w : Int32)
theorem MK_6 : MK n t h s p w 41 6 = h 41 6 := by simp [MK, upA]
theorem MK_7 : MK n t h s p w 41 7 = nI (kd n t (st n t p)) := by simp [MK, upA]
theorem MK_8 : MK n t h s p w 41 8 = nI (st n t p) := by simp [MK, upA]
theorem MK_9 : MK n t h s p w 41 9 = nI (nx n t p) := by simp [MK, upA]
theorem MK_10 : MK n t h s p w 41 10 = vlM n t (st n t p) := by simp [MK, upA]
theorem MK_11 : MK n t h s p w 41 11 = w := by simp [MK, upA]
theorem MK_42 : MK n t h s p w 42 = s := by
  unfold MK; rw [upA_ne (by decide), upA_self]
theorem MK_n {q : Nat} (h1 : q ≠ 41) (h2 : q ≠ 42) : MK n t h s p w q = h q := by
  unfold MK; rw [upA_ne h1, upA_ne h2]
theorem MK_46 : MK n t h s p w 46 = h 46 := MK_n n t h s p w (by decide) (by decide)
theorem MK_w (x : Int32) : up2 (MK n t h s p w) 41 11 x = MK n t h s p x := by
  unfold MK; funext a b; simp only [up2, upA]; grind
theorem MK_s (a : Nat) (x : Int32) : up2 (MK n t h s p w) 42 a x = MK n t h (upd s a x) p w := by
  unfold MK; funext c b; simp only [up2, upA, upd]; grind
theorem MK_A (s1 : Nat → Int32) : upA (MK n t h s p w) 42 s1 = MK n t h s1 p w := by
  unfold MK; funext c b; simp only [upA]; grind
theorem MK_T (q : Nat) : TM (MK n t h s p w) (nI (kd n t (st n t q))) (nI (st n t q)) (nI (nx n t q)) (vlM n t (st n t q)) = MK n t h s q w := by
  unfold TM MK; funext c b; simp only [upA]; grind
end MKS
def MCt (n : Nat) (t : Nat → Int32) (h : Hp) : Prop := h 41 6 = nI n ∧ n ≤ 200 ∧ ∀ k, k < n → h 46 k = t k ∧ 0 ≤ t k
theorem mkTP {n : Nat} {t : Nat → Int32} {h : Hp} (hc : MCt n t h) (s : Nat → Int32) {p : Nat} (hp : p ≤ n) (w : Int32) : TPm (MK n t h s p w) := by
  obtain ⟨c1, c2, c3⟩ := hc
  have := nx_le t hp
  unfold TPm
  rw [MK_6, MK_9, MK_46, c1, show ix (nI n) = n from ix_nI (by omega)]
  exact ⟨⟨nI_pos' (by omega), nI_le (b := 200) c2 (by decide)⟩, ⟨nI_pos' (by omega), nI_le this (by omega)⟩, fun k hk => by rw [(c3 k hk).1]; exact (c3 k hk).2⟩
theorem mkTQ {n : Nat} {t : Nat → Int32} {h : Hp} (hc : MCt n t h) (s : Nat → Int32) {p : Nat} (hp : p ≤ n) (w : Int32) : TQm (MK n t h s p w) := by
  obtain ⟨c1, c2, c3⟩ := hc
  have b := nx_le t hp
  have d := st_nx n t p
  unfold TQm
  rw [MK_6, MK_8, MK_9, c1]
  exact ⟨nI_le (b := 200) c2 (by decide), nI_pos' (by omega), nI_le d (by omega), nI_le (b := 200) (by omega) (by decide)⟩
theorem mkST {n : Nat} {t : Nat → Int32} {h : Hp} (hc : MCt n t h) (s : Nat → Int32) {p : Nat} (hp : p ≤ n) (w : Int32) : stm (MK n t h s p w) = MK n t h s (nx n t p) w := by
  obtain ⟨c1, c2, c3⟩ := hc
  have b := nx_le t hp
  have ag : ∀ k, k < n → h 46 k = t k := fun k hk => (c3 k hk).1
  unfold stm
  rw [MK_6, MK_9, MK_46, c1, show ix (nI n) = n from ix_nI (by omega), show ix (nI (nx n t p)) = nx n t p from ix_nI (by omega), st_c ag, kd_c ag, nx_c ag, vlM_c ag (st_le t b), MK_T]
theorem mkNU {n : Nat} {t : Nat → Int32} {h : Hp} (hc : MCt n t h) (s : Nat → Int32) {p : Nat} (hp : p ≤ n) (w top : Int32) : nuM (MK n t h s p w) top = nuI n t p top := by
  obtain ⟨c1, c2, c3⟩ := hc
  have b := nx_le t hp
  have d := st_nx n t p
  unfold nuM nuI
  rw [MK_7, MK_8, MK_9, MK_10, nI_s d]
  have k2 := kdE n t (st n t p) 2 (by decide)
  have k3 : (¬ (3 : Int32) < nI (nx n t p - st n t p)) = (nx n t p - st n t p ≤ 3) := by
    apply propext
    constructor
    · intro q
      rcases Nat.lt_or_ge 3 (nx n t p - st n t p) with x | x
      · exact absurd (nI_lt x (by omega)) q
      · exact x
    · intro q
      exact nI_nlt (a := 3) q (by decide)
  simp only [show (nI (kd n t (st n t p)) = 2) = (kd n t (st n t p) = 2) from k2, k3]
  by_cases q : kd n t (st n t p) = 2 ∧ nx n t p - st n t p ≤ 3
  · have e : vlM n t (st n t p) = vlC n t (st n t p) := by
      have z : ¬ nuI n t p (vlC n t (st n t p)) = 0 := by
        unfold nuI
        rw [if_pos ⟨q.1, q.2, Int32.le_refl _⟩]
        decide
      exact (vl_rng z).2.2
    rw [e]
    simp only [Int32.not_lt]
  · rw [if_neg (fun z => q ⟨z.1, z.2.1⟩), if_neg (fun z => q ⟨z.1, z.2.1⟩)]
theorem mkB {n : Nat} {t : Nat → Int32} {h : Hp} (hc : MCt n t h) (s : Nat → Int32) {p : Nat} (hp : p ≤ n) (w : Int32) {L : Nat} (hl : nx n t p - st n t p = L) : ∀ k, k < L → bH (MK n t h s p w) (nI (st n t p + k)) = t (st n t p + k) := by
  intro k hk
  have b := nx_le t hp
  have c1 : MK n t h s p w 41 6 = nI n := by rw [MK_6]; exact hc.1
  rw [bH_lt c1 hc.2.1 (by omega), MK_46]
  exact (hc.2.2 _ (by omega)).1
theorem mkSE {n : Nat} {t : Nat → Int32} {h : Hp} (hc : MCt n t h) (s : Nat → Int32) {p : Nat} (hp : p ≤ n) (w : Int32) : (nI (kd n t (st n t p)) = 3 ∧ bH (MK n t h s p w) (nI (st n t p)) = 59) = ¬ seI n t p = 0 := by
  unfold seI
  rw [if10]
  have k3 : (nI (kd n t (st n t p)) = 3) = (kd n t (st n t p) = 3) := kdE n t (st n t p) 3 (by decide)
  rw [k3]
  by_cases q : kd n t (st n t p) = 3
  · have sn : st n t p < n := by
      rcases Nat.lt_or_ge (st n t p) n with x | x
      · exact x
      · unfold kd at q
        rw [if_neg (by omega)] at q
        omega
    have c1 : MK n t h s p w 41 6 = nI n := by rw [MK_6]; exact hc.1
    rw [bH_lt c1 hc.2.1 sn, MK_46, (hc.2.2 _ sn).1]
    simp only [q, true_and, Classical.not_not]
  · simp only [q, false_and, not_false_eq_true, not_true_eq_false]
theorem mk_inmate {n : Nat} {t : Nat → Int32} {h : Hp} (hc : MCt n t h) (s : Nat → Int32) {p : Nat} (hp : p ≤ n) (w : Int32) : (nmM (MK n t h s p w) 6 105 110 109 101 = 0 ∨ smM (MK n t h s p w) 3 97 116 101 = 0) = (nmI n t p [105, 110, 109, 97, 116, 101] = 0) := by
  have d := st_nx n t p
  have b := nx_le t hp
  have h2 := hc.2.1
  have k1 : (nI (kd n t (st n t p)) = 1) = (kd n t (st n t p) = 1) := kdE n t (st n t p) 1 (by decide)
  unfold nmI
  unfold nmM smM
  simp only [MK_7, MK_8, MK_9, nI_s d, k1, List.length_cons, List.length_nil, Nat.reduceAdd]
  by_cases hk : kd n t (st n t p) = 1
  · by_cases hl : nx n t p - st n t p = 6
    · have B := mkB hc s hp w hl
      have B0 : bH (MK n t h s p w) (nI (st n t p)) = t (st n t p) := B 0 (by decide)
      have B1 : bH (MK n t h s p w) (nI (st n t p) + 1) = t (st n t p + 1) := by rw [show nI (st n t p) + 1 = nI (st n t p + 1) from nI_add (st n t p) 1]; exact B 1 (by decide)
      have B2 : bH (MK n t h s p w) (nI (st n t p) + 2) = t (st n t p + 2) := by rw [show nI (st n t p) + 2 = nI (st n t p + 2) from nI_add (st n t p) 2]; exact B 2 (by decide)
      have B3 : bH (MK n t h s p w) (nI (st n t p) + 3) = t (st n t p + 3) := by rw [show nI (st n t p) + 3 = nI (st n t p + 3) from nI_add (st n t p) 3]; exact B 3 (by decide)
      have B4 : bH (MK n t h s p w) (nI (st n t p) + 3 + 1) = t (st n t p + 4) := by rw [show nI (st n t p) + 3 = nI (st n t p + 3) from nI_add (st n t p) 3, show nI (st n t p + 3) + 1 = nI (st n t p + 3 + 1) from nI_add (st n t p + 3) 1]; exact B 4 (by decide)
      have B5 : bH (MK n t h s p w) (nI (st n t p) + 3 + 2) = t (st n t p + 5) := by rw [show nI (st n t p) + 3 = nI (st n t p + 3) from nI_add (st n t p) 3, show nI (st n t p + 3) + 2 = nI (st n t p + 3 + 2) from nI_add (st n t p + 3) 2]; exact B 5 (by decide)
      have Bz : bH (MK n t h s p w) (nI (nx n t p) - 1) = t (st n t p + 5) := by rw [show nI (nx n t p) - 1 = nI (nx n t p - 1) from nI_s (a := nx n t p) (b := 1) (by omega), show nx n t p - 1 = st n t p + 5 by omega]; exact B 5 (by decide)
      have eL : nI 6 = (6 : Int32) := rfl
      simp only [hk, hl, eL, B0, B1, B2, B3, B4, B5, Bz, nmE, Bool.and_eq_true, decide_eq_true_eq, if10, true_and, and_true, Nat.add_assoc, Nat.reduceAdd, show nI 97 = (97 : Int32) from rfl, show nI 101 = (101 : Int32) from rfl, show nI 105 = (105 : Int32) from rfl, show nI 109 = (109 : Int32) from rfl, show nI 110 = (110 : Int32) from rfl, show nI 116 = (116 : Int32) from rfl]
      all_goals grind
    · have hn : ¬ nI (nx n t p - st n t p) = nI 6 := fun q => hl ((nI_eq (by omega) (by omega)).mp q)
      have hn2 : ¬ nI (nx n t p - st n t p) = (6 : Int32) := hn
      simp only [hn, hn2, hk, if10, false_and, and_false, true_and, if_false, not_false_eq_true, not_true_eq_false, true_or, eq_self, if_true]
  · simp only [hk, if10, false_and, and_false, if_false, not_false_eq_true, not_true_eq_false, true_or, eq_self, if_true]
theorem mk_burglar {n : Nat} {t : Nat → Int32} {h : Hp} (hc : MCt n t h) (s : Nat → Int32) {p : Nat} (hp : p ≤ n) (w : Int32) : (nmM (MK n t h s p w) 7 98 117 114 114 = 0 ∨ smM (MK n t h s p w) 3 103 108 97 = 0) = (nmI n t p [98, 117, 114, 103, 108, 97, 114] = 0) := by
  have d := st_nx n t p
  have b := nx_le t hp
  have h2 := hc.2.1
  have k1 : (nI (kd n t (st n t p)) = 1) = (kd n t (st n t p) = 1) := kdE n t (st n t p) 1 (by decide)
  unfold nmI
  unfold nmM smM
  simp only [MK_7, MK_8, MK_9, nI_s d, k1, List.length_cons, List.length_nil, Nat.reduceAdd]
  by_cases hk : kd n t (st n t p) = 1
  · by_cases hl : nx n t p - st n t p = 7
    · have B := mkB hc s hp w hl
      have B0 : bH (MK n t h s p w) (nI (st n t p)) = t (st n t p) := B 0 (by decide)
      have B1 : bH (MK n t h s p w) (nI (st n t p) + 1) = t (st n t p + 1) := by rw [show nI (st n t p) + 1 = nI (st n t p + 1) from nI_add (st n t p) 1]; exact B 1 (by decide)
      have B2 : bH (MK n t h s p w) (nI (st n t p) + 2) = t (st n t p + 2) := by rw [show nI (st n t p) + 2 = nI (st n t p + 2) from nI_add (st n t p) 2]; exact B 2 (by decide)
      have B3 : bH (MK n t h s p w) (nI (st n t p) + 3) = t (st n t p + 3) := by rw [show nI (st n t p) + 3 = nI (st n t p + 3) from nI_add (st n t p) 3]; exact B 3 (by decide)
      have B4 : bH (MK n t h s p w) (nI (st n t p) + 3 + 1) = t (st n t p + 4) := by rw [show nI (st n t p) + 3 = nI (st n t p + 3) from nI_add (st n t p) 3, show nI (st n t p + 3) + 1 = nI (st n t p + 3 + 1) from nI_add (st n t p + 3) 1]; exact B 4 (by decide)
      have B5 : bH (MK n t h s p w) (nI (st n t p) + 3 + 2) = t (st n t p + 5) := by rw [show nI (st n t p) + 3 = nI (st n t p + 3) from nI_add (st n t p) 3, show nI (st n t p + 3) + 2 = nI (st n t p + 3 + 2) from nI_add (st n t p + 3) 2]; exact B 5 (by decide)
      have B6 : bH (MK n t h s p w) (nI (st n t p) + 6) = t (st n t p + 6) := by rw [show nI (st n t p) + 6 = nI (st n t p + 6) from nI_add (st n t p) 6]; exact B 6 (by decide)
      have Bz : bH (MK n t h s p w) (nI (nx n t p) - 1) = t (st n t p + 6) := by rw [show nI (nx n t p) - 1 = nI (nx n t p - 1) from nI_s (a := nx n t p) (b := 1) (by omega), show nx n t p - 1 = st n t p + 6 by omega]; exact B 6 (by decide)
      have eL : nI 7 = (7 : Int32) := rfl
      simp only [hk, hl, eL, B0, B1, B2, B3, B4, B5, B6, Bz, nmE, Bool.and_eq_true, decide_eq_true_eq, if10, true_and, and_true, Nat.add_assoc, Nat.reduceAdd, show nI 97 = (97 : Int32) from rfl, show nI 98 = (98 : Int32) from rfl, show nI 103 = (103 : Int32) from rfl, show nI 108 = (108 : Int32) from rfl, show nI 114 = (114 : Int32) from rfl, show nI 117 = (117 : Int32) from rfl]
      all_goals grind
    · have hn : ¬ nI (nx n t p - st n t p) = nI 7 := fun q => hl ((nI_eq (by omega) (by omega)).mp q)
      have hn2 : ¬ nI (nx n t p - st n t p) = (7 : Int32) := hn
      simp only [hn, hn2, hk, if10, false_and, and_false, true_and, if_false, not_false_eq_true, not_true_eq_false, true_or, eq_self, if_true]
  · simp only [hk, if10, false_and, and_false, if_false, not_false_eq_true, not_true_eq_false, true_or, eq_self, if_true]
theorem mk_duellist {n : Nat} {t : Nat → Int32} {h : Hp} (hc : MCt n t h) (s : Nat → Int32) {p : Nat} (hp : p ≤ n) (w : Int32) : (nmM (MK n t h s p w) 8 100 117 101 116 = 0 ∨ smM (MK n t h s p w) 3 108 108 105 = 0 ∨ ¬ bH (MK n t h s p w) (MK n t h s p w 41 8 + 6) = 115) = (nmI n t p [100, 117, 101, 108, 108, 105, 115, 116] = 0) := by
  have d := st_nx n t p
  have b := nx_le t hp
  have h2 := hc.2.1
  have k1 : (nI (kd n t (st n t p)) = 1) = (kd n t (st n t p) = 1) := kdE n t (st n t p) 1 (by decide)
  unfold nmI
  unfold nmM smM
  simp only [MK_7, MK_8, MK_9, nI_s d, k1, List.length_cons, List.length_nil, Nat.reduceAdd]
  by_cases hk : kd n t (st n t p) = 1
  · by_cases hl : nx n t p - st n t p = 8
    · have B := mkB hc s hp w hl
      have B0 : bH (MK n t h s p w) (nI (st n t p)) = t (st n t p) := B 0 (by decide)
      have B1 : bH (MK n t h s p w) (nI (st n t p) + 1) = t (st n t p + 1) := by rw [show nI (st n t p) + 1 = nI (st n t p + 1) from nI_add (st n t p) 1]; exact B 1 (by decide)
      have B2 : bH (MK n t h s p w) (nI (st n t p) + 2) = t (st n t p + 2) := by rw [show nI (st n t p) + 2 = nI (st n t p + 2) from nI_add (st n t p) 2]; exact B 2 (by decide)
      have B3 : bH (MK n t h s p w) (nI (st n t p) + 3) = t (st n t p + 3) := by rw [show nI (st n t p) + 3 = nI (st n t p + 3) from nI_add (st n t p) 3]; exact B 3 (by decide)
      have B4 : bH (MK n t h s p w) (nI (st n t p) + 3 + 1) = t (st n t p + 4) := by rw [show nI (st n t p) + 3 = nI (st n t p + 3) from nI_add (st n t p) 3, show nI (st n t p + 3) + 1 = nI (st n t p + 3 + 1) from nI_add (st n t p + 3) 1]; exact B 4 (by decide)
      have B5 : bH (MK n t h s p w) (nI (st n t p) + 3 + 2) = t (st n t p + 5) := by rw [show nI (st n t p) + 3 = nI (st n t p + 3) from nI_add (st n t p) 3, show nI (st n t p + 3) + 2 = nI (st n t p + 3 + 2) from nI_add (st n t p + 3) 2]; exact B 5 (by decide)
      have B6 : bH (MK n t h s p w) (nI (st n t p) + 6) = t (st n t p + 6) := by rw [show nI (st n t p) + 6 = nI (st n t p + 6) from nI_add (st n t p) 6]; exact B 6 (by decide)
      have Bz : bH (MK n t h s p w) (nI (nx n t p) - 1) = t (st n t p + 7) := by rw [show nI (nx n t p) - 1 = nI (nx n t p - 1) from nI_s (a := nx n t p) (b := 1) (by omega), show nx n t p - 1 = st n t p + 7 by omega]; exact B 7 (by decide)
      have eL : nI 8 = (8 : Int32) := rfl
      simp only [hk, hl, eL, B0, B1, B2, B3, B4, B5, B6, Bz, nmE, Bool.and_eq_true, decide_eq_true_eq, if10, true_and, and_true, Nat.add_assoc, Nat.reduceAdd, show nI 100 = (100 : Int32) from rfl, show nI 101 = (101 : Int32) from rfl, show nI 105 = (105 : Int32) from rfl, show nI 108 = (108 : Int32) from rfl, show nI 115 = (115 : Int32) from rfl, show nI 116 = (116 : Int32) from rfl, show nI 117 = (117 : Int32) from rfl]
      all_goals grind
    · have hn : ¬ nI (nx n t p - st n t p) = nI 8 := fun q => hl ((nI_eq (by omega) (by omega)).mp q)
      have hn2 : ¬ nI (nx n t p - st n t p) = (8 : Int32) := hn
      simp only [hn, hn2, hk, if10, false_and, and_false, true_and, if_false, not_false_eq_true, not_true_eq_false, true_or, eq_self, if_true]
  · simp only [hk, if10, false_and, and_false, if_false, not_false_eq_true, not_true_eq_false, true_or, eq_self, if_true]
theorem mk_forger {n : Nat} {t : Nat → Int32} {h : Hp} (hc : MCt n t h) (s : Nat → Int32) {p : Nat} (hp : p ≤ n) (w : Int32) : (nmM (MK n t h s p w) 6 102 111 114 114 = 0 ∨ smM (MK n t h s p w) 3 103 101 114 = 0) = (nmI n t p [102, 111, 114, 103, 101, 114] = 0) := by
  have d := st_nx n t p
  have b := nx_le t hp
  have h2 := hc.2.1
  have k1 : (nI (kd n t (st n t p)) = 1) = (kd n t (st n t p) = 1) := kdE n t (st n t p) 1 (by decide)
  unfold nmI
  unfold nmM smM
  simp only [MK_7, MK_8, MK_9, nI_s d, k1, List.length_cons, List.length_nil, Nat.reduceAdd]
  by_cases hk : kd n t (st n t p) = 1
  · by_cases hl : nx n t p - st n t p = 6
    · have B := mkB hc s hp w hl
      have B0 : bH (MK n t h s p w) (nI (st n t p)) = t (st n t p) := B 0 (by decide)
      have B1 : bH (MK n t h s p w) (nI (st n t p) + 1) = t (st n t p + 1) := by rw [show nI (st n t p) + 1 = nI (st n t p + 1) from nI_add (st n t p) 1]; exact B 1 (by decide)
      have B2 : bH (MK n t h s p w) (nI (st n t p) + 2) = t (st n t p + 2) := by rw [show nI (st n t p) + 2 = nI (st n t p + 2) from nI_add (st n t p) 2]; exact B 2 (by decide)
      have B3 : bH (MK n t h s p w) (nI (st n t p) + 3) = t (st n t p + 3) := by rw [show nI (st n t p) + 3 = nI (st n t p + 3) from nI_add (st n t p) 3]; exact B 3 (by decide)
      have B4 : bH (MK n t h s p w) (nI (st n t p) + 3 + 1) = t (st n t p + 4) := by rw [show nI (st n t p) + 3 = nI (st n t p + 3) from nI_add (st n t p) 3, show nI (st n t p + 3) + 1 = nI (st n t p + 3 + 1) from nI_add (st n t p + 3) 1]; exact B 4 (by decide)
      have B5 : bH (MK n t h s p w) (nI (st n t p) + 3 + 2) = t (st n t p + 5) := by rw [show nI (st n t p) + 3 = nI (st n t p + 3) from nI_add (st n t p) 3, show nI (st n t p + 3) + 2 = nI (st n t p + 3 + 2) from nI_add (st n t p + 3) 2]; exact B 5 (by decide)
      have Bz : bH (MK n t h s p w) (nI (nx n t p) - 1) = t (st n t p + 5) := by rw [show nI (nx n t p) - 1 = nI (nx n t p - 1) from nI_s (a := nx n t p) (b := 1) (by omega), show nx n t p - 1 = st n t p + 5 by omega]; exact B 5 (by decide)
      have eL : nI 6 = (6 : Int32) := rfl
      simp only [hk, hl, eL, B0, B1, B2, B3, B4, B5, Bz, nmE, Bool.and_eq_true, decide_eq_true_eq, if10, true_and, and_true, Nat.add_assoc, Nat.reduceAdd, show nI 101 = (101 : Int32) from rfl, show nI 102 = (102 : Int32) from rfl, show nI 103 = (103 : Int32) from rfl, show nI 111 = (111 : Int32) from rfl, show nI 114 = (114 : Int32) from rfl]
      all_goals grind
    · have hn : ¬ nI (nx n t p - st n t p) = nI 6 := fun q => hl ((nI_eq (by omega) (by omega)).mp q)
      have hn2 : ¬ nI (nx n t p - st n t p) = (6 : Int32) := hn
      simp only [hn, hn2, hk, if10, false_and, and_false, true_and, if_false, not_false_eq_true, not_true_eq_false, true_or, eq_self, if_true]
  · simp only [hk, if10, false_and, and_false, if_false, not_false_eq_true, not_true_eq_false, true_or, eq_self, if_true]
theorem mk_nun {n : Nat} {t : Nat → Int32} {h : Hp} (hc : MCt n t h) (s : Nat → Int32) {p : Nat} (hp : p ≤ n) (w : Int32) : (nmM (MK n t h s p w) 3 110 117 110 110 = 0) = (nmI n t p [110, 117, 110] = 0) := by
  have d := st_nx n t p
  have b := nx_le t hp
  have h2 := hc.2.1
  have k1 : (nI (kd n t (st n t p)) = 1) = (kd n t (st n t p) = 1) := kdE n t (st n t p) 1 (by decide)
  unfold nmI
  unfold nmM
  simp only [MK_7, MK_8, MK_9, nI_s d, k1, List.length_cons, List.length_nil, Nat.reduceAdd]
  by_cases hk : kd n t (st n t p) = 1
  · by_cases hl : nx n t p - st n t p = 3
    · have B := mkB hc s hp w hl
      have B0 : bH (MK n t h s p w) (nI (st n t p)) = t (st n t p) := B 0 (by decide)
      have B1 : bH (MK n t h s p w) (nI (st n t p) + 1) = t (st n t p + 1) := by rw [show nI (st n t p) + 1 = nI (st n t p + 1) from nI_add (st n t p) 1]; exact B 1 (by decide)
      have B2 : bH (MK n t h s p w) (nI (st n t p) + 2) = t (st n t p + 2) := by rw [show nI (st n t p) + 2 = nI (st n t p + 2) from nI_add (st n t p) 2]; exact B 2 (by decide)
      have Bz : bH (MK n t h s p w) (nI (nx n t p) - 1) = t (st n t p + 2) := by rw [show nI (nx n t p) - 1 = nI (nx n t p - 1) from nI_s (a := nx n t p) (b := 1) (by omega), show nx n t p - 1 = st n t p + 2 by omega]; exact B 2 (by decide)
      have eL : nI 3 = (3 : Int32) := rfl
      simp only [hk, hl, eL, B0, B1, B2, Bz, nmE, Bool.and_eq_true, decide_eq_true_eq, if10, true_and, and_true, Nat.add_assoc, Nat.reduceAdd, show nI 110 = (110 : Int32) from rfl, show nI 117 = (117 : Int32) from rfl]
      all_goals grind
    · have hn : ¬ nI (nx n t p - st n t p) = nI 3 := fun q => hl ((nI_eq (by omega) (by omega)).mp q)
      have hn2 : ¬ nI (nx n t p - st n t p) = (3 : Int32) := hn
      simp only [hn, hn2, hk, if10, false_and, and_false, true_and, if_false, not_false_eq_true, not_true_eq_false, true_or, eq_self, if_true]
  · simp only [hk, if10, false_and, and_false, if_false, not_false_eq_true, not_true_eq_false, true_or, eq_self, if_true]
theorem mk_child {n : Nat} {t : Nat → Int32} {h : Hp} (hc : MCt n t h) (s : Nat → Int32) {p : Nat} (hp : p ≤ n) (w : Int32) : (fiM (MK n t h s p w) 99 104 105 108 100 = 0) = (nmI n t p [99, 104, 105, 108, 100] = 0) := by
  have d := st_nx n t p
  have b := nx_le t hp
  have h2 := hc.2.1
  have k1 : (nI (kd n t (st n t p)) = 1) = (kd n t (st n t p) = 1) := kdE n t (st n t p) 1 (by decide)
  unfold nmI
  unfold fiM nmM
  simp only [MK_7, MK_8, MK_9, nI_s d, k1, List.length_cons, List.length_nil, Nat.reduceAdd]
  by_cases hk : kd n t (st n t p) = 1
  · by_cases hl : nx n t p - st n t p = 5
    · have B := mkB hc s hp w hl
      have B0 : bH (MK n t h s p w) (nI (st n t p)) = t (st n t p) := B 0 (by decide)
      have B1 : bH (MK n t h s p w) (nI (st n t p) + 1) = t (st n t p + 1) := by rw [show nI (st n t p) + 1 = nI (st n t p + 1) from nI_add (st n t p) 1]; exact B 1 (by decide)
      have B2 : bH (MK n t h s p w) (nI (st n t p) + 2) = t (st n t p + 2) := by rw [show nI (st n t p) + 2 = nI (st n t p + 2) from nI_add (st n t p) 2]; exact B 2 (by decide)
      have B3 : bH (MK n t h s p w) (nI (st n t p) + 3) = t (st n t p + 3) := by rw [show nI (st n t p) + 3 = nI (st n t p + 3) from nI_add (st n t p) 3]; exact B 3 (by decide)
      have Bz : bH (MK n t h s p w) (nI (nx n t p) - 1) = t (st n t p + 4) := by rw [show nI (nx n t p) - 1 = nI (nx n t p - 1) from nI_s (a := nx n t p) (b := 1) (by omega), show nx n t p - 1 = st n t p + 4 by omega]; exact B 4 (by decide)
      have eL : nI 5 = (5 : Int32) := rfl
      simp only [hk, hl, eL, B0, B1, B2, B3, Bz, nmE, Bool.and_eq_true, decide_eq_true_eq, if10, true_and, and_true, Nat.add_assoc, Nat.reduceAdd, show nI 99 = (99 : Int32) from rfl, show nI 100 = (100 : Int32) from rfl, show nI 104 = (104 : Int32) from rfl, show nI 105 = (105 : Int32) from rfl, show nI 108 = (108 : Int32) from rfl]
      all_goals grind
    · have hn : ¬ nI (nx n t p - st n t p) = nI 5 := fun q => hl ((nI_eq (by omega) (by omega)).mp q)
      have hn2 : ¬ nI (nx n t p - st n t p) = (5 : Int32) := hn
      simp only [hn, hn2, hk, if10, false_and, and_false, true_and, if_false, not_false_eq_true, not_true_eq_false, true_or, eq_self, if_true]
  · simp only [hk, if10, false_and, and_false, if_false, not_false_eq_true, not_true_eq_false, true_or, eq_self, if_true]
theorem mk_strict {n : Nat} {t : Nat → Int32} {h : Hp} (hc : MCt n t h) (s : Nat → Int32) {p : Nat} (hp : p ≤ n) (w : Int32) : (nmM (MK n t h s p w) 6 115 116 114 116 = 0 ∨ smM (MK n t h s p w) 3 105 99 116 = 0) = (nmI n t p [115, 116, 114, 105, 99, 116] = 0) := by
  have d := st_nx n t p
  have b := nx_le t hp
  have h2 := hc.2.1
  have k1 : (nI (kd n t (st n t p)) = 1) = (kd n t (st n t p) = 1) := kdE n t (st n t p) 1 (by decide)
  unfold nmI
  unfold nmM smM
  simp only [MK_7, MK_8, MK_9, nI_s d, k1, List.length_cons, List.length_nil, Nat.reduceAdd]
  by_cases hk : kd n t (st n t p) = 1
  · by_cases hl : nx n t p - st n t p = 6
    · have B := mkB hc s hp w hl
      have B0 : bH (MK n t h s p w) (nI (st n t p)) = t (st n t p) := B 0 (by decide)
      have B1 : bH (MK n t h s p w) (nI (st n t p) + 1) = t (st n t p + 1) := by rw [show nI (st n t p) + 1 = nI (st n t p + 1) from nI_add (st n t p) 1]; exact B 1 (by decide)
      have B2 : bH (MK n t h s p w) (nI (st n t p) + 2) = t (st n t p + 2) := by rw [show nI (st n t p) + 2 = nI (st n t p + 2) from nI_add (st n t p) 2]; exact B 2 (by decide)
      have B3 : bH (MK n t h s p w) (nI (st n t p) + 3) = t (st n t p + 3) := by rw [show nI (st n t p) + 3 = nI (st n t p + 3) from nI_add (st n t p) 3]; exact B 3 (by decide)
      have B4 : bH (MK n t h s p w) (nI (st n t p) + 3 + 1) = t (st n t p + 4) := by rw [show nI (st n t p) + 3 = nI (st n t p + 3) from nI_add (st n t p) 3, show nI (st n t p + 3) + 1 = nI (st n t p + 3 + 1) from nI_add (st n t p + 3) 1]; exact B 4 (by decide)
      have B5 : bH (MK n t h s p w) (nI (st n t p) + 3 + 2) = t (st n t p + 5) := by rw [show nI (st n t p) + 3 = nI (st n t p + 3) from nI_add (st n t p) 3, show nI (st n t p + 3) + 2 = nI (st n t p + 3 + 2) from nI_add (st n t p + 3) 2]; exact B 5 (by decide)
      have Bz : bH (MK n t h s p w) (nI (nx n t p) - 1) = t (st n t p + 5) := by rw [show nI (nx n t p) - 1 = nI (nx n t p - 1) from nI_s (a := nx n t p) (b := 1) (by omega), show nx n t p - 1 = st n t p + 5 by omega]; exact B 5 (by decide)
      have eL : nI 6 = (6 : Int32) := rfl
      simp only [hk, hl, eL, B0, B1, B2, B3, B4, B5, Bz, nmE, Bool.and_eq_true, decide_eq_true_eq, if10, true_and, and_true, Nat.add_assoc, Nat.reduceAdd, show nI 99 = (99 : Int32) from rfl, show nI 105 = (105 : Int32) from rfl, show nI 114 = (114 : Int32) from rfl, show nI 115 = (115 : Int32) from rfl, show nI 116 = (116 : Int32) from rfl]
      all_goals grind
    · have hn : ¬ nI (nx n t p - st n t p) = nI 6 := fun q => hl ((nI_eq (by omega) (by omega)).mp q)
      have hn2 : ¬ nI (nx n t p - st n t p) = (6 : Int32) := hn
      simp only [hn, hn2, hk, if10, false_and, and_false, true_and, if_false, not_false_eq_true, not_true_eq_false, true_or, eq_self, if_true]
  · simp only [hk, if10, false_and, and_false, if_false, not_false_eq_true, not_true_eq_false, true_or, eq_self, if_true]
theorem mk_ease {n : Nat} {t : Nat → Int32} {h : Hp} (hc : MCt n t h) (s : Nat → Int32) {p : Nat} (hp : p ≤ n) (w : Int32) : (nmM (MK n t h s p w) 4 101 97 115 101 = 0) = (nmI n t p [101, 97, 115, 101] = 0) := by
  have d := st_nx n t p
  have b := nx_le t hp
  have h2 := hc.2.1
  have k1 : (nI (kd n t (st n t p)) = 1) = (kd n t (st n t p) = 1) := kdE n t (st n t p) 1 (by decide)
  unfold nmI
  unfold nmM
  simp only [MK_7, MK_8, MK_9, nI_s d, k1, List.length_cons, List.length_nil, Nat.reduceAdd]
  by_cases hk : kd n t (st n t p) = 1
  · by_cases hl : nx n t p - st n t p = 4
    · have B := mkB hc s hp w hl
      have B0 : bH (MK n t h s p w) (nI (st n t p)) = t (st n t p) := B 0 (by decide)
      have B1 : bH (MK n t h s p w) (nI (st n t p) + 1) = t (st n t p + 1) := by rw [show nI (st n t p) + 1 = nI (st n t p + 1) from nI_add (st n t p) 1]; exact B 1 (by decide)
      have B2 : bH (MK n t h s p w) (nI (st n t p) + 2) = t (st n t p + 2) := by rw [show nI (st n t p) + 2 = nI (st n t p + 2) from nI_add (st n t p) 2]; exact B 2 (by decide)
      have B3 : bH (MK n t h s p w) (nI (st n t p) + 3) = t (st n t p + 3) := by rw [show nI (st n t p) + 3 = nI (st n t p + 3) from nI_add (st n t p) 3]; exact B 3 (by decide)
      have Bz : bH (MK n t h s p w) (nI (nx n t p) - 1) = t (st n t p + 3) := by rw [show nI (nx n t p) - 1 = nI (nx n t p - 1) from nI_s (a := nx n t p) (b := 1) (by omega), show nx n t p - 1 = st n t p + 3 by omega]; exact B 3 (by decide)
      have eL : nI 4 = (4 : Int32) := rfl
      simp only [hk, hl, eL, B0, B1, B2, B3, Bz, nmE, Bool.and_eq_true, decide_eq_true_eq, if10, true_and, and_true, Nat.add_assoc, Nat.reduceAdd, show nI 97 = (97 : Int32) from rfl, show nI 101 = (101 : Int32) from rfl, show nI 115 = (115 : Int32) from rfl]
      all_goals grind
    · have hn : ¬ nI (nx n t p - st n t p) = nI 4 := fun q => hl ((nI_eq (by omega) (by omega)).mp q)
      have hn2 : ¬ nI (nx n t p - st n t p) = (4 : Int32) := hn
      simp only [hn, hn2, hk, if10, false_and, and_false, true_and, if_false, not_false_eq_true, not_true_eq_false, true_or, eq_self, if_true]
  · simp only [hk, if10, false_and, and_false, if_false, not_false_eq_true, not_true_eq_false, true_or, eq_self, if_true]
theorem mk_due {n : Nat} {t : Nat → Int32} {h : Hp} (hc : MCt n t h) (s : Nat → Int32) {p : Nat} (hp : p ≤ n) (w : Int32) : (nmM (MK n t h s p w) 3 100 117 101 101 = 0) = (nmI n t p [100, 117, 101] = 0) := by
  have d := st_nx n t p
  have b := nx_le t hp
  have h2 := hc.2.1
  have k1 : (nI (kd n t (st n t p)) = 1) = (kd n t (st n t p) = 1) := kdE n t (st n t p) 1 (by decide)
  unfold nmI
  unfold nmM
  simp only [MK_7, MK_8, MK_9, nI_s d, k1, List.length_cons, List.length_nil, Nat.reduceAdd]
  by_cases hk : kd n t (st n t p) = 1
  · by_cases hl : nx n t p - st n t p = 3
    · have B := mkB hc s hp w hl
      have B0 : bH (MK n t h s p w) (nI (st n t p)) = t (st n t p) := B 0 (by decide)
      have B1 : bH (MK n t h s p w) (nI (st n t p) + 1) = t (st n t p + 1) := by rw [show nI (st n t p) + 1 = nI (st n t p + 1) from nI_add (st n t p) 1]; exact B 1 (by decide)
      have B2 : bH (MK n t h s p w) (nI (st n t p) + 2) = t (st n t p + 2) := by rw [show nI (st n t p) + 2 = nI (st n t p + 2) from nI_add (st n t p) 2]; exact B 2 (by decide)
      have Bz : bH (MK n t h s p w) (nI (nx n t p) - 1) = t (st n t p + 2) := by rw [show nI (nx n t p) - 1 = nI (nx n t p - 1) from nI_s (a := nx n t p) (b := 1) (by omega), show nx n t p - 1 = st n t p + 2 by omega]; exact B 2 (by decide)
      have eL : nI 3 = (3 : Int32) := rfl
      simp only [hk, hl, eL, B0, B1, B2, Bz, nmE, Bool.and_eq_true, decide_eq_true_eq, if10, true_and, and_true, Nat.add_assoc, Nat.reduceAdd, show nI 100 = (100 : Int32) from rfl, show nI 101 = (101 : Int32) from rfl, show nI 117 = (117 : Int32) from rfl]
      all_goals grind
    · have hn : ¬ nI (nx n t p - st n t p) = nI 3 := fun q => hl ((nI_eq (by omega) (by omega)).mp q)
      have hn2 : ¬ nI (nx n t p - st n t p) = (3 : Int32) := hn
      simp only [hn, hn2, hk, if10, false_and, and_false, true_and, if_false, not_false_eq_true, not_true_eq_false, true_or, eq_self, if_true]
  · simp only [hk, if10, false_and, and_false, if_false, not_false_eq_true, not_true_eq_false, true_or, eq_self, if_true]
theorem mk_sneeze {n : Nat} {t : Nat → Int32} {h : Hp} (hc : MCt n t h) (s : Nat → Int32) {p : Nat} (hp : p ≤ n) (w : Int32) : (nmM (MK n t h s p w) 6 115 110 101 101 = 0 ∨ smM (MK n t h s p w) 3 101 122 101 = 0) = (nmI n t p [115, 110, 101, 101, 122, 101] = 0) := by
  have d := st_nx n t p
  have b := nx_le t hp
  have h2 := hc.2.1
  have k1 : (nI (kd n t (st n t p)) = 1) = (kd n t (st n t p) = 1) := kdE n t (st n t p) 1 (by decide)
  unfold nmI
  unfold nmM smM
  simp only [MK_7, MK_8, MK_9, nI_s d, k1, List.length_cons, List.length_nil, Nat.reduceAdd]
  by_cases hk : kd n t (st n t p) = 1
  · by_cases hl : nx n t p - st n t p = 6
    · have B := mkB hc s hp w hl
      have B0 : bH (MK n t h s p w) (nI (st n t p)) = t (st n t p) := B 0 (by decide)
      have B1 : bH (MK n t h s p w) (nI (st n t p) + 1) = t (st n t p + 1) := by rw [show nI (st n t p) + 1 = nI (st n t p + 1) from nI_add (st n t p) 1]; exact B 1 (by decide)
      have B2 : bH (MK n t h s p w) (nI (st n t p) + 2) = t (st n t p + 2) := by rw [show nI (st n t p) + 2 = nI (st n t p + 2) from nI_add (st n t p) 2]; exact B 2 (by decide)
      have B3 : bH (MK n t h s p w) (nI (st n t p) + 3) = t (st n t p + 3) := by rw [show nI (st n t p) + 3 = nI (st n t p + 3) from nI_add (st n t p) 3]; exact B 3 (by decide)
      have B4 : bH (MK n t h s p w) (nI (st n t p) + 3 + 1) = t (st n t p + 4) := by rw [show nI (st n t p) + 3 = nI (st n t p + 3) from nI_add (st n t p) 3, show nI (st n t p + 3) + 1 = nI (st n t p + 3 + 1) from nI_add (st n t p + 3) 1]; exact B 4 (by decide)
      have B5 : bH (MK n t h s p w) (nI (st n t p) + 3 + 2) = t (st n t p + 5) := by rw [show nI (st n t p) + 3 = nI (st n t p + 3) from nI_add (st n t p) 3, show nI (st n t p + 3) + 2 = nI (st n t p + 3 + 2) from nI_add (st n t p + 3) 2]; exact B 5 (by decide)
      have Bz : bH (MK n t h s p w) (nI (nx n t p) - 1) = t (st n t p + 5) := by rw [show nI (nx n t p) - 1 = nI (nx n t p - 1) from nI_s (a := nx n t p) (b := 1) (by omega), show nx n t p - 1 = st n t p + 5 by omega]; exact B 5 (by decide)
      have eL : nI 6 = (6 : Int32) := rfl
      simp only [hk, hl, eL, B0, B1, B2, B3, B4, B5, Bz, nmE, Bool.and_eq_true, decide_eq_true_eq, if10, true_and, and_true, Nat.add_assoc, Nat.reduceAdd, show nI 101 = (101 : Int32) from rfl, show nI 110 = (110 : Int32) from rfl, show nI 115 = (115 : Int32) from rfl, show nI 122 = (122 : Int32) from rfl]
      all_goals grind
    · have hn : ¬ nI (nx n t p - st n t p) = nI 6 := fun q => hl ((nI_eq (by omega) (by omega)).mp q)
      have hn2 : ¬ nI (nx n t p - st n t p) = (6 : Int32) := hn
      simp only [hn, hn2, hk, if10, false_and, and_false, true_and, if_false, not_false_eq_true, not_true_eq_false, true_or, eq_self, if_true]
  · simp only [hk, if10, false_and, and_false, if_false, not_false_eq_true, not_true_eq_false, true_or, eq_self, if_true]
theorem mk_in {n : Nat} {t : Nat → Int32} {h : Hp} (hc : MCt n t h) (s : Nat → Int32) {p : Nat} (hp : p ≤ n) (w : Int32) : (twM (MK n t h s p w) 105 110 = 0) = (nmI n t p [105, 110] = 0) := by
  have d := st_nx n t p
  have b := nx_le t hp
  have h2 := hc.2.1
  have k1 : (nI (kd n t (st n t p)) = 1) = (kd n t (st n t p) = 1) := kdE n t (st n t p) 1 (by decide)
  unfold nmI
  unfold twM
  simp only [MK_7, MK_8, MK_9, nI_s d, k1, List.length_cons, List.length_nil, Nat.reduceAdd]
  by_cases hk : kd n t (st n t p) = 1
  · by_cases hl : nx n t p - st n t p = 2
    · have B := mkB hc s hp w hl
      have B0 : bH (MK n t h s p w) (nI (st n t p)) = t (st n t p) := B 0 (by decide)
      have B1 : bH (MK n t h s p w) (nI (st n t p) + 1) = t (st n t p + 1) := by rw [show nI (st n t p) + 1 = nI (st n t p + 1) from nI_add (st n t p) 1]; exact B 1 (by decide)
      have eL : nI 2 = (2 : Int32) := rfl
      simp only [hk, hl, eL, B0, B1, nmE, Bool.and_eq_true, decide_eq_true_eq, if10, true_and, and_true, Nat.add_assoc, Nat.reduceAdd, show nI 105 = (105 : Int32) from rfl, show nI 110 = (110 : Int32) from rfl]
      all_goals grind
    · have hn : ¬ nI (nx n t p - st n t p) = nI 2 := fun q => hl ((nI_eq (by omega) (by omega)).mp q)
      have hn2 : ¬ nI (nx n t p - st n t p) = (2 : Int32) := hn
      simp only [hn, hn2, hk, if10, false_and, and_false, true_and, if_false, not_false_eq_true, not_true_eq_false, true_or, eq_self, if_true]
  · simp only [hk, if10, false_and, and_false, if_false, not_false_eq_true, not_true_eq_false, true_or, eq_self, if_true]
theorem mk_grace {n : Nat} {t : Nat → Int32} {h : Hp} (hc : MCt n t h) (s : Nat → Int32) {p : Nat} (hp : p ≤ n) (w : Int32) : (fiM (MK n t h s p w) 103 114 97 99 101 = 0) = (nmI n t p [103, 114, 97, 99, 101] = 0) := by
  have d := st_nx n t p
  have b := nx_le t hp
  have h2 := hc.2.1
  have k1 : (nI (kd n t (st n t p)) = 1) = (kd n t (st n t p) = 1) := kdE n t (st n t p) 1 (by decide)
  unfold nmI
  unfold fiM nmM
  simp only [MK_7, MK_8, MK_9, nI_s d, k1, List.length_cons, List.length_nil, Nat.reduceAdd]
  by_cases hk : kd n t (st n t p) = 1
  · by_cases hl : nx n t p - st n t p = 5
    · have B := mkB hc s hp w hl
      have B0 : bH (MK n t h s p w) (nI (st n t p)) = t (st n t p) := B 0 (by decide)
      have B1 : bH (MK n t h s p w) (nI (st n t p) + 1) = t (st n t p + 1) := by rw [show nI (st n t p) + 1 = nI (st n t p + 1) from nI_add (st n t p) 1]; exact B 1 (by decide)
      have B2 : bH (MK n t h s p w) (nI (st n t p) + 2) = t (st n t p + 2) := by rw [show nI (st n t p) + 2 = nI (st n t p + 2) from nI_add (st n t p) 2]; exact B 2 (by decide)
      have B3 : bH (MK n t h s p w) (nI (st n t p) + 3) = t (st n t p + 3) := by rw [show nI (st n t p) + 3 = nI (st n t p + 3) from nI_add (st n t p) 3]; exact B 3 (by decide)
      have Bz : bH (MK n t h s p w) (nI (nx n t p) - 1) = t (st n t p + 4) := by rw [show nI (nx n t p) - 1 = nI (nx n t p - 1) from nI_s (a := nx n t p) (b := 1) (by omega), show nx n t p - 1 = st n t p + 4 by omega]; exact B 4 (by decide)
      have eL : nI 5 = (5 : Int32) := rfl
      simp only [hk, hl, eL, B0, B1, B2, B3, Bz, nmE, Bool.and_eq_true, decide_eq_true_eq, if10, true_and, and_true, Nat.add_assoc, Nat.reduceAdd, show nI 97 = (97 : Int32) from rfl, show nI 99 = (99 : Int32) from rfl, show nI 101 = (101 : Int32) from rfl, show nI 103 = (103 : Int32) from rfl, show nI 114 = (114 : Int32) from rfl]
      all_goals grind
    · have hn : ¬ nI (nx n t p - st n t p) = nI 5 := fun q => hl ((nI_eq (by omega) (by omega)).mp q)
      have hn2 : ¬ nI (nx n t p - st n t p) = (5 : Int32) := hn
      simp only [hn, hn2, hk, if10, false_and, and_false, true_and, if_false, not_false_eq_true, not_true_eq_false, true_or, eq_self, if_true]
  · simp only [hk, if10, false_and, and_false, if_false, not_false_eq_true, not_true_eq_false, true_or, eq_self, if_true]
theorem mk_rite {n : Nat} {t : Nat → Int32} {h : Hp} (hc : MCt n t h) (s : Nat → Int32) {p : Nat} (hp : p ≤ n) (w : Int32) : (nmM (MK n t h s p w) 4 114 105 116 101 = 0) = (nmI n t p [114, 105, 116, 101] = 0) := by
  have d := st_nx n t p
  have b := nx_le t hp
  have h2 := hc.2.1
  have k1 : (nI (kd n t (st n t p)) = 1) = (kd n t (st n t p) = 1) := kdE n t (st n t p) 1 (by decide)
  unfold nmI
  unfold nmM
  simp only [MK_7, MK_8, MK_9, nI_s d, k1, List.length_cons, List.length_nil, Nat.reduceAdd]
  by_cases hk : kd n t (st n t p) = 1
  · by_cases hl : nx n t p - st n t p = 4
    · have B := mkB hc s hp w hl
      have B0 : bH (MK n t h s p w) (nI (st n t p)) = t (st n t p) := B 0 (by decide)
      have B1 : bH (MK n t h s p w) (nI (st n t p) + 1) = t (st n t p + 1) := by rw [show nI (st n t p) + 1 = nI (st n t p + 1) from nI_add (st n t p) 1]; exact B 1 (by decide)
      have B2 : bH (MK n t h s p w) (nI (st n t p) + 2) = t (st n t p + 2) := by rw [show nI (st n t p) + 2 = nI (st n t p + 2) from nI_add (st n t p) 2]; exact B 2 (by decide)
      have B3 : bH (MK n t h s p w) (nI (st n t p) + 3) = t (st n t p + 3) := by rw [show nI (st n t p) + 3 = nI (st n t p + 3) from nI_add (st n t p) 3]; exact B 3 (by decide)
      have Bz : bH (MK n t h s p w) (nI (nx n t p) - 1) = t (st n t p + 3) := by rw [show nI (nx n t p) - 1 = nI (nx n t p - 1) from nI_s (a := nx n t p) (b := 1) (by omega), show nx n t p - 1 = st n t p + 3 by omega]; exact B 3 (by decide)
      have eL : nI 4 = (4 : Int32) := rfl
      simp only [hk, hl, eL, B0, B1, B2, B3, Bz, nmE, Bool.and_eq_true, decide_eq_true_eq, if10, true_and, and_true, Nat.add_assoc, Nat.reduceAdd, show nI 101 = (101 : Int32) from rfl, show nI 105 = (105 : Int32) from rfl, show nI 114 = (114 : Int32) from rfl, show nI 116 = (116 : Int32) from rfl]
      all_goals grind
    · have hn : ¬ nI (nx n t p - st n t p) = nI 4 := fun q => hl ((nI_eq (by omega) (by omega)).mp q)
      have hn2 : ¬ nI (nx n t p - st n t p) = (4 : Int32) := hn
      simp only [hn, hn2, hk, if10, false_and, and_false, true_and, if_false, not_false_eq_true, not_true_eq_false, true_or, eq_self, if_true]
  · simp only [hk, if10, false_and, and_false, if_false, not_false_eq_true, not_true_eq_false, true_or, eq_self, if_true]
theorem mk_wait {n : Nat} {t : Nat → Int32} {h : Hp} (hc : MCt n t h) (s : Nat → Int32) {p : Nat} (hp : p ≤ n) (w : Int32) : (nmM (MK n t h s p w) 4 119 97 105 116 = 0) = (nmI n t p [119, 97, 105, 116] = 0) := by
  have d := st_nx n t p
  have b := nx_le t hp
  have h2 := hc.2.1
  have k1 : (nI (kd n t (st n t p)) = 1) = (kd n t (st n t p) = 1) := kdE n t (st n t p) 1 (by decide)
  unfold nmI
  unfold nmM
  simp only [MK_7, MK_8, MK_9, nI_s d, k1, List.length_cons, List.length_nil, Nat.reduceAdd]
  by_cases hk : kd n t (st n t p) = 1
  · by_cases hl : nx n t p - st n t p = 4
    · have B := mkB hc s hp w hl
      have B0 : bH (MK n t h s p w) (nI (st n t p)) = t (st n t p) := B 0 (by decide)
      have B1 : bH (MK n t h s p w) (nI (st n t p) + 1) = t (st n t p + 1) := by rw [show nI (st n t p) + 1 = nI (st n t p + 1) from nI_add (st n t p) 1]; exact B 1 (by decide)
      have B2 : bH (MK n t h s p w) (nI (st n t p) + 2) = t (st n t p + 2) := by rw [show nI (st n t p) + 2 = nI (st n t p + 2) from nI_add (st n t p) 2]; exact B 2 (by decide)
      have B3 : bH (MK n t h s p w) (nI (st n t p) + 3) = t (st n t p + 3) := by rw [show nI (st n t p) + 3 = nI (st n t p + 3) from nI_add (st n t p) 3]; exact B 3 (by decide)
      have Bz : bH (MK n t h s p w) (nI (nx n t p) - 1) = t (st n t p + 3) := by rw [show nI (nx n t p) - 1 = nI (nx n t p - 1) from nI_s (a := nx n t p) (b := 1) (by omega), show nx n t p - 1 = st n t p + 3 by omega]; exact B 3 (by decide)
      have eL : nI 4 = (4 : Int32) := rfl
      simp only [hk, hl, eL, B0, B1, B2, B3, Bz, nmE, Bool.and_eq_true, decide_eq_true_eq, if10, true_and, and_true, Nat.add_assoc, Nat.reduceAdd, show nI 97 = (97 : Int32) from rfl, show nI 105 = (105 : Int32) from rfl, show nI 116 = (116 : Int32) from rfl, show nI 119 = (119 : Int32) from rfl]
      all_goals grind
    · have hn : ¬ nI (nx n t p - st n t p) = nI 4 := fun q => hl ((nI_eq (by omega) (by omega)).mp q)
      have hn2 : ¬ nI (nx n t p - st n t p) = (4 : Int32) := hn
      simp only [hn, hn2, hk, if10, false_and, and_false, true_and, if_false, not_false_eq_true, not_true_eq_false, true_or, eq_self, if_true]
  · simp only [hk, if10, false_and, and_false, if_false, not_false_eq_true, not_true_eq_false, true_or, eq_self, if_true]
theorem mk_is {n : Nat} {t : Nat → Int32} {h : Hp} (hc : MCt n t h) (s : Nat → Int32) {p : Nat} (hp : p ≤ n) (w : Int32) : (twM (MK n t h s p w) 105 115 = 0) = (nmI n t p [105, 115] = 0) := by
  have d := st_nx n t p
  have b := nx_le t hp
  have h2 := hc.2.1
  have k1 : (nI (kd n t (st n t p)) = 1) = (kd n t (st n t p) = 1) := kdE n t (st n t p) 1 (by decide)
  unfold nmI
  unfold twM
  simp only [MK_7, MK_8, MK_9, nI_s d, k1, List.length_cons, List.length_nil, Nat.reduceAdd]
  by_cases hk : kd n t (st n t p) = 1
  · by_cases hl : nx n t p - st n t p = 2
    · have B := mkB hc s hp w hl
      have B0 : bH (MK n t h s p w) (nI (st n t p)) = t (st n t p) := B 0 (by decide)
      have B1 : bH (MK n t h s p w) (nI (st n t p) + 1) = t (st n t p + 1) := by rw [show nI (st n t p) + 1 = nI (st n t p + 1) from nI_add (st n t p) 1]; exact B 1 (by decide)
      have eL : nI 2 = (2 : Int32) := rfl
      simp only [hk, hl, eL, B0, B1, nmE, Bool.and_eq_true, decide_eq_true_eq, if10, true_and, and_true, Nat.add_assoc, Nat.reduceAdd, show nI 105 = (105 : Int32) from rfl, show nI 115 = (115 : Int32) from rfl]
      all_goals grind
    · have hn : ¬ nI (nx n t p - st n t p) = nI 2 := fun q => hl ((nI_eq (by omega) (by omega)).mp q)
      have hn2 : ¬ nI (nx n t p - st n t p) = (2 : Int32) := hn
      simp only [hn, hn2, hk, if10, false_and, and_false, true_and, if_false, not_false_eq_true, not_true_eq_false, true_or, eq_self, if_true]
  · simp only [hk, if10, false_and, and_false, if_false, not_false_eq_true, not_true_eq_false, true_or, eq_self, if_true]
theorem mk_for {n : Nat} {t : Nat → Int32} {h : Hp} (hc : MCt n t h) (s : Nat → Int32) {p : Nat} (hp : p ≤ n) (w : Int32) : (nmM (MK n t h s p w) 3 102 111 114 114 = 0) = (nmI n t p [102, 111, 114] = 0) := by
  have d := st_nx n t p
  have b := nx_le t hp
  have h2 := hc.2.1
  have k1 : (nI (kd n t (st n t p)) = 1) = (kd n t (st n t p) = 1) := kdE n t (st n t p) 1 (by decide)
  unfold nmI
  unfold nmM
  simp only [MK_7, MK_8, MK_9, nI_s d, k1, List.length_cons, List.length_nil, Nat.reduceAdd]
  by_cases hk : kd n t (st n t p) = 1
  · by_cases hl : nx n t p - st n t p = 3
    · have B := mkB hc s hp w hl
      have B0 : bH (MK n t h s p w) (nI (st n t p)) = t (st n t p) := B 0 (by decide)
      have B1 : bH (MK n t h s p w) (nI (st n t p) + 1) = t (st n t p + 1) := by rw [show nI (st n t p) + 1 = nI (st n t p + 1) from nI_add (st n t p) 1]; exact B 1 (by decide)
      have B2 : bH (MK n t h s p w) (nI (st n t p) + 2) = t (st n t p + 2) := by rw [show nI (st n t p) + 2 = nI (st n t p + 2) from nI_add (st n t p) 2]; exact B 2 (by decide)
      have Bz : bH (MK n t h s p w) (nI (nx n t p) - 1) = t (st n t p + 2) := by rw [show nI (nx n t p) - 1 = nI (nx n t p - 1) from nI_s (a := nx n t p) (b := 1) (by omega), show nx n t p - 1 = st n t p + 2 by omega]; exact B 2 (by decide)
      have eL : nI 3 = (3 : Int32) := rfl
      simp only [hk, hl, eL, B0, B1, B2, Bz, nmE, Bool.and_eq_true, decide_eq_true_eq, if10, true_and, and_true, Nat.add_assoc, Nat.reduceAdd, show nI 102 = (102 : Int32) from rfl, show nI 111 = (111 : Int32) from rfl, show nI 114 = (114 : Int32) from rfl]
      all_goals grind
    · have hn : ¬ nI (nx n t p - st n t p) = nI 3 := fun q => hl ((nI_eq (by omega) (by omega)).mp q)
      have hn2 : ¬ nI (nx n t p - st n t p) = (3 : Int32) := hn
      simp only [hn, hn2, hk, if10, false_and, and_false, true_and, if_false, not_false_eq_true, not_true_eq_false, true_or, eq_self, if_true]
  · simp only [hk, if10, false_and, and_false, if_false, not_false_eq_true, not_true_eq_false, true_or, eq_self, if_true]
theorem mkKD {n : Nat} {t : Nat → Int32} {h : Hp} (hc : MCt n t h) (s : Nat → Int32) {p : Nat} (hp : p ≤ n) (w : Int32) : kdH (MK n t h s p w) = kdF (nmI n t p) := by
  unfold kdH kdF
  simp only [mk_inmate hc s hp w, mk_burglar hc s hp w, mk_duellist hc s hp w, mk_forger hc s hp w, mk_nun hc s hp w, mk_child hc s hp w]
theorem mkLW {n : Nat} {t : Nat → Int32} {h : Hp} (hc : MCt n t h) (s : Nat → Int32) {p : Nat} (hp : p ≤ n) (w : Int32) : lwH (MK n t h s p w) = if lwF (nmI n t p) < 0 then -1 else 3 + lwF (nmI n t p) := by
  unfold lwH lwF
  simp only [mk_strict hc s hp w, mk_ease hc s hp w, mk_due hc s hp w, mk_sneeze hc s hp w]
  repeat' split
  all_goals first | rfl | (exfalso; revert ‹_›; decide) | simp_all
