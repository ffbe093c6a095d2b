theorem rn4_tellWait {h : Hp} {Q : Po} {q : Nat} {g : Nat} (hS : S4_tellWait [.ref q, .ref g] h Q) : Rn (T4_tellWait Q S4_step S4_takeNumber S4_takeName S4_fail S4_takeEnd) (0, [some (.ref q), some (.ref g), none, none], [], h) := by
  obtain ⟨rfl, rfl, n, t, b, p, G, rfl, ⟨ht, hG, hn, hp, hI⟩, hQ⟩ := hS
  obtain ⟨b1, b2, b3, b4, b5, b6, b7, b8, b9⟩ := ckB ht hG hn
  have n1 : (nx n t p) ≤ n := nx_le t hp
  have n2 : (nx n t (nx n t p)) ≤ n := nx_le t n1
  have n3 : (nx n t (nx n t (nx n t p))) ≤ n := nx_le t n2
  have n4 : (nx n t (nx n t (nx n t (nx n t p)))) ≤ n := nx_le t n3
  have n5 : (nx n t (nx n t (nx n t (nx n t (nx n t p))))) ≤ n := nx_le t n4
  have n6 : (nx n t (nx n t (nx n t (nx n t (nx n t (nx n t p)))))) ≤ n := nx_le t n5
  have nf : ∀ q, q ≤ n → ¬ nI (st n t q) = -1 := fun q h => stN hn h
  have sl : ∀ q, q ≤ n → st n t q ≤ n := fun q h => st_le t h
  have g0 := hI.1.1
  by_cases c1 : nuI n t (nx n t p) (G 0 6 - 1) = 0
  · skip
    simp only [oWai, c1, if_true, if_false, endS, cRes, not_true_eq_false, not_false_eq_true, false_or, or_false, true_or, or_true] at hQ
    refine Rn_in C4_tellWait 90 ?_
    simp only [x4_tellWait_0, x4_tellWait_1, x4_tellWait_4, x4_tellWait_5, x4_tellWait_6, x4_tellWait_9, x4_tellWait_10, x4_tellWait_11, x4_tellWait_14, x4_tellWait_15, x4_tellWait_16, x4_tellWait_18, x4_tellWait_21, x4_tellWait_22, x4_tellWait_25, x4_tellWait_26, x4_tellWait_29, x4_tellWait_30, x4_tellWait_33, x4_tellWait_34, x4_tellWait_37, x4_tellWait_38, x4_tellWait_41, x4_tellWait_42, x4_tellWait_43, x4_tellWait_46, x4_tellWait_47, x4_tellWait_48, x4_tellWait_51, x4_tellWait_52, x4_tellWait_53, x4_tellWait_56, x4_tellWait_57, x4_tellWait_60, x4_tellWait_61, x4_tellWait_64, x4_tellWait_65, x4_tellWait_68, x4_tellWait_69, x4_tellWait_70, x4_tellWait_71, i_ald, i_cV, i_get, i_iast, i_ic, i_ic_ne, i_ild, i_ist, i_isub, i_rc, i_vret, oc_8, fv_8_0, fv_8_1, fv_8_2, fv_8_3, fv_8_4, fv_8_5, fv_8_6, ly_8_6, fv_8_7, ly_8_7, fv_8_8, ly_8_8, rd_9, al_9, rd_10, al_10, rd_11, al_11, rd_12, al_12, rd_13, al_13, rd_14, al_14, oc_22, fv_22_0, fv_22_1, ly_22_1, fv_22_2, ly_22_2, fv_22_3, ly_22_3, fv_22_4, ly_22_4, fv_22_5, ly_22_5, fv_22_6, ly_22_6, rd_23, al_23, rd_91, st_200, st_201, st_202, st_203, st_204, st_205, st_206, st_207, st_208, st_209, st_210, st_211, st_212, st_213, st_214, st_215, lck_0, lck_i, lck_r, lck_n, lck_l, csum_0, csum_i, csum_r, csum_l, pops_0, pops_s, psh_n, psh_s, List.getElem?_cons_zero, List.getElem?_cons_succ, List.set_cons_zero, List.set_cons_succ, true_and, and_true, Nat.reduceAdd, Nat.reduceLeDiff, S4_fail, S4_step, S4_takeName, S4_takeNumber, S4_isName, S4_takeEnd, b1, b2, b3, b4, b5, b6, b7, b8, b9, hp, n1, n2, n3, n4, n5, n6, CK_nf, CK_2, CK_5, CK_6, pg8_0, Nat.reduceEqDiff, List.length_cons, List.length_nil, Nat.reduceLT, c1, nf, sl, hQ, nn, false_implies, true_implies, implies_true, and_true, true_and, not_true_eq_false, not_false_eq_true, eq_self]
  · have r8 : 0 ≤ (vlC n t (st n t (nx n t p))) ∧ (vlC n t (st n t (nx n t p))) < 8 := by
      have := vl_rng c1
      have q := this.2.1
      rw [m1le _ _ g0.1] at q
      exact ⟨this.1, Int32.lt_of_lt_of_le q g0.2⟩
    by_cases c2 : nmI n t (nx n t (nx n t p)) [102, 111, 114] = 0
    · skip
      simp only [oWai, c1, c2, if_true, if_false, endS, cRes, not_true_eq_false, not_false_eq_true, false_or, or_false, true_or, or_true] at hQ
      refine Rn_in C4_tellWait 90 ?_
      simp only [x4_tellWait_0, x4_tellWait_1, x4_tellWait_4, x4_tellWait_5, x4_tellWait_6, x4_tellWait_9, x4_tellWait_10, x4_tellWait_11, x4_tellWait_14, x4_tellWait_15, x4_tellWait_16, x4_tellWait_18, x4_tellWait_21, x4_tellWait_22, x4_tellWait_25, x4_tellWait_26, x4_tellWait_29, x4_tellWait_30, x4_tellWait_33, x4_tellWait_34, x4_tellWait_37, x4_tellWait_38, x4_tellWait_41, x4_tellWait_42, x4_tellWait_43, x4_tellWait_46, x4_tellWait_47, x4_tellWait_48, x4_tellWait_51, x4_tellWait_52, x4_tellWait_53, x4_tellWait_56, x4_tellWait_57, x4_tellWait_60, x4_tellWait_61, x4_tellWait_64, x4_tellWait_65, x4_tellWait_68, x4_tellWait_69, x4_tellWait_70, x4_tellWait_71, i_ald, i_cV, i_get, i_iast, i_ic, i_ic_ne, i_ild, i_ist, i_isub, i_rc, i_vret, oc_8, fv_8_0, fv_8_1, fv_8_2, fv_8_3, fv_8_4, fv_8_5, fv_8_6, ly_8_6, fv_8_7, ly_8_7, fv_8_8, ly_8_8, rd_9, al_9, rd_10, al_10, rd_11, al_11, rd_12, al_12, rd_13, al_13, rd_14, al_14, oc_22, fv_22_0, fv_22_1, ly_22_1, fv_22_2, ly_22_2, fv_22_3, ly_22_3, fv_22_4, ly_22_4, fv_22_5, ly_22_5, fv_22_6, ly_22_6, rd_23, al_23, rd_91, st_200, st_201, st_202, st_203, st_204, st_205, st_206, st_207, st_208, st_209, st_210, st_211, st_212, st_213, st_214, st_215, lck_0, lck_i, lck_r, lck_n, lck_l, csum_0, csum_i, csum_r, csum_l, pops_0, pops_s, psh_n, psh_s, List.getElem?_cons_zero, List.getElem?_cons_succ, List.set_cons_zero, List.set_cons_succ, true_and, and_true, Nat.reduceAdd, Nat.reduceLeDiff, S4_fail, S4_step, S4_takeName, S4_takeNumber, S4_isName, S4_takeEnd, b1, b2, b3, b4, b5, b6, b7, b8, b9, hp, n1, n2, n3, n4, n5, n6, CK_nf, CK_2, CK_5, CK_6, pg8_0, Nat.reduceEqDiff, List.length_cons, List.length_nil, Nat.reduceLT, c1, c2, nf, sl, hQ, nn, false_implies, true_implies, implies_true, and_true, true_and, not_true_eq_false, not_false_eq_true, eq_self]
    · by_cases c3 : nuI n t (nx n t (nx n t (nx n t p))) (G 0 6 - 1) = 0
      · skip
        simp only [oWai, c1, c2, c3, if_true, if_false, endS, cRes, not_true_eq_false, not_false_eq_true, false_or, or_false, true_or, or_true] at hQ
        refine Rn_in C4_tellWait 90 ?_
        simp only [x4_tellWait_0, x4_tellWait_1, x4_tellWait_4, x4_tellWait_5, x4_tellWait_6, x4_tellWait_9, x4_tellWait_10, x4_tellWait_11, x4_tellWait_14, x4_tellWait_15, x4_tellWait_16, x4_tellWait_18, x4_tellWait_21, x4_tellWait_22, x4_tellWait_25, x4_tellWait_26, x4_tellWait_29, x4_tellWait_30, x4_tellWait_33, x4_tellWait_34, x4_tellWait_37, x4_tellWait_38, x4_tellWait_41, x4_tellWait_42, x4_tellWait_43, x4_tellWait_46, x4_tellWait_47, x4_tellWait_48, x4_tellWait_51, x4_tellWait_52, x4_tellWait_53, x4_tellWait_56, x4_tellWait_57, x4_tellWait_60, x4_tellWait_61, x4_tellWait_64, x4_tellWait_65, x4_tellWait_68, x4_tellWait_69, x4_tellWait_70, x4_tellWait_71, i_ald, i_cV, i_get, i_iast, i_ic, i_ic_ne, i_ild, i_ist, i_isub, i_rc, i_vret, oc_8, fv_8_0, fv_8_1, fv_8_2, fv_8_3, fv_8_4, fv_8_5, fv_8_6, ly_8_6, fv_8_7, ly_8_7, fv_8_8, ly_8_8, rd_9, al_9, rd_10, al_10, rd_11, al_11, rd_12, al_12, rd_13, al_13, rd_14, al_14, oc_22, fv_22_0, fv_22_1, ly_22_1, fv_22_2, ly_22_2, fv_22_3, ly_22_3, fv_22_4, ly_22_4, fv_22_5, ly_22_5, fv_22_6, ly_22_6, rd_23, al_23, rd_91, st_200, st_201, st_202, st_203, st_204, st_205, st_206, st_207, st_208, st_209, st_210, st_211, st_212, st_213, st_214, st_215, lck_0, lck_i, lck_r, lck_n, lck_l, csum_0, csum_i, csum_r, csum_l, pops_0, pops_s, psh_n, psh_s, List.getElem?_cons_zero, List.getElem?_cons_succ, List.set_cons_zero, List.set_cons_succ, true_and, and_true, Nat.reduceAdd, Nat.reduceLeDiff, S4_fail, S4_step, S4_takeName, S4_takeNumber, S4_isName, S4_takeEnd, b1, b2, b3, b4, b5, b6, b7, b8, b9, hp, n1, n2, n3, n4, n5, n6, CK_nf, CK_2, CK_5, CK_6, pg8_0, Nat.reduceEqDiff, List.length_cons, List.length_nil, Nat.reduceLT, c1, c2, c3, nf, sl, hQ, nn, false_implies, true_implies, implies_true, and_true, true_and, not_true_eq_false, not_false_eq_true, eq_self]
      · have k3 : nI (kd n t (st n t (nx n t (nx n t (nx n t p))))) = 2 := by
          have : kd n t (st n t (nx n t (nx n t (nx n t p)))) = 2 := by
            unfold nuI at c3
            by_cases z : kd n t (st n t (nx n t (nx n t (nx n t p)))) = 2 ∧ nx n t (nx n t (nx n t (nx n t p))) - st n t (nx n t (nx n t (nx n t p))) ≤ 3 ∧ vlC n t (st n t (nx n t (nx n t (nx n t p)))) ≤ (G 0 6 - 1)
            · exact z.1
            · rw [if_neg z] at c3; exact absurd rfl c3
          rw [this]; rfl
        by_cases c4 : (vlC n t (st n t (nx n t (nx n t (nx n t p))))) = (vlC n t (st n t (nx n t p)))
        · skip
          simp only [oWai, c1, c2, c3, c4, if_true, if_false, endS, cRes, not_true_eq_false, not_false_eq_true, false_or, or_false, true_or, or_true] at hQ
          refine Rn_in C4_tellWait 90 ?_
          simp only [x4_tellWait_0, x4_tellWait_1, x4_tellWait_4, x4_tellWait_5, x4_tellWait_6, x4_tellWait_9, x4_tellWait_10, x4_tellWait_11, x4_tellWait_14, x4_tellWait_15, x4_tellWait_16, x4_tellWait_18, x4_tellWait_21, x4_tellWait_22, x4_tellWait_25, x4_tellWait_26, x4_tellWait_29, x4_tellWait_30, x4_tellWait_33, x4_tellWait_34, x4_tellWait_37, x4_tellWait_38, x4_tellWait_41, x4_tellWait_42, x4_tellWait_43, x4_tellWait_46, x4_tellWait_47, x4_tellWait_48, x4_tellWait_51, x4_tellWait_52, x4_tellWait_53, x4_tellWait_56, x4_tellWait_57, x4_tellWait_60, x4_tellWait_61, x4_tellWait_64, x4_tellWait_65, x4_tellWait_68, x4_tellWait_69, x4_tellWait_70, x4_tellWait_71, i_ald, i_cV, i_get, i_iast, i_ic, i_ic_ne, i_ild, i_ist, i_isub, i_rc, i_vret, oc_8, fv_8_0, fv_8_1, fv_8_2, fv_8_3, fv_8_4, fv_8_5, fv_8_6, ly_8_6, fv_8_7, ly_8_7, fv_8_8, ly_8_8, rd_9, al_9, rd_10, al_10, rd_11, al_11, rd_12, al_12, rd_13, al_13, rd_14, al_14, oc_22, fv_22_0, fv_22_1, ly_22_1, fv_22_2, ly_22_2, fv_22_3, ly_22_3, fv_22_4, ly_22_4, fv_22_5, ly_22_5, fv_22_6, ly_22_6, rd_23, al_23, rd_91, st_200, st_201, st_202, st_203, st_204, st_205, st_206, st_207, st_208, st_209, st_210, st_211, st_212, st_213, st_214, st_215, lck_0, lck_i, lck_r, lck_n, lck_l, csum_0, csum_i, csum_r, csum_l, pops_0, pops_s, psh_n, psh_s, List.getElem?_cons_zero, List.getElem?_cons_succ, List.set_cons_zero, List.set_cons_succ, true_and, and_true, Nat.reduceAdd, Nat.reduceLeDiff, S4_fail, S4_step, S4_takeName, S4_takeNumber, S4_isName, S4_takeEnd, b1, b2, b3, b4, b5, b6, b7, b8, b9, hp, n1, n2, n3, n4, n5, n6, CK_nf, CK_2, CK_5, CK_6, pg8_0, Nat.reduceEqDiff, List.length_cons, List.length_nil, Nat.reduceLT, c1, c2, c3, c4, nf, sl, hQ, k3, nn, false_implies, true_implies, implies_true, and_true, true_and, not_true_eq_false, not_false_eq_true, eq_self]
        · by_cases c5 : seI n t (nx n t (nx n t (nx n t (nx n t p)))) = 0
          · skip
            simp only [oWai, c1, c2, c3, c4, c5, if_true, if_false, endS, cRes, not_true_eq_false, not_false_eq_true, false_or, or_false, true_or, or_true] at hQ
            refine Rn_in C4_tellWait 90 ?_
            simp only [x4_tellWait_0, x4_tellWait_1, x4_tellWait_4, x4_tellWait_5, x4_tellWait_6, x4_tellWait_9, x4_tellWait_10, x4_tellWait_11, x4_tellWait_14, x4_tellWait_15, x4_tellWait_16, x4_tellWait_18, x4_tellWait_21, x4_tellWait_22, x4_tellWait_25, x4_tellWait_26, x4_tellWait_29, x4_tellWait_30, x4_tellWait_33, x4_tellWait_34, x4_tellWait_37, x4_tellWait_38, x4_tellWait_41, x4_tellWait_42, x4_tellWait_43, x4_tellWait_46, x4_tellWait_47, x4_tellWait_48, x4_tellWait_51, x4_tellWait_52, x4_tellWait_53, x4_tellWait_56, x4_tellWait_57, x4_tellWait_60, x4_tellWait_61, x4_tellWait_64, x4_tellWait_65, x4_tellWait_68, x4_tellWait_69, x4_tellWait_70, x4_tellWait_71, i_ald, i_cV, i_get, i_iast, i_ic, i_ic_ne, i_ild, i_ist, i_isub, i_rc, i_vret, oc_8, fv_8_0, fv_8_1, fv_8_2, fv_8_3, fv_8_4, fv_8_5, fv_8_6, ly_8_6, fv_8_7, ly_8_7, fv_8_8, ly_8_8, rd_9, al_9, rd_10, al_10, rd_11, al_11, rd_12, al_12, rd_13, al_13, rd_14, al_14, oc_22, fv_22_0, fv_22_1, ly_22_1, fv_22_2, ly_22_2, fv_22_3, ly_22_3, fv_22_4, ly_22_4, fv_22_5, ly_22_5, fv_22_6, ly_22_6, rd_23, al_23, rd_91, st_200, st_201, st_202, st_203, st_204, st_205, st_206, st_207, st_208, st_209, st_210, st_211, st_212, st_213, st_214, st_215, lck_0, lck_i, lck_r, lck_n, lck_l, csum_0, csum_i, csum_r, csum_l, pops_0, pops_s, psh_n, psh_s, List.getElem?_cons_zero, List.getElem?_cons_succ, List.set_cons_zero, List.set_cons_succ, true_and, and_true, Nat.reduceAdd, Nat.reduceLeDiff, S4_fail, S4_step, S4_takeName, S4_takeNumber, S4_isName, S4_takeEnd, b1, b2, b3, b4, b5, b6, b7, b8, b9, hp, n1, n2, n3, n4, n5, n6, CK_nf, CK_2, CK_5, CK_6, pg8_0, Nat.reduceEqDiff, List.length_cons, List.length_nil, Nat.reduceLT, c1, c2, c3, c4, c5, nf, sl, hQ, k3, nn, false_implies, true_implies, implies_true, and_true, true_and, not_true_eq_false, not_false_eq_true, eq_self]
          · skip
            simp only [oWai, c1, c2, c3, c4, c5, if_true, if_false, endS, cRes, not_true_eq_false, not_false_eq_true, false_or, or_false, true_or, or_true] at hQ
            refine Rn_in C4_tellWait 90 ?_
            simp only [x4_tellWait_0, x4_tellWait_1, x4_tellWait_4, x4_tellWait_5, x4_tellWait_6, x4_tellWait_9, x4_tellWait_10, x4_tellWait_11, x4_tellWait_14, x4_tellWait_15, x4_tellWait_16, x4_tellWait_18, x4_tellWait_21, x4_tellWait_22, x4_tellWait_25, x4_tellWait_26, x4_tellWait_29, x4_tellWait_30, x4_tellWait_33, x4_tellWait_34, x4_tellWait_37, x4_tellWait_38, x4_tellWait_41, x4_tellWait_42, x4_tellWait_43, x4_tellWait_46, x4_tellWait_47, x4_tellWait_48, x4_tellWait_51, x4_tellWait_52, x4_tellWait_53, x4_tellWait_56, x4_tellWait_57, x4_tellWait_60, x4_tellWait_61, x4_tellWait_64, x4_tellWait_65, x4_tellWait_68, x4_tellWait_69, x4_tellWait_70, x4_tellWait_71, i_ald, i_cV, i_get, i_iast, i_ic, i_ic_ne, i_ild, i_ist, i_isub, i_rc, i_vret, oc_8, fv_8_0, fv_8_1, fv_8_2, fv_8_3, fv_8_4, fv_8_5, fv_8_6, ly_8_6, fv_8_7, ly_8_7, fv_8_8, ly_8_8, rd_9, al_9, rd_10, al_10, rd_11, al_11, rd_12, al_12, rd_13, al_13, rd_14, al_14, oc_22, fv_22_0, fv_22_1, ly_22_1, fv_22_2, ly_22_2, fv_22_3, ly_22_3, fv_22_4, ly_22_4, fv_22_5, ly_22_5, fv_22_6, ly_22_6, rd_23, al_23, rd_91, st_200, st_201, st_202, st_203, st_204, st_205, st_206, st_207, st_208, st_209, st_210, st_211, st_212, st_213, st_214, st_215, lck_0, lck_i, lck_r, lck_n, lck_l, csum_0, csum_i, csum_r, csum_l, pops_0, pops_s, psh_n, psh_s, List.getElem?_cons_zero, List.getElem?_cons_succ, List.set_cons_zero, List.set_cons_succ, true_and, and_true, Nat.reduceAdd, Nat.reduceLeDiff, S4_fail, S4_step, S4_takeName, S4_takeNumber, S4_isName, S4_takeEnd, b1, b2, b3, b4, b5, b6, b7, b8, b9, hp, n1, n2, n3, n4, n5, n6, CK_nf, CK_2, CK_5, CK_6, pg8_0, Nat.reduceEqDiff, List.length_cons, List.length_nil, Nat.reduceLT, c1, c2, c3, c4, c5, k3, v8, r8, ix, upc_6, hQ, nn, false_implies, true_implies, implies_true, and_true, true_and, not_true_eq_false, not_false_eq_true, eq_self]
theorem nx_ge (n : Nat) (t : Nat → Int32) (p : Nat) : p ≤ nx n t p := Nat.le_trans (st_ge n t p) (st_nx n t p)
def oOk (n : Nat) (t : Nat → Int32) (p : Nat) (h : Hp) (x : Sum Nat (Nat × GG)) : Prop := match x with
  | .inl q => q ≤ n
  | .inr (e, G) => (nx n t p ≤ e ∧ e ≤ n) ∧ InvG G ∧ Hi8 h G
theorem kdF_r (N : List Nat → Int32) : kdF N = -1 ∨ (0 ≤ kdF N ∧ kdF N ≤ 5) := by
  unfold kdF
  repeat' split
  all_goals first | (left; rfl) | (right; decide)
theorem lwF_r (N : List Nat → Int32) : lwF N = -1 ∨ (0 ≤ lwF N ∧ lwF N < 4) := by
  unfold lwF
  repeat' split
  all_goals first | (left; rfl) | (right; decide)
theorem Hi8_add {h : Hp} {G : GG} (hG : Hi8 h G) (k g r : Int32) : Hi8 h (addG G k g r) := fun j hj => by rw [addG_hi _ _ _ _ hj, hG j hj]
theorem oInm_ok {n : Nat} {t : Nat → Int32} {p : Nat} {h : Hp} {G : GG} {k : Int32} (hG : Hi8 h G) (hp : p ≤ n) (hI : InvG G) (hk : 0 ≤ k ∧ k ≤ 5) : oOk n t p h (oInm n t p G k) := by
  have n1 : (nx n t p) ≤ n := nx_le t hp
  have n2 : (nx n t (nx n t p)) ≤ n := nx_le t n1
  have n3 : (nx n t (nx n t (nx n t p))) ≤ n := nx_le t n2
  have n4 : (nx n t (nx n t (nx n t (nx n t p)))) ≤ n := nx_le t n3
  have n5 : (nx n t (nx n t (nx n t (nx n t (nx n t p))))) ≤ n := nx_le t n4
  have m2 := nx_ge n t (nx n t p)
  have m3 := nx_ge n t (nx n t (nx n t p))
  have m4 := nx_ge n t (nx n t (nx n t (nx n t p)))
  have m5 := nx_ge n t (nx n t (nx n t (nx n t (nx n t p))))
  unfold oInm
  split
  · rename_i c0
    split
    · exact n1
    · split
      · exact n2
      · rename_i c2
        have r := vl_rng c2
        have r8 : 0 ≤ (vlC n t (st n t (nx n t (nx n t p)))) ∧ (vlC n t (st n t (nx n t (nx n t p)))) < 8 := ⟨r.1, by have := r.2.1; grind⟩
        split
        · exact ⟨⟨by omega, n3⟩, addG_i hI _ _ _ c0 r8 hk, Hi8_add hG _ _ _⟩
        · split
          · exact n4
          · exact ⟨⟨by omega, n5⟩, addG_i hI _ _ _ c0 r8 hk, Hi8_add hG _ _ _⟩
  · exact hp
theorem tbT_99 : ∀ l, l < 4 → tbT.getD l 0 ≤ 99 := by decide
theorem oLaw_ok {n : Nat} {t : Nat → Int32} {p : Nat} {h : Hp} {G : GG} {l : Nat} (hG : Hi8 h G) (hp : p ≤ n) (hI : InvG G) (hl : l < 4) : oOk n t p h (oLaw n t p G l (tbT.getD l 0)) := by
  have n1 : (nx n t p) ≤ n := nx_le t hp
  have n2 : (nx n t (nx n t p)) ≤ n := nx_le t n1
  have m2 := nx_ge n t (nx n t p)
  unfold oLaw
  split
  · exact n1
  · rename_i c
    have r := vl_rng c
    exact ⟨⟨m2, n2⟩, InvG_1 hI ⟨r.1, Int32.le_trans r.2.1 (tbT_99 l hl)⟩, Hi8_up hG _ _ (by decide)⟩
theorem oRit_ok {n : Nat} {t : Nat → Int32} {p : Nat} {h : Hp} {G : GG} (hG : Hi8 h G) (hp : p ≤ n) (hI : InvG G) : oOk n t p h (oRit n t p G) := by
  have n1 : (nx n t p) ≤ n := nx_le t hp
  have n2 : (nx n t (nx n t p)) ≤ n := nx_le t n1
  have n3 : (nx n t (nx n t (nx n t p))) ≤ n := nx_le t n2
  have n4 : (nx n t (nx n t (nx n t (nx n t p)))) ≤ n := nx_le t n3
  have m2 := nx_ge n t (nx n t p)
  have m3 := nx_ge n t (nx n t (nx n t p))
  have m4 := nx_ge n t (nx n t (nx n t (nx n t p)))
  unfold oRit
  split
  · exact n1
  · split
    · exact n2
    · split
      · exact n3
      · exact ⟨⟨by omega, n4⟩, InvG_n hI (by decide), Hi8_up hG _ _ (by decide)⟩
theorem oWai_ok {n : Nat} {t : Nat → Int32} {p : Nat} {h : Hp} {G : GG} (hG : Hi8 h G) (hp : p ≤ n) (hI : InvG G) : oOk n t p h (oWai n t p G) := by
  have n1 : (nx n t p) ≤ n := nx_le t hp
  have n2 : (nx n t (nx n t p)) ≤ n := nx_le t n1
  have n3 : (nx n t (nx n t (nx n t p))) ≤ n := nx_le t n2
  have n4 : (nx n t (nx n t (nx n t (nx n t p)))) ≤ n := nx_le t n3
  have m2 := nx_ge n t (nx n t p)
  have m3 := nx_ge n t (nx n t (nx n t p))
  have m4 := nx_ge n t (nx n t (nx n t (nx n t p)))
  unfold oWai
  split
  · exact n1
  · split
    · exact n2
    · split
      · exact n3
      · rename_i c
        have r := vl_rng (fun q => c (Or.inl q))
        have q := r.2.1
        rw [m1le _ _ hI.1.1.1] at q
        exact ⟨⟨by omega, n4⟩, InvG_6 hI ⟨by have := r.1; grind, q⟩, Hi8_up hG _ _ (by decide)⟩
def itm (n : Nat) (t : Nat → Int32) (p : Nat) (G : GG) : Sum Nat (Nat × GG) := if kdF (nmI n t p) < 0 then (if lwF (nmI n t p) < 0 then (if nmI n t p [114, 105, 116, 101] = 0 then (if nmI n t p [119, 97, 105, 116] = 0 then .inl p else endS n t (oWai n t p G)) else endS n t (oRit n t p G)) else endS n t (oLaw n t p G (ix (lwF (nmI n t p))) (tbT.getD (ix (lwF (nmI n t p))) 0))) else endS n t (oInm n t p G (kdF (nmI n t p)))
def iOk (n : Nat) (p : Nat) (h : Hp) (x : Sum Nat (Nat × GG)) : Prop := match x with
  | .inl q => q ≤ n
  | .inr (e, G) => (p < e ∧ e ≤ n) ∧ InvG G ∧ Hi8 h G
theorem end_ok {n : Nat} {t : Nat → Int32} {p : Nat} {h : Hp} (hk : p < nx n t p) {x : Sum Nat (Nat × GG)} (hx : oOk n t p h x) : iOk n p h (endS n t x) := by
  rcases x with q | ⟨e, G⟩
  · exact hx
  · obtain ⟨⟨a, b⟩, c, d⟩ := hx
    unfold endS
    by_cases z : seI n t e = 0
    · simp only [z, if_true]
      exact b
    · simp only [z, if_false]
      have := nx_ge n t e
      exact ⟨⟨by omega, nx_le t b⟩, c, d⟩
theorem nneg0 {x : Int32} (h : x = -1 ∨ (0 ≤ x ∧ x ≤ 5)) (c : ¬ x < 0) : 0 ≤ x ∧ x ≤ 5 := by
  rcases h with e | e
  · rw [e] at c; exact absurd (by decide) c
  · exact e
theorem nneg4 {x : Int32} (h : x = -1 ∨ (0 ≤ x ∧ x < 4)) (c : ¬ x < 0) : 0 ≤ x ∧ x < 4 := by
  rcases h with e | e
  · rw [e] at c; exact absurd (by decide) c
  · exact e
theorem itm_ok {n : Nat} {t : Nat → Int32} {p : Nat} {h : Hp} {G : GG} (hG : Hi8 h G) (hp : p ≤ n) (hI : InvG G) (hk : ¬ kd n t (st n t p) = 0) : iOk n p h (itm n t p G) := by
  have g := nx_gt hk
  unfold itm
  split
  · split
    · split
      · split
        · exact hp
        · exact end_ok g (oWai_ok hG hp hI)
      · exact end_ok g (oRit_ok hG hp hI)
    · rename_i c
      have l := nneg4 (lwF_r (nmI n t p)) c
      exact end_ok g (oLaw_ok hG hp hI (ix_lt (n := 4) l.1 l.2 (by decide)))
  · rename_i c
    exact end_ok g (oInm_ok hG hp hI (nneg0 (kdF_r (nmI n t p)) c))
theorem cRes_m {n : Nat} {t : Nat → Int32} {h : Hp} {G : GG} {Q Q' : Po} (m : ∀ h1, Q none h1 → Q' none h1) {x : Sum Nat (Nat × GG)} (hx : cRes n t h G Q x) : cRes n t h G Q' x := by
  rcases x with q | ⟨e, H⟩
  · exact fun p hp => m _ (hx p hp)
  · exact m _ hx
def S4_tellOne : Sp := fun av hh Q => match av with | [.ref q, .ref g] => q = 22 ∧ g = 8 ∧ ∃ n t h p G, hh = CK n t (pg h 8 G) p (-1) ∧ CC n t h p G ∧ cRes n t h G Q (itm n t p G) | _ => False
theorem rn4_tellOne {h : Hp} {Q : Po} {q : Nat} {g : Nat} (hS : S4_tellOne [.ref q, .ref g] h Q) : Rn (T4_tellOne Q S4_kindNamed S4_lawNamed S4_tellInmate S4_tellLaw S4_isName S4_tellRite S4_tellWait S4_fail) (0, [some (.ref q), some (.ref g), none, none], [], h) := by
  obtain ⟨rfl, rfl, n, t, b, p, G, rfl, ⟨ht, hG, hn, hp, hI⟩, hQ⟩ := hS
  obtain ⟨b1, b2, b3, b4, b5, b6, b7, b8, b9⟩ := ckB ht hG hn
  have b4f : ∀ f, nmH (CK n t (pg b 8 G) p f) = nmI n t p := fun f => funext (fun w => b4 p f w hp)
  have CCx : CC n t b p G := ⟨ht, hG, hn, hp, hI⟩
  unfold itm at hQ
  by_cases c1 : kdF (nmI n t p) < 0
  · rw [if_pos c1] at hQ
    by_cases c2 : lwF (nmI n t p) < 0
    · rw [if_pos c2] at hQ
      by_cases c3 : nmI n t p [114, 105, 116, 101] = 0
      · rw [if_pos c3] at hQ
        by_cases c4 : nmI n t p [119, 97, 105, 116] = 0
        · rw [if_pos c4] at hQ
          have hF := hQ p hp
          refine Rn_in C4_tellOne 90 ?_
          simp only [x4_tellOne_0, x4_tellOne_1, x4_tellOne_4, x4_tellOne_5, x4_tellOne_6, x4_tellOne_9, x4_tellOne_10, x4_tellOne_11, x4_tellOne_14, x4_tellOne_15, x4_tellOne_16, x4_tellOne_17, x4_tellOne_20, x4_tellOne_23, x4_tellOne_24, x4_tellOne_27, x4_tellOne_28, x4_tellOne_29, x4_tellOne_30, x4_tellOne_33, x4_tellOne_36, x4_tellOne_37, x4_tellOne_39, x4_tellOne_42, x4_tellOne_45, x4_tellOne_46, x4_tellOne_47, x4_tellOne_50, x4_tellOne_53, x4_tellOne_54, x4_tellOne_56, x4_tellOne_59, x4_tellOne_62, x4_tellOne_63, x4_tellOne_64, x4_tellOne_67, x4_tellOne_70, x4_tellOne_71, x4_tellOne_74, i_ald, i_cV, i_goto, i_if_eq, i_if_lt, i_ild, i_ist, i_rc, i_vret, oc_8, fv_8_0, fv_8_1, fv_8_2, fv_8_3, fv_8_4, fv_8_5, fv_8_6, ly_8_6, fv_8_7, ly_8_7, fv_8_8, ly_8_8, rd_9, al_9, rd_10, al_10, rd_11, al_11, rd_12, al_12, rd_13, al_13, rd_14, al_14, oc_22, fv_22_0, fv_22_1, ly_22_1, fv_22_2, ly_22_2, fv_22_3, ly_22_3, fv_22_4, ly_22_4, fv_22_5, ly_22_5, fv_22_6, ly_22_6, rd_23, al_23, st_200, st_201, st_202, st_203, st_204, st_205, st_206, st_207, st_208, st_209, st_210, st_211, st_212, st_213, st_214, st_215, lck_0, lck_i, lck_r, lck_n, lck_l, csum_0, csum_i, csum_r, csum_l, pops_0, pops_s, psh_n, psh_s, List.getElem?_cons_zero, List.getElem?_cons_succ, List.set_cons_zero, List.set_cons_succ, true_and, and_true, Nat.reduceAdd, Nat.reduceLeDiff, S4_kindNamed, S4_lawNamed, S4_isName, S4_fail, b2, b4f, b8, hp, c1, c2, c3, c4, List.length_cons, List.length_nil, Nat.reduceLT, nn, false_implies, true_implies, implies_true, and_true, true_and, not_true_eq_false, not_false_eq_true, eq_self]
          exact hF
        · rw [if_neg c4] at hQ
          refine Rn_in C4_tellOne 90 ?_
          simp only [x4_tellOne_0, x4_tellOne_1, x4_tellOne_4, x4_tellOne_5, x4_tellOne_6, x4_tellOne_9, x4_tellOne_10, x4_tellOne_11, x4_tellOne_14, x4_tellOne_15, x4_tellOne_16, x4_tellOne_17, x4_tellOne_20, x4_tellOne_23, x4_tellOne_24, x4_tellOne_27, x4_tellOne_28, x4_tellOne_29, x4_tellOne_30, x4_tellOne_33, x4_tellOne_36, x4_tellOne_37, x4_tellOne_39, x4_tellOne_42, x4_tellOne_45, x4_tellOne_46, x4_tellOne_47, x4_tellOne_50, x4_tellOne_53, x4_tellOne_54, x4_tellOne_56, x4_tellOne_59, x4_tellOne_62, x4_tellOne_63, x4_tellOne_64, x4_tellOne_67, x4_tellOne_70, x4_tellOne_71, x4_tellOne_74, i_ald, i_cV, i_goto, i_if_eq, i_if_lt, i_ild, i_ist, i_rc, i_vret, oc_8, fv_8_0, fv_8_1, fv_8_2, fv_8_3, fv_8_4, fv_8_5, fv_8_6, ly_8_6, fv_8_7, ly_8_7, fv_8_8, ly_8_8, rd_9, al_9, rd_10, al_10, rd_11, al_11, rd_12, al_12, rd_13, al_13, rd_14, al_14, oc_22, fv_22_0, fv_22_1, ly_22_1, fv_22_2, ly_22_2, fv_22_3, ly_22_3, fv_22_4, ly_22_4, fv_22_5, ly_22_5, fv_22_6, ly_22_6, rd_23, al_23, st_200, st_201, st_202, st_203, st_204, st_205, st_206, st_207, st_208, st_209, st_210, st_211, st_212, st_213, st_214, st_215, lck_0, lck_i, lck_r, lck_n, lck_l, csum_0, csum_i, csum_r, csum_l, pops_0, pops_s, psh_n, psh_s, List.getElem?_cons_zero, List.getElem?_cons_succ, List.set_cons_zero, List.set_cons_succ, true_and, and_true, Nat.reduceAdd, Nat.reduceLeDiff, S4_kindNamed, S4_lawNamed, S4_isName, S4_fail, b2, b4f, b8, hp, c1, c2, c3, c4, List.length_cons, List.length_nil, Nat.reduceLT, nn, false_implies, true_implies, implies_true, and_true, true_and, not_true_eq_false, not_false_eq_true, eq_self]
          exact ⟨rfl, rfl, n, t, b, p, G, rfl, CCx, cRes_m (fun _ z => z) hQ⟩
      · rw [if_neg c3] at hQ
        refine Rn_in C4_tellOne 90 ?_
        simp only [x4_tellOne_0, x4_tellOne_1, x4_tellOne_4, x4_tellOne_5, x4_tellOne_6, x4_tellOne_9, x4_tellOne_10, x4_tellOne_11, x4_tellOne_14, x4_tellOne_15, x4_tellOne_16, x4_tellOne_17, x4_tellOne_20, x4_tellOne_23, x4_tellOne_24, x4_tellOne_27, x4_tellOne_28, x4_tellOne_29, x4_tellOne_30, x4_tellOne_33, x4_tellOne_36, x4_tellOne_37, x4_tellOne_39, x4_tellOne_42, x4_tellOne_45, x4_tellOne_46, x4_tellOne_47, x4_tellOne_50, x4_tellOne_53, x4_tellOne_54, x4_tellOne_56, x4_tellOne_59, x4_tellOne_62, x4_tellOne_63, x4_tellOne_64, x4_tellOne_67, x4_tellOne_70, x4_tellOne_71, x4_tellOne_74, i_ald, i_cV, i_goto, i_if_eq, i_if_lt, i_ild, i_ist, i_rc, i_vret, oc_8, fv_8_0, fv_8_1, fv_8_2, fv_8_3, fv_8_4, fv_8_5, fv_8_6, ly_8_6, fv_8_7, ly_8_7, fv_8_8, ly_8_8, rd_9, al_9, rd_10, al_10, rd_11, al_11, rd_12, al_12, rd_13, al_13, rd_14, al_14, oc_22, fv_22_0, fv_22_1, ly_22_1, fv_22_2, ly_22_2, fv_22_3, ly_22_3, fv_22_4, ly_22_4, fv_22_5, ly_22_5, fv_22_6, ly_22_6, rd_23, al_23, st_200, st_201, st_202, st_203, st_204, st_205, st_206, st_207, st_208, st_209, st_210, st_211, st_212, st_213, st_214, st_215, lck_0, lck_i, lck_r, lck_n, lck_l, csum_0, csum_i, csum_r, csum_l, pops_0, pops_s, psh_n, psh_s, List.getElem?_cons_zero, List.getElem?_cons_succ, List.set_cons_zero, List.set_cons_succ, true_and, and_true, Nat.reduceAdd, Nat.reduceLeDiff, S4_kindNamed, S4_lawNamed, S4_isName, S4_fail, b2, b4f, b8, hp, c1, c2, c3, List.length_cons, List.length_nil, Nat.reduceLT, nn, false_implies, true_implies, implies_true, and_true, true_and, not_true_eq_false, not_false_eq_true, eq_self]
        exact ⟨rfl, rfl, n, t, b, p, G, rfl, CCx, cRes_m (fun _ z => z) hQ⟩
    · rw [if_neg c2] at hQ
      refine Rn_in C4_tellOne 90 ?_
      simp only [x4_tellOne_0, x4_tellOne_1, x4_tellOne_4, x4_tellOne_5, x4_tellOne_6, x4_tellOne_9, x4_tellOne_10, x4_tellOne_11, x4_tellOne_14, x4_tellOne_15, x4_tellOne_16, x4_tellOne_17, x4_tellOne_20, x4_tellOne_23, x4_tellOne_24, x4_tellOne_27, x4_tellOne_28, x4_tellOne_29, x4_tellOne_30, x4_tellOne_33, x4_tellOne_36, x4_tellOne_37, x4_tellOne_39, x4_tellOne_42, x4_tellOne_45, x4_tellOne_46, x4_tellOne_47, x4_tellOne_50, x4_tellOne_53, x4_tellOne_54, x4_tellOne_56, x4_tellOne_59, x4_tellOne_62, x4_tellOne_63, x4_tellOne_64, x4_tellOne_67, x4_tellOne_70, x4_tellOne_71, x4_tellOne_74, i_ald, i_cV, i_goto, i_if_eq, i_if_lt, i_ild, i_ist, i_rc, i_vret, oc_8, fv_8_0, fv_8_1, fv_8_2, fv_8_3, fv_8_4, fv_8_5, fv_8_6, ly_8_6, fv_8_7, ly_8_7, fv_8_8, ly_8_8, rd_9, al_9, rd_10, al_10, rd_11, al_11, rd_12, al_12, rd_13, al_13, rd_14, al_14, oc_22, fv_22_0, fv_22_1, ly_22_1, fv_22_2, ly_22_2, fv_22_3, ly_22_3, fv_22_4, ly_22_4, fv_22_5, ly_22_5, fv_22_6, ly_22_6, rd_23, al_23, st_200, st_201, st_202, st_203, st_204, st_205, st_206, st_207, st_208, st_209, st_210, st_211, st_212, st_213, st_214, st_215, lck_0, lck_i, lck_r, lck_n, lck_l, csum_0, csum_i, csum_r, csum_l, pops_0, pops_s, psh_n, psh_s, List.getElem?_cons_zero, List.getElem?_cons_succ, List.set_cons_zero, List.set_cons_succ, true_and, and_true, Nat.reduceAdd, Nat.reduceLeDiff, S4_kindNamed, S4_lawNamed, S4_isName, S4_fail, b2, b4f, b8, hp, c1, c2, List.length_cons, List.length_nil, Nat.reduceLT, nn, false_implies, true_implies, implies_true, and_true, true_and, not_true_eq_false, not_false_eq_true, eq_self]
      exact ⟨rfl, rfl, nneg4 (lwF_r (nmI n t p)) c2, n, t, b, p, G, rfl, CCx, cRes_m (fun _ z => z) hQ⟩
  · rw [if_neg c1] at hQ
    refine Rn_in C4_tellOne 90 ?_
    simp only [x4_tellOne_0, x4_tellOne_1, x4_tellOne_4, x4_tellOne_5, x4_tellOne_6, x4_tellOne_9, x4_tellOne_10, x4_tellOne_11, x4_tellOne_14, x4_tellOne_15, x4_tellOne_16, x4_tellOne_17, x4_tellOne_20, x4_tellOne_23, x4_tellOne_24, x4_tellOne_27, x4_tellOne_28, x4_tellOne_29, x4_tellOne_30, x4_tellOne_33, x4_tellOne_36, x4_tellOne_37, x4_tellOne_39, x4_tellOne_42, x4_tellOne_45, x4_tellOne_46, x4_tellOne_47, x4_tellOne_50, x4_tellOne_53, x4_tellOne_54, x4_tellOne_56, x4_tellOne_59, x4_tellOne_62, x4_tellOne_63, x4_tellOne_64, x4_tellOne_67, x4_tellOne_70, x4_tellOne_71, x4_tellOne_74, i_ald, i_cV, i_goto, i_if_eq, i_if_lt, i_ild, i_ist, i_rc, i_vret, oc_8, fv_8_0, fv_8_1, fv_8_2, fv_8_3, fv_8_4, fv_8_5, fv_8_6, ly_8_6, fv_8_7, ly_8_7, fv_8_8, ly_8_8, rd_9, al_9, rd_10, al_10, rd_11, al_11, rd_12, al_12, rd_13, al_13, rd_14, al_14, oc_22, fv_22_0, fv_22_1, ly_22_1, fv_22_2, ly_22_2, fv_22_3, ly_22_3, fv_22_4, ly_22_4, fv_22_5, ly_22_5, fv_22_6, ly_22_6, rd_23, al_23, st_200, st_201, st_202, st_203, st_204, st_205, st_206, st_207, st_208, st_209, st_210, st_211, st_212, st_213, st_214, st_215, lck_0, lck_i, lck_r, lck_n, lck_l, csum_0, csum_i, csum_r, csum_l, pops_0, pops_s, psh_n, psh_s, List.getElem?_cons_zero, List.getElem?_cons_succ, List.set_cons_zero, List.set_cons_succ, true_and, and_true, Nat.reduceAdd, Nat.reduceLeDiff, S4_kindNamed, S4_lawNamed, S4_isName, S4_fail, b2, b4f, b8, hp, c1, List.length_cons, List.length_nil, Nat.reduceLT, nn, false_implies, true_implies, implies_true, and_true, true_and, not_true_eq_false, not_false_eq_true, eq_self]
    exact ⟨rfl, rfl, n, t, b, p, G, rfl, CCx, cRes_m (fun _ z => z) hQ⟩
