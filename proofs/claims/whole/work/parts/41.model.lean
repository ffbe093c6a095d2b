/-! the reference: reading a gaol -/
theorem t4 : ((0 : Int32) ≤ 0 ∧ (0 : Int32) < 4) = True ∧ ((0 : Int32) ≤ 1 ∧ (1 : Int32) < 4) = True ∧ ((0 : Int32) ≤ 2 ∧ (2 : Int32) < 4) = True ∧ ((0 : Int32) ≤ 3 ∧ (3 : Int32) < 4) = True := by decide
theorem eqself (n : Nat) : (n = n) = True := by simp
def S6_isOut : Sp := fun av h Q => match av with | [.ref m, .int o] => m = 41 ∧ (0 ≤ o ∧ o < 8) ∧ Q (some (.int (outB (mv (h 42)) (ix o)))) h | _ => False
theorem rn6_isOut {h : Hp} {Q : Po} {m : Nat} {o : Int32} (hS : S6_isOut [.ref m, .int o] h Q) : Rn (T6_isOut Q S6_its) (0, [some (.ref m), some (.int o)], [], h) := by
  obtain ⟨rfl, ho, hQ⟩ := hS
  refine Rn_in C6_isOut 60 ?_
  simp only [outB, mv_5] at hQ
  simp only [x6_isOut_0, x6_isOut_1, x6_isOut_2, x6_isOut_3, x6_isOut_6, x6_isOut_8, x6_isOut_11, x6_isOut_12, x6_isOut_15, x6_isOut_16, i_ald, i_cV, i_goto, i_ic, i_ic_ne, i_ild, i_zret, oc_41, fv_41_0, fv_41_1, fv_41_2, fv_41_3, fv_41_4, ly_41_4, fv_41_5, fv_41_6, ly_41_6, fv_41_7, ly_41_7, fv_41_8, ly_41_8, fv_41_9, ly_41_9, fv_41_10, ly_41_10, fv_41_11, ly_41_11, fv_41_12, fv_41_13, fv_41_14, ly_41_14, fv_41_15, fv_41_16, fv_41_17, fv_41_18, fv_41_19, fv_41_20, fv_41_21, fv_41_22, ly_41_22, fv_41_23, ly_41_23, fv_41_24, ly_41_24, fv_41_25, ly_41_25, fv_41_26, ly_41_26, rd_42, al_42, rd_43, al_43, rd_44, al_44, rd_45, al_45, rd_46, al_46, rd_47, al_47, rd_48, al_48, rd_49, al_49, rd_50, al_50, rd_51, al_51, rd_52, al_52, rd_53, al_53, rd_54, al_54, rd_55, al_55, lck_0, lck_i, lck_r, lck_n, lck_l, csum_0, csum_i, csum_r, csum_l, pops_0, pops_s, psh_n, psh_s, List.getElem?_cons_zero, List.getElem?_cons_succ, List.set_cons_zero, List.set_cons_succ, true_and, and_true, Nat.reduceAdd, Nat.reduceLeDiff, S6_its, t4, or_true, true_or, ix2, ix]
  simp only [ix] at hQ
  grind
def S6_isKept : Sp := fun av h Q => match av with | [.ref m, .int o] => m = 41 ∧ (0 ≤ o ∧ o < 8) ∧ h 42 0 ≤ 8 ∧ (-1 ≤ mv (h 42) 6 (ix o) ∧ mv (h 42) 6 (ix o) < h 42 0) ∧ Q (some (.int (heldB (mv (h 42)) (ix o)))) h | _ => False
theorem rn6_isKept {h : Hp} {Q : Po} {m : Nat} {o : Int32} (hS : S6_isKept [.ref m, .int o] h Q) : Rn (T6_isKept Q S6_its S6_isOut) (0, [some (.ref m), some (.int o), none], [], h) := by
  obtain ⟨rfl, ho, h8, hh, hQ⟩ := hS
  refine Rn_in C6_isKept 60 ?_
  simp only [heldB, mv_5, mv_6, mv_06] at hQ hh
  simp only [x6_isKept_0, x6_isKept_1, x6_isKept_2, x6_isKept_3, x6_isKept_6, x6_isKept_7, x6_isKept_8, x6_isKept_9, x6_isKept_10, x6_isKept_13, x6_isKept_14, x6_isKept_15, x6_isKept_18, x6_isKept_21, x6_isKept_22, x6_isKept_23, x6_isKept_24, x6_isKept_27, x6_isKept_28, x6_isKept_29, x6_isKept_30, x6_isKept_33, x6_isKept_36, x6_isKept_37, x6_isKept_40, x6_isKept_41, i_ald, i_cV, i_goto, i_ic, i_ic_ne, i_if_lt, i_if_ne, i_ild, i_ist, i_isub, i_zret, oc_41, fv_41_0, fv_41_1, fv_41_2, fv_41_3, fv_41_4, ly_41_4, fv_41_5, fv_41_6, ly_41_6, fv_41_7, ly_41_7, fv_41_8, ly_41_8, fv_41_9, ly_41_9, fv_41_10, ly_41_10, fv_41_11, ly_41_11, fv_41_12, fv_41_13, fv_41_14, ly_41_14, fv_41_15, fv_41_16, fv_41_17, fv_41_18, fv_41_19, fv_41_20, fv_41_21, fv_41_22, ly_41_22, fv_41_23, ly_41_23, fv_41_24, ly_41_24, fv_41_25, ly_41_25, fv_41_26, ly_41_26, rd_42, al_42, rd_43, al_43, rd_44, al_44, rd_45, al_45, rd_46, al_46, rd_47, al_47, rd_48, al_48, rd_49, al_49, rd_50, al_50, rd_51, al_51, rd_52, al_52, rd_53, al_53, rd_54, al_54, rd_55, al_55, lck_0, lck_i, lck_r, lck_n, lck_l, csum_0, csum_i, csum_r, csum_l, pops_0, pops_s, psh_n, psh_s, List.getElem?_cons_zero, List.getElem?_cons_succ, List.set_cons_zero, List.set_cons_succ, true_and, and_true, Nat.reduceAdd, Nat.reduceLeDiff, S6_its, S6_isOut, outB_0, mv_5, t4, or_true, true_or, ix3, ix2, ix]
  simp only [ix] at hQ hh
  grind
def S6_thoseIn : Sp := fun av h Q => match av with | [.ref m, .int room] => m = 41 ∧ (0 ≤ h 42 0 ∧ h 42 0 ≤ 8) ∧ Q (some (.int (thG (mv (h 42)) room (nG (mv (h 42)))))) h | _ => False
theorem or0 (x : Int32) : x ||| 0 = x := Int32.or_zero
theorem lp6_thoseIn {h : Hp} {Q : Po} {room : Int32} {n : Nat} (hn : h 42 0 = nI n) (hn8 : n ≤ 8) (hQ : Q (some (.int (thG (mv (h 42)) room n))) h) : ∀ d j, d + j = n → Rn (T6_thoseIn Q S6_its) (4, [some (.ref 41), some (.int room), some (.int (thG (mv (h 42)) room j)), some (.int (nI j))], [], h)
  | 0, j, e => by
    have e : j = n := by omega
    subst e
    refine Rn_go C6_thoseIn 60 ?_
    simp only [x6_thoseIn_0, x6_thoseIn_1, x6_thoseIn_2, x6_thoseIn_3, k6_thoseIn_4, t6_thoseIn_4, x6_thoseIn_5, x6_thoseIn_6, x6_thoseIn_9, x6_thoseIn_10, x6_thoseIn_11, x6_thoseIn_14, x6_thoseIn_15, x6_thoseIn_16, x6_thoseIn_17, x6_thoseIn_18, x6_thoseIn_21, x6_thoseIn_22, x6_thoseIn_25, x6_thoseIn_26, x6_thoseIn_27, x6_thoseIn_28, x6_thoseIn_31, x6_thoseIn_32, x6_thoseIn_33, x6_thoseIn_34, x6_thoseIn_37, x6_thoseIn_40, x6_thoseIn_41, i_ald, i_cV, i_get, i_goto, i_iald, i_ic, i_ic_ge, i_ic_ne, i_ild, i_inc, i_ior, i_iret, i_ishl, i_ist, oc_41, fv_41_0, fv_41_1, fv_41_2, fv_41_3, fv_41_4, ly_41_4, fv_41_5, fv_41_6, ly_41_6, fv_41_7, ly_41_7, fv_41_8, ly_41_8, fv_41_9, ly_41_9, fv_41_10, ly_41_10, fv_41_11, ly_41_11, fv_41_12, fv_41_13, fv_41_14, ly_41_14, fv_41_15, fv_41_16, fv_41_17, fv_41_18, fv_41_19, fv_41_20, fv_41_21, fv_41_22, ly_41_22, fv_41_23, ly_41_23, fv_41_24, ly_41_24, fv_41_25, ly_41_25, fv_41_26, ly_41_26, rd_42, al_42, rd_43, al_43, rd_44, al_44, rd_45, al_45, rd_46, al_46, rd_47, al_47, rd_48, al_48, rd_49, al_49, rd_50, al_50, rd_51, al_51, rd_52, al_52, rd_53, al_53, rd_54, al_54, rd_55, al_55, lck_0, lck_i, lck_r, lck_n, lck_l, csum_0, csum_i, csum_r, csum_l, pops_0, pops_s, psh_n, psh_s, List.getElem?_cons_zero, List.getElem?_cons_succ, List.set_cons_zero, List.set_cons_succ, true_and, and_true, Nat.reduceAdd, Nat.reduceLeDiff, v47, w47, ix0, hn]
    exact ⟨fun _ => hQ, fun c => absurd (Int32.le_refl _) c⟩
  | d + 1, j, e => by
    have ih := lp6_thoseIn hn hn8 hQ d (j + 1) (by omega)
    rw [← nI_1] at ih
    simp only [thG] at ih
    have hj := nlt8 (j := j) (by omega)
    have hlt : ¬ nI n ≤ nI j := nI_ge (by omega) (by omega)
    have hx : (nI j).toNatClampNeg = j := ix_nI (by omega)
    refine Rn_go C6_thoseIn 60 ?_
    simp only [x6_thoseIn_0, x6_thoseIn_1, x6_thoseIn_2, x6_thoseIn_3, k6_thoseIn_4, t6_thoseIn_4, x6_thoseIn_5, x6_thoseIn_6, x6_thoseIn_9, x6_thoseIn_10, x6_thoseIn_11, x6_thoseIn_14, x6_thoseIn_15, x6_thoseIn_16, x6_thoseIn_17, x6_thoseIn_18, x6_thoseIn_21, x6_thoseIn_22, x6_thoseIn_25, x6_thoseIn_26, x6_thoseIn_27, x6_thoseIn_28, x6_thoseIn_31, x6_thoseIn_32, x6_thoseIn_33, x6_thoseIn_34, x6_thoseIn_37, x6_thoseIn_40, x6_thoseIn_41, i_ald, i_cV, i_get, i_goto, i_iald, i_ic, i_ic_ge, i_ic_ne, i_ild, i_inc, i_ior, i_iret, i_ishl, i_ist, oc_41, fv_41_0, fv_41_1, fv_41_2, fv_41_3, fv_41_4, ly_41_4, fv_41_5, fv_41_6, ly_41_6, fv_41_7, ly_41_7, fv_41_8, ly_41_8, fv_41_9, ly_41_9, fv_41_10, ly_41_10, fv_41_11, ly_41_11, fv_41_12, fv_41_13, fv_41_14, ly_41_14, fv_41_15, fv_41_16, fv_41_17, fv_41_18, fv_41_19, fv_41_20, fv_41_21, fv_41_22, ly_41_22, fv_41_23, ly_41_23, fv_41_24, ly_41_24, fv_41_25, ly_41_25, fv_41_26, ly_41_26, rd_42, al_42, rd_43, al_43, rd_44, al_44, rd_45, al_45, rd_46, al_46, rd_47, al_47, rd_48, al_48, rd_49, al_49, rd_50, al_50, rd_51, al_51, rd_52, al_52, rd_53, al_53, rd_54, al_54, rd_55, al_55, lck_0, lck_i, lck_r, lck_n, lck_l, csum_0, csum_i, csum_r, csum_l, pops_0, pops_s, psh_n, psh_s, List.getElem?_cons_zero, List.getElem?_cons_succ, List.set_cons_zero, List.set_cons_succ, true_and, and_true, Nat.reduceAdd, Nat.reduceLeDiff, v47, w47, ix0, hn, S6_its, t4, ix2, ix, hx, or0]
    refine ⟨fun c => absurd c hlt, fun _ => ⟨hj, fun c => ?_, fun c => ?_⟩⟩
    · rw [if_neg (show ¬ mv (h 42) 5 j = room from c)] at ih
      exact ih
    · rw [if_pos (show mv (h 42) 5 j = room from c)] at ih
      exact ih
theorem rn6_thoseIn {h : Hp} {Q : Po} {m : Nat} {room : Int32} (hS : S6_thoseIn [.ref m, .int room] h Q) : Rn (T6_thoseIn Q S6_its) (0, [some (.ref m), some (.int room), none, none], [], h) := by
  obtain ⟨rfl, ⟨h0, h8⟩, hQ⟩ := hS
  obtain ⟨n, n8, hn, hi⟩ := cntN h0 h8
  have hnG : nG (mv (h 42)) = n := hi
  rw [hnG] at hQ
  have := lp6_thoseIn hn n8 hQ n 0 (by omega)
  refine Rn_in C6_thoseIn 60 ?_
  simp only [x6_thoseIn_0, x6_thoseIn_1, x6_thoseIn_2, x6_thoseIn_3, k6_thoseIn_4, t6_thoseIn_4, x6_thoseIn_5, x6_thoseIn_6, x6_thoseIn_9, x6_thoseIn_10, x6_thoseIn_11, x6_thoseIn_14, x6_thoseIn_15, x6_thoseIn_16, x6_thoseIn_17, x6_thoseIn_18, x6_thoseIn_21, x6_thoseIn_22, x6_thoseIn_25, x6_thoseIn_26, x6_thoseIn_27, x6_thoseIn_28, x6_thoseIn_31, x6_thoseIn_32, x6_thoseIn_33, x6_thoseIn_34, x6_thoseIn_37, x6_thoseIn_40, x6_thoseIn_41, i_ald, i_cV, i_get, i_goto, i_iald, i_ic, i_ic_ge, i_ic_ne, i_ild, i_inc, i_ior, i_iret, i_ishl, i_ist, oc_41, fv_41_0, fv_41_1, fv_41_2, fv_41_3, fv_41_4, ly_41_4, fv_41_5, fv_41_6, ly_41_6, fv_41_7, ly_41_7, fv_41_8, ly_41_8, fv_41_9, ly_41_9, fv_41_10, ly_41_10, fv_41_11, ly_41_11, fv_41_12, fv_41_13, fv_41_14, ly_41_14, fv_41_15, fv_41_16, fv_41_17, fv_41_18, fv_41_19, fv_41_20, fv_41_21, fv_41_22, ly_41_22, fv_41_23, ly_41_23, fv_41_24, ly_41_24, fv_41_25, ly_41_25, fv_41_26, ly_41_26, rd_42, al_42, rd_43, al_43, rd_44, al_44, rd_45, al_45, rd_46, al_46, rd_47, al_47, rd_48, al_48, rd_49, al_49, rd_50, al_50, rd_51, al_51, rd_52, al_52, rd_53, al_53, rd_54, al_54, rd_55, al_55, lck_0, lck_i, lck_r, lck_n, lck_l, csum_0, csum_i, csum_r, csum_l, pops_0, pops_s, psh_n, psh_s, List.getElem?_cons_zero, List.getElem?_cons_succ, List.set_cons_zero, List.set_cons_succ, true_and, and_true, Nat.reduceAdd, Nat.reduceLeDiff]
  exact this
theorem nGm {h : Hp} (hc : 0 ≤ h 42 0 ∧ h 42 0 ≤ 8) : nG (mv (h 42)) ≤ 8 := by
  obtain ⟨n, n8, hn, hi⟩ := cntN hc.1 hc.2
  exact Nat.le_trans (Nat.le_of_eq hi) n8
def S6_needsOf : Sp := fun av h Q => match av with | [.ref m, .int o] => m = 41 ∧ (0 ≤ o ∧ o < 8) ∧ (0 ≤ mv (h 42) 5 (ix o) ∧ mv (h 42) 5 (ix o) < 8) ∧ (0 ≤ h 42 0 ∧ h 42 0 ≤ 8) ∧ Q (some (.int (needG (mv (h 42)) (ix o)))) h | _ => False
theorem rn6_needsOf {h : Hp} {Q : Po} {m : Nat} {o : Int32} (hS : S6_needsOf [.ref m, .int o] h Q) : Rn (T6_needsOf Q S6_its S6_thoseIn S6_size) (0, [some (.ref m), some (.int o), none], [], h) := by
  obtain ⟨rfl, ho, hr, hc, hQ⟩ := hS
  have h2 := thG_256 (mv (h 42)) (mv (h 42) 5 (ix o)) (nGm hc)
  obtain ⟨r1, r2⟩ := rt_ix hr
  have hri : riteG (mv (h 42)) (ix o) = h 42 (7 + ix (mv (h 42) 5 (ix o))) := by
    unfold riteG
    rw [if_pos hr, mv_2 _ (ix_lt (n := 8) hr.1 hr.2 (by decide))]
  simp only [mv_5, ix] at h2 r1 r2 hri
  refine Rn_in C6_needsOf 90 ?_
  simp only [x6_needsOf_0, x6_needsOf_1, x6_needsOf_4, x6_needsOf_6, x6_needsOf_7, x6_needsOf_8, x6_needsOf_9, x6_needsOf_12, x6_needsOf_13, x6_needsOf_14, x6_needsOf_15, x6_needsOf_16, x6_needsOf_17, x6_needsOf_18, x6_needsOf_21, x6_needsOf_56, x6_needsOf_57, x6_needsOf_58, x6_needsOf_61, x6_needsOf_62, x6_needsOf_63, x6_needsOf_64, x6_needsOf_65, x6_needsOf_66, x6_needsOf_67, x6_needsOf_68, x6_needsOf_69, x6_needsOf_70, x6_needsOf_71, x6_needsOf_74, x6_needsOf_75, x6_needsOf_76, x6_needsOf_77, x6_needsOf_78, x6_needsOf_79, x6_needsOf_80, x6_needsOf_83, x6_needsOf_85, x6_needsOf_86, x6_needsOf_87, x6_needsOf_88, x6_needsOf_89, x6_needsOf_90, x6_needsOf_91, x6_needsOf_92, x6_needsOf_93, x6_needsOf_94, x6_needsOf_95, x6_needsOf_98, x6_needsOf_101, x6_needsOf_104, x6_needsOf_105, x6_needsOf_106, x6_needsOf_107, x6_needsOf_108, x6_needsOf_109, x6_needsOf_112, x6_needsOf_113, x6_needsOf_114, x6_needsOf_115, x6_needsOf_116, x6_needsOf_119, x6_needsOf_120, x6_needsOf_123, x6_needsOf_124, x6_needsOf_125, x6_needsOf_126, i_ald, i_cS, i_cV, i_get, i_goto, i_iadd, i_iald, i_ic, i_idiv, i_if_ne, i_ild, i_irem, i_iret, i_ist, i_isub, i_sw, oc_41, fv_41_0, fv_41_1, fv_41_2, fv_41_3, fv_41_4, ly_41_4, fv_41_5, fv_41_6, ly_41_6, fv_41_7, ly_41_7, fv_41_8, ly_41_8, fv_41_9, ly_41_9, fv_41_10, ly_41_10, fv_41_11, ly_41_11, fv_41_12, fv_41_13, fv_41_14, ly_41_14, fv_41_15, fv_41_16, fv_41_17, fv_41_18, fv_41_19, fv_41_20, fv_41_21, fv_41_22, ly_41_22, fv_41_23, ly_41_23, fv_41_24, ly_41_24, fv_41_25, ly_41_25, fv_41_26, ly_41_26, rd_42, al_42, rd_43, al_43, rd_44, al_44, rd_45, al_45, rd_46, al_46, rd_47, al_47, rd_48, al_48, rd_49, al_49, rd_50, al_50, rd_51, al_51, rd_52, al_52, rd_53, al_53, rd_54, al_54, rd_55, al_55, lck_0, lck_i, lck_r, lck_n, lck_l, csum_0, csum_i, csum_r, csum_l, pops_0, pops_s, psh_n, psh_s, List.getElem?_cons_zero, List.getElem?_cons_succ, List.set_cons_zero, List.set_cons_succ, true_and, and_true, Nat.reduceAdd, Nat.reduceLeDiff, v47, w47, S6_its, S6_thoseIn, S6_size, t4, ix0, ix1, ix2, ix3, ix, List.forall_mem_cons, List.not_mem_nil, r2]
  simp only [needG, hri, mv_3, mv_4, mv_5, mv_10, mv_07, ix] at hQ
  simp only [← hri, ix, Nat.add_zero] at hQ ⊢
  grind
theorem m2c (x : Int32) : 2 * x = x * 2 := Int32.mul_comm 2 x
def S6_paysOf : Sp := fun av h Q => match av with | [.ref m, .int o] => m = 41 ∧ (0 ≤ o ∧ o < 8) ∧ Q (some (.int (payG (mv (h 42)) (ix o)))) h | _ => False
theorem rn6_paysOf {h : Hp} {Q : Po} {m : Nat} {o : Int32} (hS : S6_paysOf [.ref m, .int o] h Q) : Rn (T6_paysOf Q S6_its) (0, [some (.ref m), some (.int o), none], [], h) := by
  obtain ⟨rfl, ho, hQ⟩ := hS
  refine Rn_in C6_paysOf 90 ?_
  simp only [x6_paysOf_0, x6_paysOf_1, x6_paysOf_4, x6_paysOf_5, x6_paysOf_6, x6_paysOf_7, x6_paysOf_8, x6_paysOf_9, x6_paysOf_10, x6_paysOf_13, x6_paysOf_48, x6_paysOf_49, x6_paysOf_50, x6_paysOf_51, x6_paysOf_52, x6_paysOf_53, x6_paysOf_54, x6_paysOf_55, x6_paysOf_56, x6_paysOf_57, x6_paysOf_58, x6_paysOf_59, x6_paysOf_60, x6_paysOf_61, x6_paysOf_62, x6_paysOf_64, x6_paysOf_65, x6_paysOf_66, x6_paysOf_67, x6_paysOf_68, i_ald, i_cV, i_get, i_iadd, i_iald, i_ic, i_ild, i_imul, i_iret, i_ist, i_isub, i_sw, oc_41, fv_41_0, fv_41_1, fv_41_2, fv_41_3, fv_41_4, ly_41_4, fv_41_5, fv_41_6, ly_41_6, fv_41_7, ly_41_7, fv_41_8, ly_41_8, fv_41_9, ly_41_9, fv_41_10, ly_41_10, fv_41_11, ly_41_11, fv_41_12, fv_41_13, fv_41_14, ly_41_14, fv_41_15, fv_41_16, fv_41_17, fv_41_18, fv_41_19, fv_41_20, fv_41_21, fv_41_22, ly_41_22, fv_41_23, ly_41_23, fv_41_24, ly_41_24, fv_41_25, ly_41_25, fv_41_26, ly_41_26, rd_42, al_42, rd_43, al_43, rd_44, al_44, rd_45, al_45, rd_46, al_46, rd_47, al_47, rd_48, al_48, rd_49, al_49, rd_50, al_50, rd_51, al_51, rd_52, al_52, rd_53, al_53, rd_54, al_54, rd_55, al_55, lck_0, lck_i, lck_r, lck_n, lck_l, csum_0, csum_i, csum_r, csum_l, pops_0, pops_s, psh_n, psh_s, List.getElem?_cons_zero, List.getElem?_cons_succ, List.set_cons_zero, List.set_cons_succ, true_and, and_true, Nat.reduceAdd, Nat.reduceLeDiff, v47, w47, ixL, S6_its, t4, ix0, ix1, ix2, ix3, ix, List.forall_mem_cons, List.not_mem_nil]
  simp only [payG, mv_3, mv_12, ix] at hQ
  have e2 : h 42 5 - 3 - h 42 5 = -3 := by grind
  simp only [Nat.add_zero, m2c]
  rw [e2] at hQ
  grind
def S6_gainsOf : Sp := fun av h Q => match av with | [.ref m, .int o] => m = 41 ∧ (0 ≤ o ∧ o < 8) ∧ Q (some (.int (gainG (mv (h 42)) (ix o)))) h | _ => False
theorem rn6_gainsOf {h : Hp} {Q : Po} {m : Nat} {o : Int32} (hS : S6_gainsOf [.ref m, .int o] h Q) : Rn (T6_gainsOf Q S6_its) (0, [some (.ref m), some (.int o), none], [], h) := by
  obtain ⟨rfl, ho, hQ⟩ := hS
  refine Rn_in C6_gainsOf 90 ?_
  simp only [x6_gainsOf_0, x6_gainsOf_1, x6_gainsOf_4, x6_gainsOf_5, x6_gainsOf_6, x6_gainsOf_7, x6_gainsOf_8, x6_gainsOf_9, x6_gainsOf_10, x6_gainsOf_13, x6_gainsOf_44, x6_gainsOf_45, x6_gainsOf_46, x6_gainsOf_47, x6_gainsOf_48, x6_gainsOf_49, x6_gainsOf_50, x6_gainsOf_51, x6_gainsOf_52, x6_gainsOf_53, x6_gainsOf_54, x6_gainsOf_55, x6_gainsOf_56, x6_gainsOf_59, x6_gainsOf_60, x6_gainsOf_61, x6_gainsOf_62, x6_gainsOf_63, x6_gainsOf_64, x6_gainsOf_65, x6_gainsOf_66, x6_gainsOf_67, x6_gainsOf_68, i_ald, i_cV, i_get, i_iadd, i_iald, i_ic, i_ild, i_imul, i_iret, i_ist, i_isub, i_sw, oc_41, fv_41_0, fv_41_1, fv_41_2, fv_41_3, fv_41_4, ly_41_4, fv_41_5, fv_41_6, ly_41_6, fv_41_7, ly_41_7, fv_41_8, ly_41_8, fv_41_9, ly_41_9, fv_41_10, ly_41_10, fv_41_11, ly_41_11, fv_41_12, fv_41_13, fv_41_14, ly_41_14, fv_41_15, fv_41_16, fv_41_17, fv_41_18, fv_41_19, fv_41_20, fv_41_21, fv_41_22, ly_41_22, fv_41_23, ly_41_23, fv_41_24, ly_41_24, fv_41_25, ly_41_25, fv_41_26, ly_41_26, rd_42, al_42, rd_43, al_43, rd_44, al_44, rd_45, al_45, rd_46, al_46, rd_47, al_47, rd_48, al_48, rd_49, al_49, rd_50, al_50, rd_51, al_51, rd_52, al_52, rd_53, al_53, rd_54, al_54, rd_55, al_55, lck_0, lck_i, lck_r, lck_n, lck_l, csum_0, csum_i, csum_r, csum_l, pops_0, pops_s, psh_n, psh_s, List.getElem?_cons_zero, List.getElem?_cons_succ, List.set_cons_zero, List.set_cons_succ, true_and, and_true, Nat.reduceAdd, Nat.reduceLeDiff, v47, w47, ixL, S6_its, t4, ix0, ix1, ix2, ix3, ix4, ix, List.forall_mem_cons, List.not_mem_nil]
  simp only [gainG, mv_3, mv_10, mv_11, ix] at hQ
  simp only [Nat.add_zero, m2c]
  grind
def S6_keptOnes : Sp := fun av h Q => match av with | [.ref m] => m = 41 ∧ InvR (mv (h 42)) ∧ Q (some (.int (hdG (mv (h 42)) (nG (mv (h 42)))))) h | _ => False
theorem lp6_keptOnes {h : Hp} {Q : Po} {n : Nat} (hn : h 42 0 = nI n) (hn8 : n ≤ 8) (hI : ∀ i, i < n → -1 ≤ mv (h 42) 6 i ∧ mv (h 42) 6 i < h 42 0) (hQ : Q (some (.int (hdG (mv (h 42)) n))) h) : ∀ d j, d + j = n → Rn (T6_keptOnes Q S6_isKept) (4, [some (.ref 41), some (.int (hdG (mv (h 42)) j)), some (.int (nI j))], [], h)
  | 0, j, e => by
    have e : j = n := by omega
    subst e
    refine Rn_go C6_keptOnes 60 ?_
    simp only [x6_keptOnes_0, x6_keptOnes_1, x6_keptOnes_2, x6_keptOnes_3, k6_keptOnes_4, t6_keptOnes_4, x6_keptOnes_5, x6_keptOnes_6, x6_keptOnes_9, x6_keptOnes_10, x6_keptOnes_11, x6_keptOnes_14, x6_keptOnes_15, x6_keptOnes_16, x6_keptOnes_17, x6_keptOnes_20, x6_keptOnes_23, x6_keptOnes_24, x6_keptOnes_25, x6_keptOnes_26, x6_keptOnes_29, x6_keptOnes_30, x6_keptOnes_31, x6_keptOnes_32, x6_keptOnes_35, x6_keptOnes_38, x6_keptOnes_39, i_ald, i_cV, i_get, i_goto, i_iald, i_ic, i_ic_ge, i_if_eq, i_ild, i_inc, i_ior, i_iret, i_ishl, i_ist, oc_41, fv_41_0, fv_41_1, fv_41_2, fv_41_3, fv_41_4, ly_41_4, fv_41_5, fv_41_6, ly_41_6, fv_41_7, ly_41_7, fv_41_8, ly_41_8, fv_41_9, ly_41_9, fv_41_10, ly_41_10, fv_41_11, ly_41_11, fv_41_12, fv_41_13, fv_41_14, ly_41_14, fv_41_15, fv_41_16, fv_41_17, fv_41_18, fv_41_19, fv_41_20, fv_41_21, fv_41_22, ly_41_22, fv_41_23, ly_41_23, fv_41_24, ly_41_24, fv_41_25, ly_41_25, fv_41_26, ly_41_26, rd_42, al_42, rd_43, al_43, rd_44, al_44, rd_45, al_45, rd_46, al_46, rd_47, al_47, rd_48, al_48, rd_49, al_49, rd_50, al_50, rd_51, al_51, rd_52, al_52, rd_53, al_53, rd_54, al_54, rd_55, al_55, lck_0, lck_i, lck_r, lck_n, lck_l, csum_0, csum_i, csum_r, csum_l, pops_0, pops_s, psh_n, psh_s, List.getElem?_cons_zero, List.getElem?_cons_succ, List.set_cons_zero, List.set_cons_succ, true_and, and_true, Nat.reduceAdd, Nat.reduceLeDiff, v47, w47, ix0, hn]
    exact ⟨fun _ => hQ, fun c => absurd (Int32.le_refl _) c⟩
  | d + 1, j, e => by
    have ih := lp6_keptOnes hn hn8 hI hQ d (j + 1) (by omega)
    rw [← nI_1] at ih
    simp only [hdG] at ih
    have hj := nlt8 (j := j) (by omega)
    have hlt : ¬ nI n ≤ nI j := nI_ge (by omega) (by omega)
    have hx : (nI j).toNatClampNeg = j := ix_nI (by omega)
    have hh := hI j (by omega)
    rw [hn] at hh
    have h8 : nI n ≤ 8 := nI_le (b := 8) (by omega) (by decide)
    refine Rn_go C6_keptOnes 60 ?_
    simp only [x6_keptOnes_0, x6_keptOnes_1, x6_keptOnes_2, x6_keptOnes_3, k6_keptOnes_4, t6_keptOnes_4, x6_keptOnes_5, x6_keptOnes_6, x6_keptOnes_9, x6_keptOnes_10, x6_keptOnes_11, x6_keptOnes_14, x6_keptOnes_15, x6_keptOnes_16, x6_keptOnes_17, x6_keptOnes_20, x6_keptOnes_23, x6_keptOnes_24, x6_keptOnes_25, x6_keptOnes_26, x6_keptOnes_29, x6_keptOnes_30, x6_keptOnes_31, x6_keptOnes_32, x6_keptOnes_35, x6_keptOnes_38, x6_keptOnes_39, i_ald, i_cV, i_get, i_goto, i_iald, i_ic, i_ic_ge, i_if_eq, i_ild, i_inc, i_ior, i_iret, i_ishl, i_ist, oc_41, fv_41_0, fv_41_1, fv_41_2, fv_41_3, fv_41_4, ly_41_4, fv_41_5, fv_41_6, ly_41_6, fv_41_7, ly_41_7, fv_41_8, ly_41_8, fv_41_9, ly_41_9, fv_41_10, ly_41_10, fv_41_11, ly_41_11, fv_41_12, fv_41_13, fv_41_14, ly_41_14, fv_41_15, fv_41_16, fv_41_17, fv_41_18, fv_41_19, fv_41_20, fv_41_21, fv_41_22, ly_41_22, fv_41_23, ly_41_23, fv_41_24, ly_41_24, fv_41_25, ly_41_25, fv_41_26, ly_41_26, rd_42, al_42, rd_43, al_43, rd_44, al_44, rd_45, al_45, rd_46, al_46, rd_47, al_47, rd_48, al_48, rd_49, al_49, rd_50, al_50, rd_51, al_51, rd_52, al_52, rd_53, al_53, rd_54, al_54, rd_55, al_55, lck_0, lck_i, lck_r, lck_n, lck_l, csum_0, csum_i, csum_r, csum_l, pops_0, pops_s, psh_n, psh_s, List.getElem?_cons_zero, List.getElem?_cons_succ, List.set_cons_zero, List.set_cons_succ, true_and, and_true, Nat.reduceAdd, Nat.reduceLeDiff, v47, w47, ix0, hn, S6_isKept, ix, hx, or0]
    refine ⟨fun c => absurd c hlt, fun _ => ⟨hj, h8, hh, fun c => ?_, fun c => ?_⟩⟩
    · rw [if_pos c] at ih
      exact ih
    · rw [if_neg c] at ih
      exact ih
theorem rn6_keptOnes {h : Hp} {Q : Po} {m : Nat} (hS : S6_keptOnes [.ref m] h Q) : Rn (T6_keptOnes Q S6_isKept) (0, [some (.ref m), none, none], [], h) := by
  obtain ⟨rfl, hI, hQ⟩ := hS
  obtain ⟨n, n8, hn, hi⟩ := cntN (x := h 42 0) hI.1.1 hI.1.2
  have hnG : nG (mv (h 42)) = n := hi
  rw [hnG] at hQ
  have := lp6_keptOnes hn n8 (fun i hi => (hI.2 i (by rw [hnG]; exact hi)).2) hQ n 0 (by omega)
  refine Rn_in C6_keptOnes 60 ?_
  simp only [x6_keptOnes_0, x6_keptOnes_1, x6_keptOnes_2, x6_keptOnes_3, k6_keptOnes_4, t6_keptOnes_4, x6_keptOnes_5, x6_keptOnes_6, x6_keptOnes_9, x6_keptOnes_10, x6_keptOnes_11, x6_keptOnes_14, x6_keptOnes_15, x6_keptOnes_16, x6_keptOnes_17, x6_keptOnes_20, x6_keptOnes_23, x6_keptOnes_24, x6_keptOnes_25, x6_keptOnes_26, x6_keptOnes_29, x6_keptOnes_30, x6_keptOnes_31, x6_keptOnes_32, x6_keptOnes_35, x6_keptOnes_38, x6_keptOnes_39, i_ald, i_cV, i_get, i_goto, i_iald, i_ic, i_ic_ge, i_if_eq, i_ild, i_inc, i_ior, i_iret, i_ishl, i_ist, oc_41, fv_41_0, fv_41_1, fv_41_2, fv_41_3, fv_41_4, ly_41_4, fv_41_5, fv_41_6, ly_41_6, fv_41_7, ly_41_7, fv_41_8, ly_41_8, fv_41_9, ly_41_9, fv_41_10, ly_41_10, fv_41_11, ly_41_11, fv_41_12, fv_41_13, fv_41_14, ly_41_14, fv_41_15, fv_41_16, fv_41_17, fv_41_18, fv_41_19, fv_41_20, fv_41_21, fv_41_22, ly_41_22, fv_41_23, ly_41_23, fv_41_24, ly_41_24, fv_41_25, ly_41_25, fv_41_26, ly_41_26, rd_42, al_42, rd_43, al_43, rd_44, al_44, rd_45, al_45, rd_46, al_46, rd_47, al_47, rd_48, al_48, rd_49, al_49, rd_50, al_50, rd_51, al_51, rd_52, al_52, rd_53, al_53, rd_54, al_54, rd_55, al_55, lck_0, lck_i, lck_r, lck_n, lck_l, csum_0, csum_i, csum_r, csum_l, pops_0, pops_s, psh_n, psh_s, List.getElem?_cons_zero, List.getElem?_cons_succ, List.set_cons_zero, List.set_cons_succ, true_and, and_true, Nat.reduceAdd, Nat.reduceLeDiff]
  exact this
def S6_graceOfAll : Sp := fun av h Q => match av with | [.ref m] => m = 41 ∧ (0 ≤ h 42 0 ∧ h 42 0 ≤ 8) ∧ Q (some (.int (grG (mv (h 42)) (nG (mv (h 42)))))) h | _ => False
theorem lp6_graceOfAll {h : Hp} {Q : Po} {n : Nat} (hn : h 42 0 = nI n) (hn8 : n ≤ 8) (hQ : Q (some (.int (grG (mv (h 42)) n))) h) : ∀ d j, d + j = n → Rn (T6_graceOfAll Q S6_its) (4, [some (.ref 41), some (.int (grG (mv (h 42)) j)), some (.int (nI j))], [], h)
  | 0, j, e => by
    have e : j = n := by omega
    subst e
    refine Rn_go C6_graceOfAll 60 ?_
    simp only [x6_graceOfAll_0, x6_graceOfAll_1, x6_graceOfAll_2, x6_graceOfAll_3, k6_graceOfAll_4, t6_graceOfAll_4, x6_graceOfAll_5, x6_graceOfAll_6, x6_graceOfAll_9, x6_graceOfAll_10, x6_graceOfAll_11, x6_graceOfAll_14, x6_graceOfAll_15, x6_graceOfAll_16, x6_graceOfAll_17, x6_graceOfAll_18, x6_graceOfAll_21, x6_graceOfAll_22, x6_graceOfAll_23, x6_graceOfAll_26, x6_graceOfAll_29, x6_graceOfAll_30, i_ald, i_cV, i_get, i_goto, i_iadd, i_iald, i_ic, i_ic_ge, i_ild, i_inc, i_iret, i_ist, oc_41, fv_41_0, fv_41_1, fv_41_2, fv_41_3, fv_41_4, ly_41_4, fv_41_5, fv_41_6, ly_41_6, fv_41_7, ly_41_7, fv_41_8, ly_41_8, fv_41_9, ly_41_9, fv_41_10, ly_41_10, fv_41_11, ly_41_11, fv_41_12, fv_41_13, fv_41_14, ly_41_14, fv_41_15, fv_41_16, fv_41_17, fv_41_18, fv_41_19, fv_41_20, fv_41_21, fv_41_22, ly_41_22, fv_41_23, ly_41_23, fv_41_24, ly_41_24, fv_41_25, ly_41_25, fv_41_26, ly_41_26, rd_42, al_42, rd_43, al_43, rd_44, al_44, rd_45, al_45, rd_46, al_46, rd_47, al_47, rd_48, al_48, rd_49, al_49, rd_50, al_50, rd_51, al_51, rd_52, al_52, rd_53, al_53, rd_54, al_54, rd_55, al_55, lck_0, lck_i, lck_r, lck_n, lck_l, csum_0, csum_i, csum_r, csum_l, pops_0, pops_s, psh_n, psh_s, List.getElem?_cons_zero, List.getElem?_cons_succ, List.set_cons_zero, List.set_cons_succ, true_and, and_true, Nat.reduceAdd, Nat.reduceLeDiff, v47, w47, ix0, hn]
    exact ⟨fun _ => hQ, fun c => absurd (Int32.le_refl _) c⟩
  | d + 1, j, e => by
    have ih := lp6_graceOfAll hn hn8 hQ d (j + 1) (by omega)
    rw [← nI_1] at ih
    simp only [grG] at ih
    have hj := nlt8 (j := j) (by omega)
    have hlt : ¬ nI n ≤ nI j := nI_ge (by omega) (by omega)
    have hx : (nI j).toNatClampNeg = j := ix_nI (by omega)
    refine Rn_go C6_graceOfAll 60 ?_
    simp only [x6_graceOfAll_0, x6_graceOfAll_1, x6_graceOfAll_2, x6_graceOfAll_3, k6_graceOfAll_4, t6_graceOfAll_4, x6_graceOfAll_5, x6_graceOfAll_6, x6_graceOfAll_9, x6_graceOfAll_10, x6_graceOfAll_11, x6_graceOfAll_14, x6_graceOfAll_15, x6_graceOfAll_16, x6_graceOfAll_17, x6_graceOfAll_18, x6_graceOfAll_21, x6_graceOfAll_22, x6_graceOfAll_23, x6_graceOfAll_26, x6_graceOfAll_29, x6_graceOfAll_30, i_ald, i_cV, i_get, i_goto, i_iadd, i_iald, i_ic, i_ic_ge, i_ild, i_inc, i_iret, i_ist, oc_41, fv_41_0, fv_41_1, fv_41_2, fv_41_3, fv_41_4, ly_41_4, fv_41_5, fv_41_6, ly_41_6, fv_41_7, ly_41_7, fv_41_8, ly_41_8, fv_41_9, ly_41_9, fv_41_10, ly_41_10, fv_41_11, ly_41_11, fv_41_12, fv_41_13, fv_41_14, ly_41_14, fv_41_15, fv_41_16, fv_41_17, fv_41_18, fv_41_19, fv_41_20, fv_41_21, fv_41_22, ly_41_22, fv_41_23, ly_41_23, fv_41_24, ly_41_24, fv_41_25, ly_41_25, fv_41_26, ly_41_26, rd_42, al_42, rd_43, al_43, rd_44, al_44, rd_45, al_45, rd_46, al_46, rd_47, al_47, rd_48, al_48, rd_49, al_49, rd_50, al_50, rd_51, al_51, rd_52, al_52, rd_53, al_53, rd_54, al_54, rd_55, al_55, lck_0, lck_i, lck_r, lck_n, lck_l, csum_0, csum_i, csum_r, csum_l, pops_0, pops_s, psh_n, psh_s, List.getElem?_cons_zero, List.getElem?_cons_succ, List.set_cons_zero, List.set_cons_succ, true_and, and_true, Nat.reduceAdd, Nat.reduceLeDiff, v47, w47, ix0, hn, S6_its, t4, ix1, ix, hx]
    exact ⟨fun c => absurd c hlt, fun _ => ⟨hj, ih⟩⟩
theorem rn6_graceOfAll {h : Hp} {Q : Po} {m : Nat} (hS : S6_graceOfAll [.ref m] h Q) : Rn (T6_graceOfAll Q S6_its) (0, [some (.ref m), none, none], [], h) := by
  obtain ⟨rfl, ⟨h0, h8⟩, hQ⟩ := hS
  obtain ⟨n, n8, hn, hi⟩ := cntN h0 h8
  have hnG : nG (mv (h 42)) = n := hi
  rw [hnG] at hQ
  have := lp6_graceOfAll hn n8 hQ n 0 (by omega)
  refine Rn_in C6_graceOfAll 60 ?_
  simp only [x6_graceOfAll_0, x6_graceOfAll_1, x6_graceOfAll_2, x6_graceOfAll_3, k6_graceOfAll_4, t6_graceOfAll_4, x6_graceOfAll_5, x6_graceOfAll_6, x6_graceOfAll_9, x6_graceOfAll_10, x6_graceOfAll_11, x6_graceOfAll_14, x6_graceOfAll_15, x6_graceOfAll_16, x6_graceOfAll_17, x6_graceOfAll_18, x6_graceOfAll_21, x6_graceOfAll_22, x6_graceOfAll_23, x6_graceOfAll_26, x6_graceOfAll_29, x6_graceOfAll_30, i_ald, i_cV, i_get, i_goto, i_iadd, i_iald, i_ic, i_ic_ge, i_ild, i_inc, i_iret, i_ist, oc_41, fv_41_0, fv_41_1, fv_41_2, fv_41_3, fv_41_4, ly_41_4, fv_41_5, fv_41_6, ly_41_6, fv_41_7, ly_41_7, fv_41_8, ly_41_8, fv_41_9, ly_41_9, fv_41_10, ly_41_10, fv_41_11, ly_41_11, fv_41_12, fv_41_13, fv_41_14, ly_41_14, fv_41_15, fv_41_16, fv_41_17, fv_41_18, fv_41_19, fv_41_20, fv_41_21, fv_41_22, ly_41_22, fv_41_23, ly_41_23, fv_41_24, ly_41_24, fv_41_25, ly_41_25, fv_41_26, ly_41_26, rd_42, al_42, rd_43, al_43, rd_44, al_44, rd_45, al_45, rd_46, al_46, rd_47, al_47, rd_48, al_48, rd_49, al_49, rd_50, al_50, rd_51, al_51, rd_52, al_52, rd_53, al_53, rd_54, al_54, rd_55, al_55, lck_0, lck_i, lck_r, lck_n, lck_l, csum_0, csum_i, csum_r, csum_l, pops_0, pops_s, psh_n, psh_s, List.getElem?_cons_zero, List.getElem?_cons_succ, List.set_cons_zero, List.set_cons_succ, true_and, and_true, Nat.reduceAdd, Nat.reduceLeDiff]
  exact this
def S6_ritesOfAll : Sp := fun av h Q => match av with | [.ref m] => m = 41 ∧ Q (some (.int (rtG (mv (h 42)) 8))) h | _ => False
theorem lp6_ritesOfAll {h : Hp} {Q : Po} (hQ : Q (some (.int (rtG (mv (h 42)) 8))) h) : ∀ d j, d + j = 8 → Rn (T6_ritesOfAll Q) (4, [some (.ref 41), some (.int (rtG (mv (h 42)) j)), some (.int (nI j))], [], h)
  | 0, j, e => by
    have e : j = 8 := by omega
    subst e
    refine Rn_go C6_ritesOfAll 60 ?_
    simp only [x6_ritesOfAll_0, x6_ritesOfAll_1, x6_ritesOfAll_2, x6_ritesOfAll_3, k6_ritesOfAll_4, t6_ritesOfAll_4, x6_ritesOfAll_5, x6_ritesOfAll_7, x6_ritesOfAll_10, x6_ritesOfAll_11, x6_ritesOfAll_12, x6_ritesOfAll_15, x6_ritesOfAll_17, x6_ritesOfAll_18, x6_ritesOfAll_19, x6_ritesOfAll_20, x6_ritesOfAll_21, x6_ritesOfAll_22, x6_ritesOfAll_25, x6_ritesOfAll_28, x6_ritesOfAll_29, i_ald, i_get, i_goto, i_iadd, i_iald, i_ic, i_ic_ge, i_ild, i_inc, i_iret, i_ist, oc_41, fv_41_0, fv_41_1, fv_41_2, fv_41_3, fv_41_4, ly_41_4, fv_41_5, fv_41_6, ly_41_6, fv_41_7, ly_41_7, fv_41_8, ly_41_8, fv_41_9, ly_41_9, fv_41_10, ly_41_10, fv_41_11, ly_41_11, fv_41_12, fv_41_13, fv_41_14, ly_41_14, fv_41_15, fv_41_16, fv_41_17, fv_41_18, fv_41_19, fv_41_20, fv_41_21, fv_41_22, ly_41_22, fv_41_23, ly_41_23, fv_41_24, ly_41_24, fv_41_25, ly_41_25, fv_41_26, ly_41_26, rd_42, al_42, rd_43, al_43, rd_44, al_44, rd_45, al_45, rd_46, al_46, rd_47, al_47, rd_48, al_48, rd_49, al_49, rd_50, al_50, rd_51, al_51, rd_52, al_52, rd_53, al_53, rd_54, al_54, rd_55, al_55, lck_0, lck_i, lck_r, lck_n, lck_l, csum_0, csum_i, csum_r, csum_l, pops_0, pops_s, psh_n, psh_s, List.getElem?_cons_zero, List.getElem?_cons_succ, List.set_cons_zero, List.set_cons_succ, true_and, and_true, Nat.reduceAdd, Nat.reduceLeDiff]
    exact ⟨fun _ => hQ, fun c => absurd (by decide) c⟩
  | d + 1, j, e => by
    have ih := lp6_ritesOfAll hQ d (j + 1) (by omega)
    rw [← nI_1] at ih
    simp only [rtG] at ih
    have hj := nlt8 (j := j) (by omega)
    have hlt : ¬ 8 ≤ nI j := Int32.not_le.mpr hj.2
    have hx : (nI j).toNatClampNeg = j := ix_nI (by omega)
    obtain ⟨r1, r2⟩ := rt_ix hj
    rw [ix_nI (by omega)] at r2
    rw [mv_2 _ (by omega)] at ih
    refine Rn_go C6_ritesOfAll 60 ?_
    simp only [x6_ritesOfAll_0, x6_ritesOfAll_1, x6_ritesOfAll_2, x6_ritesOfAll_3, k6_ritesOfAll_4, t6_ritesOfAll_4, x6_ritesOfAll_5, x6_ritesOfAll_7, x6_ritesOfAll_10, x6_ritesOfAll_11, x6_ritesOfAll_12, x6_ritesOfAll_15, x6_ritesOfAll_17, x6_ritesOfAll_18, x6_ritesOfAll_19, x6_ritesOfAll_20, x6_ritesOfAll_21, x6_ritesOfAll_22, x6_ritesOfAll_25, x6_ritesOfAll_28, x6_ritesOfAll_29, i_ald, i_get, i_goto, i_iadd, i_iald, i_ic, i_ic_ge, i_ild, i_inc, i_iret, i_ist, oc_41, fv_41_0, fv_41_1, fv_41_2, fv_41_3, fv_41_4, ly_41_4, fv_41_5, fv_41_6, ly_41_6, fv_41_7, ly_41_7, fv_41_8, ly_41_8, fv_41_9, ly_41_9, fv_41_10, ly_41_10, fv_41_11, ly_41_11, fv_41_12, fv_41_13, fv_41_14, ly_41_14, fv_41_15, fv_41_16, fv_41_17, fv_41_18, fv_41_19, fv_41_20, fv_41_21, fv_41_22, ly_41_22, fv_41_23, ly_41_23, fv_41_24, ly_41_24, fv_41_25, ly_41_25, fv_41_26, ly_41_26, rd_42, al_42, rd_43, al_43, rd_44, al_44, rd_45, al_45, rd_46, al_46, rd_47, al_47, rd_48, al_48, rd_49, al_49, rd_50, al_50, rd_51, al_51, rd_52, al_52, rd_53, al_53, rd_54, al_54, rd_55, al_55, lck_0, lck_i, lck_r, lck_n, lck_l, csum_0, csum_i, csum_r, csum_l, pops_0, pops_s, psh_n, psh_s, List.getElem?_cons_zero, List.getElem?_cons_succ, List.set_cons_zero, List.set_cons_succ, true_and, and_true, Nat.reduceAdd, Nat.reduceLeDiff, v47, r2]
    exact ⟨fun c => absurd c hlt, fun _ => ⟨r1, ih⟩⟩
theorem rn6_ritesOfAll {h : Hp} {Q : Po} {m : Nat} (hS : S6_ritesOfAll [.ref m] h Q) : Rn (T6_ritesOfAll Q) (0, [some (.ref m), none, none], [], h) := by
  obtain ⟨rfl, hQ⟩ := hS
  have := lp6_ritesOfAll hQ 8 0 (by omega)
  refine Rn_in C6_ritesOfAll 60 ?_
  simp only [x6_ritesOfAll_0, x6_ritesOfAll_1, x6_ritesOfAll_2, x6_ritesOfAll_3, k6_ritesOfAll_4, t6_ritesOfAll_4, x6_ritesOfAll_5, x6_ritesOfAll_7, x6_ritesOfAll_10, x6_ritesOfAll_11, x6_ritesOfAll_12, x6_ritesOfAll_15, x6_ritesOfAll_17, x6_ritesOfAll_18, x6_ritesOfAll_19, x6_ritesOfAll_20, x6_ritesOfAll_21, x6_ritesOfAll_22, x6_ritesOfAll_25, x6_ritesOfAll_28, x6_ritesOfAll_29, i_ald, i_get, i_goto, i_iadd, i_iald, i_ic, i_ic_ge, i_ild, i_inc, i_iret, i_ist, oc_41, fv_41_0, fv_41_1, fv_41_2, fv_41_3, fv_41_4, ly_41_4, fv_41_5, fv_41_6, ly_41_6, fv_41_7, ly_41_7, fv_41_8, ly_41_8, fv_41_9, ly_41_9, fv_41_10, ly_41_10, fv_41_11, ly_41_11, fv_41_12, fv_41_13, fv_41_14, ly_41_14, fv_41_15, fv_41_16, fv_41_17, fv_41_18, fv_41_19, fv_41_20, fv_41_21, fv_41_22, ly_41_22, fv_41_23, ly_41_23, fv_41_24, ly_41_24, fv_41_25, ly_41_25, fv_41_26, ly_41_26, rd_42, al_42, rd_43, al_43, rd_44, al_44, rd_45, al_45, rd_46, al_46, rd_47, al_47, rd_48, al_48, rd_49, al_49, rd_50, al_50, rd_51, al_51, rd_52, al_52, rd_53, al_53, rd_54, al_54, rd_55, al_55, lck_0, lck_i, lck_r, lck_n, lck_l, csum_0, csum_i, csum_r, csum_l, pops_0, pops_s, psh_n, psh_s, List.getElem?_cons_zero, List.getElem?_cons_succ, List.set_cons_zero, List.set_cons_succ, true_and, and_true, Nat.reduceAdd, Nat.reduceLeDiff]
  exact this
def S6_crowd : Sp := fun av h Q => match av with | [.ref m] => m = 41 ∧ (0 ≤ h 42 0 ∧ h 42 0 ≤ 8) ∧ Q (some (.int (cwG (mv (h 42)) 8).1)) h | _ => False
theorem lp6_crowd {h : Hp} {Q : Po} (hc : 0 ≤ h 42 0 ∧ h 42 0 ≤ 8) (hQ : Q (some (.int (cwG (mv (h 42)) 8).1)) h) : ∀ d j, d + j = 8 → ∀ y : Option Value, Rn (T6_crowd Q S6_thoseIn S6_size) (7, [some (.ref 41), some (.int (cwG (mv (h 42)) j).1), some (.int (cwG (mv (h 42)) j).2), some (.int (nI j)), y], [], h)
  | 0, j, e, y => by
    have e : j = 8 := by omega
    subst e
    refine Rn_go C6_crowd 60 ?_
    simp only [x6_crowd_0, x6_crowd_2, x6_crowd_3, x6_crowd_4, x6_crowd_5, x6_crowd_6, k6_crowd_7, t6_crowd_7, x6_crowd_8, x6_crowd_10, x6_crowd_13, x6_crowd_14, x6_crowd_15, x6_crowd_18, x6_crowd_21, x6_crowd_23, x6_crowd_25, x6_crowd_26, x6_crowd_29, x6_crowd_30, x6_crowd_33, x6_crowd_34, x6_crowd_35, x6_crowd_37, x6_crowd_38, x6_crowd_41, x6_crowd_43, x6_crowd_46, x6_crowd_47, x6_crowd_48, x6_crowd_51, x6_crowd_54, x6_crowd_55, i_ald, i_cS, i_cV, i_goto, i_ic, i_ic_ge, i_ic_le, i_ild, i_inc, i_iret, i_ist, oc_41, fv_41_0, fv_41_1, fv_41_2, fv_41_3, fv_41_4, ly_41_4, fv_41_5, fv_41_6, ly_41_6, fv_41_7, ly_41_7, fv_41_8, ly_41_8, fv_41_9, ly_41_9, fv_41_10, ly_41_10, fv_41_11, ly_41_11, fv_41_12, fv_41_13, fv_41_14, ly_41_14, fv_41_15, fv_41_16, fv_41_17, fv_41_18, fv_41_19, fv_41_20, fv_41_21, fv_41_22, ly_41_22, fv_41_23, ly_41_23, fv_41_24, ly_41_24, fv_41_25, ly_41_25, fv_41_26, ly_41_26, rd_42, al_42, rd_43, al_43, rd_44, al_44, rd_45, al_45, rd_46, al_46, rd_47, al_47, rd_48, al_48, rd_49, al_49, rd_50, al_50, rd_51, al_51, rd_52, al_52, rd_53, al_53, rd_54, al_54, rd_55, al_55, lck_0, lck_i, lck_r, lck_n, lck_l, csum_0, csum_i, csum_r, csum_l, pops_0, pops_s, psh_n, psh_s, List.getElem?_cons_zero, List.getElem?_cons_succ, List.set_cons_zero, List.set_cons_succ, true_and, and_true, Nat.reduceAdd, Nat.reduceLeDiff]
    exact ⟨fun _ => hQ, fun c => absurd (by decide) c⟩
  | d + 1, j, e, y => by
    have ih := lp6_crowd hc hQ d (j + 1) (by omega) (some (.int (pc8 (thG (mv (h 42)) (nI j) (nG (mv (h 42)))))))
    rw [← nI_1] at ih
    simp only [cwG] at ih
    have hj := nlt8 (j := j) (by omega)
    have hlt : ¬ 8 ≤ nI j := Int32.not_le.mpr hj.2
    have h2 := thG_256 (mv (h 42)) (nI j) (nGm hc)
    refine Rn_go C6_crowd 60 ?_
    simp only [x6_crowd_0, x6_crowd_2, x6_crowd_3, x6_crowd_4, x6_crowd_5, x6_crowd_6, k6_crowd_7, t6_crowd_7, x6_crowd_8, x6_crowd_10, x6_crowd_13, x6_crowd_14, x6_crowd_15, x6_crowd_18, x6_crowd_21, x6_crowd_23, x6_crowd_25, x6_crowd_26, x6_crowd_29, x6_crowd_30, x6_crowd_33, x6_crowd_34, x6_crowd_35, x6_crowd_37, x6_crowd_38, x6_crowd_41, x6_crowd_43, x6_crowd_46, x6_crowd_47, x6_crowd_48, x6_crowd_51, x6_crowd_54, x6_crowd_55, i_ald, i_cS, i_cV, i_goto, i_ic, i_ic_ge, i_ic_le, i_ild, i_inc, i_iret, i_ist, oc_41, fv_41_0, fv_41_1, fv_41_2, fv_41_3, fv_41_4, ly_41_4, fv_41_5, fv_41_6, ly_41_6, fv_41_7, ly_41_7, fv_41_8, ly_41_8, fv_41_9, ly_41_9, fv_41_10, ly_41_10, fv_41_11, ly_41_11, fv_41_12, fv_41_13, fv_41_14, ly_41_14, fv_41_15, fv_41_16, fv_41_17, fv_41_18, fv_41_19, fv_41_20, fv_41_21, fv_41_22, ly_41_22, fv_41_23, ly_41_23, fv_41_24, ly_41_24, fv_41_25, ly_41_25, fv_41_26, ly_41_26, rd_42, al_42, rd_43, al_43, rd_44, al_44, rd_45, al_45, rd_46, al_46, rd_47, al_47, rd_48, al_48, rd_49, al_49, rd_50, al_50, rd_51, al_51, rd_52, al_52, rd_53, al_53, rd_54, al_54, rd_55, al_55, lck_0, lck_i, lck_r, lck_n, lck_l, csum_0, csum_i, csum_r, csum_l, pops_0, pops_s, psh_n, psh_s, List.getElem?_cons_zero, List.getElem?_cons_succ, List.set_cons_zero, List.set_cons_succ, true_and, and_true, Nat.reduceAdd, Nat.reduceLeDiff, S6_thoseIn, S6_size]
    refine ⟨fun c => absurd c hlt, fun _ => ⟨hc, h2, fun c => ⟨fun c2 => ?_, fun c2 => absurd c c2⟩, fun c => ⟨fun c2 => absurd c2 c, fun c2 => ?_⟩⟩⟩
    · rw [if_pos c] at ih
      exact ih
    · rw [if_neg c] at ih
      exact ih
theorem rn6_crowd {h : Hp} {Q : Po} {m : Nat} (hS : S6_crowd [.ref m] h Q) : Rn (T6_crowd Q S6_thoseIn S6_size) (0, [some (.ref m), none, none, none, none], [], h) := by
  obtain ⟨rfl, hc, hQ⟩ := hS
  have := lp6_crowd hc hQ 8 0 (by omega) none
  refine Rn_in C6_crowd 60 ?_
  simp only [x6_crowd_0, x6_crowd_2, x6_crowd_3, x6_crowd_4, x6_crowd_5, x6_crowd_6, k6_crowd_7, t6_crowd_7, x6_crowd_8, x6_crowd_10, x6_crowd_13, x6_crowd_14, x6_crowd_15, x6_crowd_18, x6_crowd_21, x6_crowd_23, x6_crowd_25, x6_crowd_26, x6_crowd_29, x6_crowd_30, x6_crowd_33, x6_crowd_34, x6_crowd_35, x6_crowd_37, x6_crowd_38, x6_crowd_41, x6_crowd_43, x6_crowd_46, x6_crowd_47, x6_crowd_48, x6_crowd_51, x6_crowd_54, x6_crowd_55, i_ald, i_cS, i_cV, i_goto, i_ic, i_ic_ge, i_ic_le, i_ild, i_inc, i_iret, i_ist, oc_41, fv_41_0, fv_41_1, fv_41_2, fv_41_3, fv_41_4, ly_41_4, fv_41_5, fv_41_6, ly_41_6, fv_41_7, ly_41_7, fv_41_8, ly_41_8, fv_41_9, ly_41_9, fv_41_10, ly_41_10, fv_41_11, ly_41_11, fv_41_12, fv_41_13, fv_41_14, ly_41_14, fv_41_15, fv_41_16, fv_41_17, fv_41_18, fv_41_19, fv_41_20, fv_41_21, fv_41_22, ly_41_22, fv_41_23, ly_41_23, fv_41_24, ly_41_24, fv_41_25, ly_41_25, fv_41_26, ly_41_26, rd_42, al_42, rd_43, al_43, rd_44, al_44, rd_45, al_45, rd_46, al_46, rd_47, al_47, rd_48, al_48, rd_49, al_49, rd_50, al_50, rd_51, al_51, rd_52, al_52, rd_53, al_53, rd_54, al_54, rd_55, al_55, lck_0, lck_i, lck_r, lck_n, lck_l, csum_0, csum_i, csum_r, csum_l, pops_0, pops_s, psh_n, psh_s, List.getElem?_cons_zero, List.getElem?_cons_succ, List.set_cons_zero, List.set_cons_succ, true_and, and_true, Nat.reduceAdd, Nat.reduceLeDiff]
  exact this
