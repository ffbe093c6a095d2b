/-! pairs: rows judged -/
def S5_judge : Sp := fun av h Q => match av with | [.ref x, .int o] => Rn (T5_judge Q S1_has S1_copy S1_passOccasions S1_rowPart) (0, [some (.ref x), some (.int o), none, none], [], h) | _ => False
theorem rn5_judge {h : Hp} {Q : Po} {x : Nat} {o : Int32} (hS : S5_judge [.ref x, .int o] h Q) : Rn (T5_judge Q S1_has S1_copy S1_passOccasions S1_rowPart) (0, [some (.ref x), some (.int o), none, none], [], h) := hS
def S6_judge : Sp := fun av h Q => match av with | [.ref x, .int o] => Rn (T6_judge Q S6_isOne S6_copyRow S6_goesOn S6_its S6_thoseIn) (0, [some (.ref x), some (.int o), none, none], [], h) | _ => False
theorem rn6_judge {h : Hp} {Q : Po} {x : Nat} {o : Int32} (hS : S6_judge [.ref x, .int o] h Q) : Rn (T6_judge Q S6_isOne S6_copyRow S6_goesOn S6_its S6_thoseIn) (0, [some (.ref x), some (.int o), none, none], [], h) := hS
theorem lp5_judgeI {h : Hp} {Q : Po} {G : GG} {k n j : Nat} {g : Hp} (hk : k < nG G) (hk8 : k < 8) (hj : j < n) (hn : n ≤ 10) (hI : InvR (vg g 8)) (hG : Geq (vg g 8) (occN G (j + 1))) (fr : Fr8 h g) (bad : ∀ t, t < 3 → ¬ h 24 (3 * j + t) = rpN G k j t → Q (some (.int (nI j + 1))) g) (good : (∀ t, t < 3 → h 24 (3 * j + t) = rpN G k j t) → ∀ y, Rn (T5_judge Q S1_has S1_copy S1_passOccasions S1_rowPart) (26, [some (.ref 0), some (.int (nI k)), some (.int (nI j + 1)), y], [], g)) : ∀ d t, d + t = 3 → (∀ s, s < t → h 24 (3 * j + s) = rpN G k j s) → Rn (T5_judge Q S1_has S1_copy S1_passOccasions S1_rowPart) (44, [some (.ref 0), some (.int (nI k)), some (.int (nI j)), some (.int (nI t))], [], g)
  | 0, t, e, ha => by
    have e : t = 3 := by omega
    subst e
    have nx := good ha
    refine Rn_go C5_judge 60 ?_
    simp only [x5_judge_0, x5_judge_1, x5_judge_4, x5_judge_5, x5_judge_8, x5_judge_11, x5_judge_12, x5_judge_13, x5_judge_14, x5_judge_17, x5_judge_18, x5_judge_21, x5_judge_24, x5_judge_25, k5_judge_26, t5_judge_26, x5_judge_27, x5_judge_28, x5_judge_31, x5_judge_34, x5_judge_35, x5_judge_38, x5_judge_39, x5_judge_42, x5_judge_43, k5_judge_44, t5_judge_44, x5_judge_45, x5_judge_46, x5_judge_49, x5_judge_50, x5_judge_53, x5_judge_54, x5_judge_55, x5_judge_56, x5_judge_57, x5_judge_58, x5_judge_59, x5_judge_60, x5_judge_63, x5_judge_64, x5_judge_65, x5_judge_68, x5_judge_71, x5_judge_72, x5_judge_73, x5_judge_74, x5_judge_75, x5_judge_78, x5_judge_81, x5_judge_84, x5_judge_87, x5_judge_88, i_ald, i_cV, i_get, i_goto, i_iadd, i_iald, i_ic, i_ic_eq, i_ic_ge, i_if_ne, i_ild, i_imul, i_inc, i_iret, i_ist, oc_0, fv_0_0, fv_0_1, fv_0_2, fv_0_3, ly_0_3, fv_0_4, fv_0_5, fv_0_6, ly_0_6, fv_0_7, fv_0_8, fv_0_9, oc_1, fv_1_0, fv_1_1, fv_1_2, fv_1_3, fv_1_4, fv_1_5, fv_1_6, ly_1_6, fv_1_7, ly_1_7, fv_1_8, ly_1_8, rd_2, al_2, rd_3, al_3, rd_4, al_4, rd_5, al_5, rd_6, al_6, rd_7, al_7, oc_8, fv_8_0, fv_8_1, fv_8_2, fv_8_3, fv_8_4, fv_8_5, fv_8_6, ly_8_6, fv_8_7, ly_8_7, fv_8_8, ly_8_8, rd_9, al_9, rd_10, al_10, rd_11, al_11, rd_12, al_12, rd_13, al_13, rd_14, al_14, lck_0, lck_i, lck_r, lck_n, lck_l, csum_0, csum_i, csum_r, csum_l, pops_0, pops_s, psh_n, psh_s, List.getElem?_cons_zero, List.getElem?_cons_succ, List.set_cons_zero, List.set_cons_succ, true_and, and_true, Nat.reduceAdd, Nat.reduceLeDiff]
    exact ⟨fun _ => nx _, fun c => absurd (by decide) c⟩
  | d + 1, t, e, ha => by
    have hlt : ¬ 3 ≤ nI t := Int32.not_le.mpr (nI_lt (b := 3) (by omega) (by decide))
    have k8 := nlt8 hk8
    have hx : (nI k).toNatClampNeg = k := ix_nI (by omega)
    obtain ⟨x1, x2⟩ := rw_ix j (by omega) t (by omega)
    obtain ⟨y1, y2⟩ := n30 (c := 3 * j + t) (by omega)
    have c8 : 0 ≤ g 8 6 ∧ g 8 6 ≤ 8 := hI.1
    have ev := rp_val hG hk (show t < 3 by omega)
    have e24 : g 24 = h 24 := fr 24 (by omega)
    refine Rn_go C5_judge 60 ?_
    simp only [x5_judge_0, x5_judge_1, x5_judge_4, x5_judge_5, x5_judge_8, x5_judge_11, x5_judge_12, x5_judge_13, x5_judge_14, x5_judge_17, x5_judge_18, x5_judge_21, x5_judge_24, x5_judge_25, k5_judge_26, t5_judge_26, x5_judge_27, x5_judge_28, x5_judge_31, x5_judge_34, x5_judge_35, x5_judge_38, x5_judge_39, x5_judge_42, x5_judge_43, k5_judge_44, t5_judge_44, x5_judge_45, x5_judge_46, x5_judge_49, x5_judge_50, x5_judge_53, x5_judge_54, x5_judge_55, x5_judge_56, x5_judge_57, x5_judge_58, x5_judge_59, x5_judge_60, x5_judge_63, x5_judge_64, x5_judge_65, x5_judge_68, x5_judge_71, x5_judge_72, x5_judge_73, x5_judge_74, x5_judge_75, x5_judge_78, x5_judge_81, x5_judge_84, x5_judge_87, x5_judge_88, i_ald, i_cV, i_get, i_goto, i_iadd, i_iald, i_ic, i_ic_eq, i_ic_ge, i_if_ne, i_ild, i_imul, i_inc, i_iret, i_ist, oc_0, fv_0_0, fv_0_1, fv_0_2, fv_0_3, ly_0_3, fv_0_4, fv_0_5, fv_0_6, ly_0_6, fv_0_7, fv_0_8, fv_0_9, oc_1, fv_1_0, fv_1_1, fv_1_2, fv_1_3, fv_1_4, fv_1_5, fv_1_6, ly_1_6, fv_1_7, ly_1_7, fv_1_8, ly_1_8, rd_2, al_2, rd_3, al_3, rd_4, al_4, rd_5, al_5, rd_6, al_6, rd_7, al_7, oc_8, fv_8_0, fv_8_1, fv_8_2, fv_8_3, fv_8_4, fv_8_5, fv_8_6, ly_8_6, fv_8_7, ly_8_7, fv_8_8, ly_8_8, rd_9, al_9, rd_10, al_10, rd_11, al_11, rd_12, al_12, rd_13, al_13, rd_14, al_14, rd_24, al_24, lck_0, lck_i, lck_r, lck_n, lck_l, csum_0, csum_i, csum_r, csum_l, pops_0, pops_s, psh_n, psh_s, List.getElem?_cons_zero, List.getElem?_cons_succ, List.set_cons_zero, List.set_cons_succ, true_and, and_true, Nat.reduceAdd, Nat.reduceLeDiff, S1_rowPart, GB_8, x1, y2, v30, ix, hx, e24]
    rw [ev]
    refine ⟨fun c => absurd c hlt, fun _ => ⟨y1, k8, c8, fun c => ?_, fun c => bad t (by omega) c⟩⟩
    have ih := lp5_judgeI hk hk8 hj hn hI hG fr bad good d (t + 1) (by omega) (fun s hs => by
      rcases Nat.lt_or_ge s t with x | x
      · exact ha s x
      · rw [show s = t by omega]; exact c)
    rw [← nI_1] at ih
    exact ih
theorem lp5_judge {h : Hp} {Q : Po} {G : GG} {k n : Nat} (hk : k < nG G) (hk8 : k < 8) (hn : n ≤ 10) (h6 : h 0 6 = nI n) (hQ : ∀ g, Fr8 h g → Q (some (.int (jgF G k (h 24) n 0))) g) : ∀ d j, d + j = n → jgF G k (h 24) d j = jgF G k (h 24) n 0 → ∀ g, Fr8 h g → InvR (vg g 8) → Geq (vg g 8) (occN G j) → ∀ y, Rn (T5_judge Q S1_has S1_copy S1_passOccasions S1_rowPart) (26, [some (.ref 0), some (.int (nI k)), some (.int (nI j)), y], [], g)
  | 0, j, e, eq, g, fr, hI, hG, y => by
    have e : j = n := by omega
    subst e
    have nx := hQ g fr
    rw [← eq] at nx
    have e0 : g 0 6 = nI j := by rw [fr 0 (by omega), h6]
    refine Rn_go C5_judge 60 ?_
    simp only [x5_judge_0, x5_judge_1, x5_judge_4, x5_judge_5, x5_judge_8, x5_judge_11, x5_judge_12, x5_judge_13, x5_judge_14, x5_judge_17, x5_judge_18, x5_judge_21, x5_judge_24, x5_judge_25, k5_judge_26, t5_judge_26, x5_judge_27, x5_judge_28, x5_judge_31, x5_judge_34, x5_judge_35, x5_judge_38, x5_judge_39, x5_judge_42, x5_judge_43, k5_judge_44, t5_judge_44, x5_judge_45, x5_judge_46, x5_judge_49, x5_judge_50, x5_judge_53, x5_judge_54, x5_judge_55, x5_judge_56, x5_judge_57, x5_judge_58, x5_judge_59, x5_judge_60, x5_judge_63, x5_judge_64, x5_judge_65, x5_judge_68, x5_judge_71, x5_judge_72, x5_judge_73, x5_judge_74, x5_judge_75, x5_judge_78, x5_judge_81, x5_judge_84, x5_judge_87, x5_judge_88, i_ald, i_cV, i_get, i_goto, i_iadd, i_iald, i_ic, i_ic_eq, i_ic_ge, i_if_ne, i_ild, i_imul, i_inc, i_iret, i_ist, oc_0, fv_0_0, fv_0_1, fv_0_2, fv_0_3, ly_0_3, fv_0_4, fv_0_5, fv_0_6, ly_0_6, fv_0_7, fv_0_8, fv_0_9, oc_1, fv_1_0, fv_1_1, fv_1_2, fv_1_3, fv_1_4, fv_1_5, fv_1_6, ly_1_6, fv_1_7, ly_1_7, fv_1_8, ly_1_8, rd_2, al_2, rd_3, al_3, rd_4, al_4, rd_5, al_5, rd_6, al_6, rd_7, al_7, oc_8, fv_8_0, fv_8_1, fv_8_2, fv_8_3, fv_8_4, fv_8_5, fv_8_6, ly_8_6, fv_8_7, ly_8_7, fv_8_8, ly_8_8, rd_9, al_9, rd_10, al_10, rd_11, al_11, rd_12, al_12, rd_13, al_13, rd_14, al_14, lck_0, lck_i, lck_r, lck_n, lck_l, csum_0, csum_i, csum_r, csum_l, pops_0, pops_s, psh_n, psh_s, List.getElem?_cons_zero, List.getElem?_cons_succ, List.set_cons_zero, List.set_cons_succ, true_and, and_true, Nat.reduceAdd, Nat.reduceLeDiff, e0]
    exact ⟨fun _ => nx, fun c => absurd (Int32.le_refl _) c⟩
  | d + 1, j, e, eq, g, fr, hI, hG, y => by
    have hlt : ¬ nI n ≤ nI j := nI_ge (by omega) (by omega)
    have c8 : 0 ≤ g 8 6 ∧ g 8 6 ≤ 8 := hI.1
    have e0 : g 0 6 = nI n := by rw [fr 0 (by omega), h6]
    have f1 : Fr8 g (pg g 8 (occG (vg g 8))) := Hi8_fr (Hi8_occ1 (Hi8_0 g))
    have f2 := Fr8_t fr f1
    have eG : Geq (vg (pg g 8 (occG (vg g 8))) 8) (occN G (j + 1)) := by
      rw [vg_pg]; exact occG_c hG hI
    have iG : InvR (vg (pg g 8 (occG (vg g 8))) 8) := by rw [vg_pg]; exact inv_occ hI
    have nx := lp5_judgeI (h := h) (Q := Q) hk hk8 (j := j) (n := n) (by omega) hn iG eG f2 (fun t ht hne => by
      rw [nI_1]
      have := hQ _ f2
      rw [← eq, jgF, if_neg (fun q => by
        rcases (show t = 0 ∨ t = 1 ∨ t = 2 by omega) with rfl | rfl | rfl
        · exact hne q.1
        · exact hne q.2.1
        · exact hne q.2.2)] at this
      exact this) (fun ha => by
      rw [nI_1]
      have e2 : jgF G k (h 24) d (j + 1) = jgF G k (h 24) n 0 := by
        rw [← eq, jgF, if_pos ⟨ha 0 (by omega), ha 1 (by omega), ha 2 (by omega)⟩]
      exact fun y => lp5_judge hk hk8 hn h6 hQ d (j + 1) (by omega) e2 _ f2 iG eG y) 3 0 (by omega) (fun s hs => absurd hs (by omega))
    refine Rn_go C5_judge 60 ?_
    simp only [x5_judge_0, x5_judge_1, x5_judge_4, x5_judge_5, x5_judge_8, x5_judge_11, x5_judge_12, x5_judge_13, x5_judge_14, x5_judge_17, x5_judge_18, x5_judge_21, x5_judge_24, x5_judge_25, k5_judge_26, t5_judge_26, x5_judge_27, x5_judge_28, x5_judge_31, x5_judge_34, x5_judge_35, x5_judge_38, x5_judge_39, x5_judge_42, x5_judge_43, k5_judge_44, t5_judge_44, x5_judge_45, x5_judge_46, x5_judge_49, x5_judge_50, x5_judge_53, x5_judge_54, x5_judge_55, x5_judge_56, x5_judge_57, x5_judge_58, x5_judge_59, x5_judge_60, x5_judge_63, x5_judge_64, x5_judge_65, x5_judge_68, x5_judge_71, x5_judge_72, x5_judge_73, x5_judge_74, x5_judge_75, x5_judge_78, x5_judge_81, x5_judge_84, x5_judge_87, x5_judge_88, i_ald, i_cV, i_get, i_goto, i_iadd, i_iald, i_ic, i_ic_eq, i_ic_ge, i_if_ne, i_ild, i_imul, i_inc, i_iret, i_ist, oc_0, fv_0_0, fv_0_1, fv_0_2, fv_0_3, ly_0_3, fv_0_4, fv_0_5, fv_0_6, ly_0_6, fv_0_7, fv_0_8, fv_0_9, oc_1, fv_1_0, fv_1_1, fv_1_2, fv_1_3, fv_1_4, fv_1_5, fv_1_6, ly_1_6, fv_1_7, ly_1_7, fv_1_8, ly_1_8, rd_2, al_2, rd_3, al_3, rd_4, al_4, rd_5, al_5, rd_6, al_6, rd_7, al_7, oc_8, fv_8_0, fv_8_1, fv_8_2, fv_8_3, fv_8_4, fv_8_5, fv_8_6, ly_8_6, fv_8_7, ly_8_7, fv_8_8, ly_8_8, rd_9, al_9, rd_10, al_10, rd_11, al_11, rd_12, al_12, rd_13, al_13, rd_14, al_14, lck_0, lck_i, lck_r, lck_n, lck_l, csum_0, csum_i, csum_r, csum_l, pops_0, pops_s, psh_n, psh_s, List.getElem?_cons_zero, List.getElem?_cons_succ, List.set_cons_zero, List.set_cons_succ, true_and, and_true, Nat.reduceAdd, Nat.reduceLeDiff, S1_passOccasions, GB_8, ix1, ix, occN_1, e0]
    exact ⟨fun c => absurd c hlt, fun _ => ⟨by decide, c8, nx⟩⟩
theorem upA_x48 (h : Hp) (a s : Nat → Int32) : upA (upA h 44 a) 42 s 48 = h 48 := by
  rw [upA_ne (by decide), upA_ne (by decide)]
theorem upA_x41 (h : Hp) (a s : Nat → Int32) : upA (upA h 44 a) 42 s 41 = h 41 := by
  rw [upA_ne (by decide), upA_ne (by decide)]
theorem lp6_judge {h : Hp} {Q : Po} (hI : InvR (mv (h 42))) {k n : Nat} (hk : k < nG (mv (h 42))) (hn : n ≤ 10) (h14 : h 41 14 = nI n) : ∀ d j, d + j = n → (∀ a, Q (some (.int (jgF (mv (h 42)) k (h 48) d j))) (upA h 44 a)) → ∀ s : Nat → Int32, mv s = occN (mv (h 42)) j → (∀ c, 47 ≤ c → s c = h 42 c) → Rn (T6_judge Q S6_isOne S6_copyRow S6_goesOn S6_its S6_thoseIn) (25, [some (.ref 41), some (.int (nI k)), some (.int (nI j)), some (.int 1)], [], upA (upA h 44 (cp47 (h 42) (h 44))) 42 s)
  | 0, j, e, hQ, s, hs, hh => by
    have e : j = n := by omega
    subst e
    have nx := hQ (cp47 (h 42) (h 44))
    have bk := back42 hh
    refine Rn_go C6_judge 60 ?_
    simp only [x6_judge_0, x6_judge_1, x6_judge_2, x6_judge_5, x6_judge_8, x6_judge_9, x6_judge_10, x6_judge_11, x6_judge_14, x6_judge_15, x6_judge_18, x6_judge_21, x6_judge_22, x6_judge_23, x6_judge_24, k6_judge_25, t6_judge_25, x6_judge_26, x6_judge_27, x6_judge_30, x6_judge_33, x6_judge_34, x6_judge_37, x6_judge_38, x6_judge_41, x6_judge_42, x6_judge_45, x6_judge_46, x6_judge_47, x6_judge_48, x6_judge_49, x6_judge_50, x6_judge_51, x6_judge_52, x6_judge_55, x6_judge_58, x6_judge_59, x6_judge_62, x6_judge_63, x6_judge_64, x6_judge_65, x6_judge_66, x6_judge_67, x6_judge_68, x6_judge_69, x6_judge_70, x6_judge_71, x6_judge_74, x6_judge_77, x6_judge_78, x6_judge_81, x6_judge_82, x6_judge_83, x6_judge_84, x6_judge_85, x6_judge_86, x6_judge_87, x6_judge_88, x6_judge_90, x6_judge_93, x6_judge_96, x6_judge_97, x6_judge_100, x6_judge_101, x6_judge_102, x6_judge_105, x6_judge_108, x6_judge_109, x6_judge_112, x6_judge_113, x6_judge_116, x6_judge_119, x6_judge_120, x6_judge_123, x6_judge_124, x6_judge_127, x6_judge_128, i_ald, i_cS, i_cV, i_get, i_goto, i_iadd, i_iald, i_ic, i_ic_ge, i_ic_ne, i_if_eq, i_if_ne, i_ild, i_imul, i_inc, i_iret, i_ist, oc_41, fv_41_0, fv_41_1, fv_41_2, fv_41_3, fv_41_4, ly_41_4, fv_41_5, fv_41_6, ly_41_6, fv_41_7, ly_41_7, fv_41_8, ly_41_8, fv_41_9, ly_41_9, fv_41_10, ly_41_10, fv_41_11, ly_41_11, fv_41_12, fv_41_13, fv_41_14, ly_41_14, fv_41_15, fv_41_16, fv_41_17, fv_41_18, fv_41_19, fv_41_20, fv_41_21, fv_41_22, ly_41_22, fv_41_23, ly_41_23, fv_41_24, ly_41_24, fv_41_25, ly_41_25, fv_41_26, ly_41_26, rd_42, al_42, rd_43, al_43, rd_44, al_44, rd_45, al_45, rd_46, al_46, rd_47, al_47, rd_48, al_48, rd_49, al_49, rd_50, al_50, rd_51, al_51, rd_52, al_52, rd_53, al_53, rd_54, al_54, rd_55, al_55, lck_0, lck_i, lck_r, lck_n, lck_l, csum_0, csum_i, csum_r, csum_l, pops_0, pops_s, psh_n, psh_s, List.getElem?_cons_zero, List.getElem?_cons_succ, List.set_cons_zero, List.set_cons_succ, true_and, and_true, Nat.reduceAdd, Nat.reduceLeDiff, S6_copyRow, RW_b, upA_x41, h14, upA_44, upA_42, bk, upA_sw, ne_1_0, nn, false_implies, true_implies, implies_true, and_true, true_and, not_true_eq_false, not_false_eq_true, eq_self]
    exact ⟨fun _ => nx, fun c => absurd (Int32.le_refl _) c⟩
  | d + 1, j, e, hQ, s, hs, hh => by
    have hlt : ¬ nI n ≤ nI j := nI_ge (by omega) (by omega)
    have n8 := nG_8 hI
    have k8 := nlt8 (j := k) (by omega)
    have hx : (nI k).toNatClampNeg = k := ix_nI (by omega)
    obtain ⟨x0, x1, x2⟩ := rw_ix3 j (by omega)
    obtain ⟨y1, y2⟩ := n30 (c := 3 * j) (by omega)
    obtain ⟨z1, z2⟩ := n30 (c := 3 * j + 1) (by omega)
    obtain ⟨v1, v2⟩ := n30 (c := 3 * j + 2) (by omega)
    have hIj := inv_occN hI j
    rw [← hs] at hIj
    have bad : ∀ s1 : Nat → Int32, (∀ c, 47 ≤ c → s1 c = h 42 c) → ¬ (h 48 (3 * j) = rpN (mv (h 42)) k j 0 ∧ h 48 (3 * j + 1) = rpN (mv (h 42)) k j 1 ∧ h 48 (3 * j + 2) = rpN (mv (h 42)) k j 2) → Rn (T6_judge Q S6_isOne S6_copyRow S6_goesOn S6_its S6_thoseIn) (25, [some (.ref 41), some (.int (nI k)), some (.int (nI j + 1)), some (.int 0)], [], upA (upA h 44 (cp47 (h 42) (h 44))) 42 s1) := by
      intro s1 hh1 hne
      have nx := hQ (cp47 (h 42) (h 44))
      rw [jgF, if_neg hne, ← nI_1] at nx
      have bk := back42 hh1
      refine Rn_go C6_judge 60 ?_
      simp only [x6_judge_0, x6_judge_1, x6_judge_2, x6_judge_5, x6_judge_8, x6_judge_9, x6_judge_10, x6_judge_11, x6_judge_14, x6_judge_15, x6_judge_18, x6_judge_21, x6_judge_22, x6_judge_23, x6_judge_24, k6_judge_25, t6_judge_25, x6_judge_26, x6_judge_27, x6_judge_30, x6_judge_33, x6_judge_34, x6_judge_37, x6_judge_38, x6_judge_41, x6_judge_42, x6_judge_45, x6_judge_46, x6_judge_47, x6_judge_48, x6_judge_49, x6_judge_50, x6_judge_51, x6_judge_52, x6_judge_55, x6_judge_58, x6_judge_59, x6_judge_62, x6_judge_63, x6_judge_64, x6_judge_65, x6_judge_66, x6_judge_67, x6_judge_68, x6_judge_69, x6_judge_70, x6_judge_71, x6_judge_74, x6_judge_77, x6_judge_78, x6_judge_81, x6_judge_82, x6_judge_83, x6_judge_84, x6_judge_85, x6_judge_86, x6_judge_87, x6_judge_88, x6_judge_90, x6_judge_93, x6_judge_96, x6_judge_97, x6_judge_100, x6_judge_101, x6_judge_102, x6_judge_105, x6_judge_108, x6_judge_109, x6_judge_112, x6_judge_113, x6_judge_116, x6_judge_119, x6_judge_120, x6_judge_123, x6_judge_124, x6_judge_127, x6_judge_128, i_ald, i_cS, i_cV, i_get, i_goto, i_iadd, i_iald, i_ic, i_ic_ge, i_ic_ne, i_if_eq, i_if_ne, i_ild, i_imul, i_inc, i_iret, i_ist, oc_41, fv_41_0, fv_41_1, fv_41_2, fv_41_3, fv_41_4, ly_41_4, fv_41_5, fv_41_6, ly_41_6, fv_41_7, ly_41_7, fv_41_8, ly_41_8, fv_41_9, ly_41_9, fv_41_10, ly_41_10, fv_41_11, ly_41_11, fv_41_12, fv_41_13, fv_41_14, ly_41_14, fv_41_15, fv_41_16, fv_41_17, fv_41_18, fv_41_19, fv_41_20, fv_41_21, fv_41_22, ly_41_22, fv_41_23, ly_41_23, fv_41_24, ly_41_24, fv_41_25, ly_41_25, fv_41_26, ly_41_26, rd_42, al_42, rd_43, al_43, rd_44, al_44, rd_45, al_45, rd_46, al_46, rd_47, al_47, rd_48, al_48, rd_49, al_49, rd_50, al_50, rd_51, al_51, rd_52, al_52, rd_53, al_53, rd_54, al_54, rd_55, al_55, lck_0, lck_i, lck_r, lck_n, lck_l, csum_0, csum_i, csum_r, csum_l, pops_0, pops_s, psh_n, psh_s, List.getElem?_cons_zero, List.getElem?_cons_succ, List.set_cons_zero, List.set_cons_succ, true_and, and_true, Nat.reduceAdd, Nat.reduceLeDiff, S6_copyRow, RW_b, upA_x41, h14, upA_44, upA_42, bk, upA_sw, nn, false_implies, true_implies, implies_true, and_true, true_and, not_true_eq_false, not_false_eq_true, eq_self]
      exact ⟨fun _ => nx, fun _ => nx⟩
    refine Rn_go C6_judge 60 ?_
    simp only [x6_judge_0, x6_judge_1, x6_judge_2, x6_judge_5, x6_judge_8, x6_judge_9, x6_judge_10, x6_judge_11, x6_judge_14, x6_judge_15, x6_judge_18, x6_judge_21, x6_judge_22, x6_judge_23, x6_judge_24, k6_judge_25, t6_judge_25, x6_judge_26, x6_judge_27, x6_judge_30, x6_judge_33, x6_judge_34, x6_judge_37, x6_judge_38, x6_judge_41, x6_judge_42, x6_judge_45, x6_judge_46, x6_judge_47, x6_judge_48, x6_judge_49, x6_judge_50, x6_judge_51, x6_judge_52, x6_judge_55, x6_judge_58, x6_judge_59, x6_judge_62, x6_judge_63, x6_judge_64, x6_judge_65, x6_judge_66, x6_judge_67, x6_judge_68, x6_judge_69, x6_judge_70, x6_judge_71, x6_judge_74, x6_judge_77, x6_judge_78, x6_judge_81, x6_judge_82, x6_judge_83, x6_judge_84, x6_judge_85, x6_judge_86, x6_judge_87, x6_judge_88, x6_judge_90, x6_judge_93, x6_judge_96, x6_judge_97, x6_judge_100, x6_judge_101, x6_judge_102, x6_judge_105, x6_judge_108, x6_judge_109, x6_judge_112, x6_judge_113, x6_judge_116, x6_judge_119, x6_judge_120, x6_judge_123, x6_judge_124, x6_judge_127, x6_judge_128, i_ald, i_cS, i_cV, i_get, i_goto, i_iadd, i_iald, i_ic, i_ic_ge, i_ic_ne, i_if_eq, i_if_ne, i_ild, i_imul, i_inc, i_iret, i_ist, oc_41, fv_41_0, fv_41_1, fv_41_2, fv_41_3, fv_41_4, ly_41_4, fv_41_5, fv_41_6, ly_41_6, fv_41_7, ly_41_7, fv_41_8, ly_41_8, fv_41_9, ly_41_9, fv_41_10, ly_41_10, fv_41_11, ly_41_11, fv_41_12, fv_41_13, fv_41_14, ly_41_14, fv_41_15, fv_41_16, fv_41_17, fv_41_18, fv_41_19, fv_41_20, fv_41_21, fv_41_22, ly_41_22, fv_41_23, ly_41_23, fv_41_24, ly_41_24, fv_41_25, ly_41_25, fv_41_26, ly_41_26, rd_42, al_42, rd_43, al_43, rd_44, al_44, rd_45, al_45, rd_46, al_46, rd_47, al_47, rd_48, al_48, rd_49, al_49, rd_50, al_50, rd_51, al_51, rd_52, al_52, rd_53, al_53, rd_54, al_54, rd_55, al_55, lck_0, lck_i, lck_r, lck_n, lck_l, csum_0, csum_i, csum_r, csum_l, pops_0, pops_s, psh_n, psh_s, List.getElem?_cons_zero, List.getElem?_cons_succ, List.set_cons_zero, List.set_cons_succ, true_and, and_true, Nat.reduceAdd, Nat.reduceLeDiff, S6_goesOn, S6_its, S6_thoseIn, upA_42, upA_same, upA_x48, upA_x41, h14, x0, x1, x2, y1, z1, v1, y2, z2, v2, v30, t4, ix1, ix2, k8, ix, hx, ne_1_0, nn, false_implies, true_implies, implies_true, and_true, true_and, not_true_eq_false, not_false_eq_true, eq_self]
    refine ⟨fun c => absurd c hlt, fun _ => ⟨hIj, fun s1 a1 a2 => ?_⟩⟩
    have e1 : mv s1 = occN (mv (h 42)) (j + 1) := by rw [a1, hs]; rfl
    have c8 : 0 ≤ s1 0 ∧ s1 0 ≤ 8 := by
      have := (inv_occN hI (j + 1)).1
      rw [← e1] at this
      exact this
    have w0 : s1 (15 + 4 * k + 2) = rpN (mv (h 42)) k j 0 := by
      rw [← mv_5 s1 k, e1]; rfl
    have w1 : s1 (15 + 4 * k + 1) = rpN (mv (h 42)) k j 1 := by
      rw [← mv_4 s1 k, e1]; rfl
    have w2 : thG (mv s1) 8 (nG (mv s1)) = rpN (mv (h 42)) k j 2 := by
      rw [e1, occN_n]; rfl
    have hh1 : ∀ c, 47 ≤ c → s1 c = h 42 c := fun c hc => by rw [a2 c hc]; exact hh c hc
    rw [w0, w1, w2]
    refine ⟨fun c => bad s1 hh1 (fun q => c q.1), fun c => ⟨fun d1 => bad s1 hh1 (fun q => d1 q.2.1), fun d1 => ⟨c8, fun d2 => bad s1 hh1 (fun q => d2 q.2.2), fun d2 => ?_⟩⟩⟩
    have e2 : jgF (mv (h 42)) k (h 48) (d + 1) j = jgF (mv (h 42)) k (h 48) d (j + 1) := by rw [jgF, if_pos ⟨c, d1, d2⟩]
    rw [e2] at hQ
    have ih := lp6_judge hI hk hn h14 d (j + 1) (by omega) hQ s1 e1 hh1
    rw [← nI_1] at ih
    exact ih
theorem pr_judge {h : Hp} (r : Rel h) (o : Int32) : S5_judge [.ref 0, .int o] h (fun rv h1 => S6_judge [.ref 41, .int o] h1 (fun rw h2 => rw = rv ∧ Rel h2)) := by
  obtain ⟨g0, g1, g2, g3, g4⟩ := raw r
  have hI := r.1.2.1
  have iM := InvR_c r.1.1 hI
  by_cases c : 0 ≤ o ∧ o < h 1 6
  · obtain ⟨o8, hn, q1, q2, q3, q4⟩ := g4 o c.1 c.2
    have c2 : 0 ≤ o ∧ o < h 42 0 := by rw [← g0.1]; exact c
    obtain ⟨k, hk, rfl⟩ := of8 o8.1 o8.2
    have hx2 : (nI k).toNatClampNeg = k := ix_nI (by omega)
    rw [show ix (nI k) = k from hx2] at hn
    have e6 : h 0 6 = h 41 14 := r.2.2.2.1.1
    have b6 := r.2.2.2.1.2.1
    obtain ⟨n, hm, en⟩ : ∃ n, n ≤ 10 ∧ h 0 6 = nI n := by
      have := ix_lt (n := 11) b6.1 (show h 0 6 < (11 : Int32) by grind) (by decide)
      exact ⟨ix (h 0 6), by omega, (nI_ix b6.1).symm⟩
    have eq := r.2.2.2.1.2.2
    rw [en, ix_nI (by omega)] at eq
    have eJ := jgF_c r.1.1 hI hn (b := h 24) (c := h 48) n 0 (fun j hj => eq j (by omega))
    have key : ∀ g, Fr8 h g → S6_judge [.ref 41, .int (nI k)] g (fun rw h2 => rw = some (.int (jgF (vg h 1) k (h 24) n 0)) ∧ Rel h2) := by
      intro g f
      have r1 := Rel_8 r f
      have e42 : g 42 = h 42 := f 42 (by omega)
      have e48 : g 48 = h 48 := f 48 (by omega)
      have e41 : g 41 = h 41 := f 41 (by omega)
      have nx := lp6_judge (h := g) (Q := fun rw h2 => rw = some (.int (jgF (vg h 1) k (h 24) n 0)) ∧ Rel h2) (by rw [e42]; exact iM) (k := k) (n := n) (by rw [e42, ← Geq_n r.1.1]; exact hn) hm (by rw [e41, ← e6, en]) n 0 (by omega) (fun a => ⟨by rw [e42, e48, eJ], Rel_44 r1 a⟩) (g 42) rfl (fun _ _ => rfl)
      rw [upA_4442b] at nx
      refine Rn_in C6_judge 60 ?_
      simp only [x6_judge_0, x6_judge_1, x6_judge_2, x6_judge_5, x6_judge_8, x6_judge_9, x6_judge_10, x6_judge_11, x6_judge_14, x6_judge_15, x6_judge_18, x6_judge_21, x6_judge_22, x6_judge_23, x6_judge_24, k6_judge_25, t6_judge_25, x6_judge_26, x6_judge_27, x6_judge_30, x6_judge_33, x6_judge_34, x6_judge_37, x6_judge_38, x6_judge_41, x6_judge_42, x6_judge_45, x6_judge_46, x6_judge_47, x6_judge_48, x6_judge_49, x6_judge_50, x6_judge_51, x6_judge_52, x6_judge_55, x6_judge_58, x6_judge_59, x6_judge_62, x6_judge_63, x6_judge_64, x6_judge_65, x6_judge_66, x6_judge_67, x6_judge_68, x6_judge_69, x6_judge_70, x6_judge_71, x6_judge_74, x6_judge_77, x6_judge_78, x6_judge_81, x6_judge_82, x6_judge_83, x6_judge_84, x6_judge_85, x6_judge_86, x6_judge_87, x6_judge_88, x6_judge_90, x6_judge_93, x6_judge_96, x6_judge_97, x6_judge_100, x6_judge_101, x6_judge_102, x6_judge_105, x6_judge_108, x6_judge_109, x6_judge_112, x6_judge_113, x6_judge_116, x6_judge_119, x6_judge_120, x6_judge_123, x6_judge_124, x6_judge_127, x6_judge_128, i_ald, i_cS, i_cV, i_get, i_goto, i_iadd, i_iald, i_ic, i_ic_ge, i_ic_ne, i_if_eq, i_if_ne, i_ild, i_imul, i_inc, i_iret, i_ist, oc_41, fv_41_0, fv_41_1, fv_41_2, fv_41_3, fv_41_4, ly_41_4, fv_41_5, fv_41_6, ly_41_6, fv_41_7, ly_41_7, fv_41_8, ly_41_8, fv_41_9, ly_41_9, fv_41_10, ly_41_10, fv_41_11, ly_41_11, fv_41_12, fv_41_13, fv_41_14, ly_41_14, fv_41_15, fv_41_16, fv_41_17, fv_41_18, fv_41_19, fv_41_20, fv_41_21, fv_41_22, ly_41_22, fv_41_23, ly_41_23, fv_41_24, ly_41_24, fv_41_25, ly_41_25, fv_41_26, ly_41_26, rd_42, al_42, rd_43, al_43, rd_44, al_44, rd_45, al_45, rd_46, al_46, rd_47, al_47, rd_48, al_48, rd_49, al_49, rd_50, al_50, rd_51, al_51, rd_52, al_52, rd_53, al_53, rd_54, al_54, rd_55, al_55, lck_0, lck_i, lck_r, lck_n, lck_l, csum_0, csum_i, csum_r, csum_l, pops_0, pops_s, psh_n, psh_s, List.getElem?_cons_zero, List.getElem?_cons_succ, List.set_cons_zero, List.set_cons_succ, true_and, and_true, Nat.reduceAdd, Nat.reduceLeDiff, S6_isOne, S6_copyRow, RW_a, hsB_0, e42, c2, nn, false_implies, true_implies, implies_true, and_true, true_and, not_true_eq_false, not_false_eq_true, eq_self]
      rw [e42] at nx
      exact nx
    obtain ⟨eC, iC⟩ := cp8 h hI
    have hC := Hi8_fr (Hi8_cp (vg h 8) (vg h 1) (Hi8_0 h))
    have nx := lp5_judge (h := h) (Q := fun rv h1 => S6_judge [.ref 41, .int (nI k)] h1 (fun rw h2 => rw = rv ∧ Rel h2)) hn hk hm en key n 0 (by omega) rfl (pg h 8 (cpG (vg h 8) (vg h 1))) hC (by rw [vg_pg]; exact iC) (by rw [vg_pg]; exact eC) none
    refine Rn_in C5_judge 60 ?_
    simp only [x5_judge_0, x5_judge_1, x5_judge_4, x5_judge_5, x5_judge_8, x5_judge_11, x5_judge_12, x5_judge_13, x5_judge_14, x5_judge_17, x5_judge_18, x5_judge_21, x5_judge_24, x5_judge_25, k5_judge_26, t5_judge_26, x5_judge_27, x5_judge_28, x5_judge_31, x5_judge_34, x5_judge_35, x5_judge_38, x5_judge_39, x5_judge_42, x5_judge_43, k5_judge_44, t5_judge_44, x5_judge_45, x5_judge_46, x5_judge_49, x5_judge_50, x5_judge_53, x5_judge_54, x5_judge_55, x5_judge_56, x5_judge_57, x5_judge_58, x5_judge_59, x5_judge_60, x5_judge_63, x5_judge_64, x5_judge_65, x5_judge_68, x5_judge_71, x5_judge_72, x5_judge_73, x5_judge_74, x5_judge_75, x5_judge_78, x5_judge_81, x5_judge_84, x5_judge_87, x5_judge_88, i_ald, i_cV, i_get, i_goto, i_iadd, i_iald, i_ic, i_ic_eq, i_ic_ge, i_if_ne, i_ild, i_imul, i_inc, i_iret, i_ist, oc_0, fv_0_0, fv_0_1, fv_0_2, fv_0_3, ly_0_3, fv_0_4, fv_0_5, fv_0_6, ly_0_6, fv_0_7, fv_0_8, fv_0_9, oc_1, fv_1_0, fv_1_1, fv_1_2, fv_1_3, fv_1_4, fv_1_5, fv_1_6, ly_1_6, fv_1_7, ly_1_7, fv_1_8, ly_1_8, rd_2, al_2, rd_3, al_3, rd_4, al_4, rd_5, al_5, rd_6, al_6, rd_7, al_7, oc_8, fv_8_0, fv_8_1, fv_8_2, fv_8_3, fv_8_4, fv_8_5, fv_8_6, ly_8_6, fv_8_7, ly_8_7, fv_8_8, ly_8_8, rd_9, al_9, rd_10, al_10, rd_11, al_11, rd_12, al_12, rd_13, al_13, rd_14, al_14, lck_0, lck_i, lck_r, lck_n, lck_l, csum_0, csum_i, csum_r, csum_l, pops_0, pops_s, psh_n, psh_s, List.getElem?_cons_zero, List.getElem?_cons_succ, List.set_cons_zero, List.set_cons_succ, true_and, and_true, Nat.reduceAdd, Nat.reduceLeDiff, S1_has, S1_copy, CP_81, GB_1, b2_0, c, nn, false_implies, true_implies, implies_true, and_true, true_and, not_true_eq_false, not_false_eq_true, eq_self]
    exact nx
  · have c2 : ¬ (0 ≤ o ∧ o < h 42 0) := by rw [← g0.1]; exact c
    refine Rn_in C5_judge 60 ?_
    simp only [x5_judge_0, x5_judge_1, x5_judge_4, x5_judge_5, x5_judge_8, x5_judge_11, x5_judge_12, x5_judge_13, x5_judge_14, x5_judge_17, x5_judge_18, x5_judge_21, x5_judge_24, x5_judge_25, k5_judge_26, t5_judge_26, x5_judge_27, x5_judge_28, x5_judge_31, x5_judge_34, x5_judge_35, x5_judge_38, x5_judge_39, x5_judge_42, x5_judge_43, k5_judge_44, t5_judge_44, x5_judge_45, x5_judge_46, x5_judge_49, x5_judge_50, x5_judge_53, x5_judge_54, x5_judge_55, x5_judge_56, x5_judge_57, x5_judge_58, x5_judge_59, x5_judge_60, x5_judge_63, x5_judge_64, x5_judge_65, x5_judge_68, x5_judge_71, x5_judge_72, x5_judge_73, x5_judge_74, x5_judge_75, x5_judge_78, x5_judge_81, x5_judge_84, x5_judge_87, x5_judge_88, i_ald, i_cV, i_get, i_goto, i_iadd, i_iald, i_ic, i_ic_eq, i_ic_ge, i_if_ne, i_ild, i_imul, i_inc, i_iret, i_ist, oc_0, fv_0_0, fv_0_1, fv_0_2, fv_0_3, ly_0_3, fv_0_4, fv_0_5, fv_0_6, ly_0_6, fv_0_7, fv_0_8, fv_0_9, oc_1, fv_1_0, fv_1_1, fv_1_2, fv_1_3, fv_1_4, fv_1_5, fv_1_6, ly_1_6, fv_1_7, ly_1_7, fv_1_8, ly_1_8, rd_2, al_2, rd_3, al_3, rd_4, al_4, rd_5, al_5, rd_6, al_6, rd_7, al_7, oc_8, fv_8_0, fv_8_1, fv_8_2, fv_8_3, fv_8_4, fv_8_5, fv_8_6, ly_8_6, fv_8_7, ly_8_7, fv_8_8, ly_8_8, rd_9, al_9, rd_10, al_10, rd_11, al_11, rd_12, al_12, rd_13, al_13, rd_14, al_14, lck_0, lck_i, lck_r, lck_n, lck_l, csum_0, csum_i, csum_r, csum_l, pops_0, pops_s, psh_n, psh_s, List.getElem?_cons_zero, List.getElem?_cons_succ, List.set_cons_zero, List.set_cons_succ, true_and, and_true, Nat.reduceAdd, Nat.reduceLeDiff, S1_has, GB_1, b2_0, c, nn, false_implies, true_implies, implies_true, and_true, true_and, not_true_eq_false, not_false_eq_true, eq_self]
    refine Rn_in C6_judge 60 ?_
    simp only [x6_judge_0, x6_judge_1, x6_judge_2, x6_judge_5, x6_judge_8, x6_judge_9, x6_judge_10, x6_judge_11, x6_judge_14, x6_judge_15, x6_judge_18, x6_judge_21, x6_judge_22, x6_judge_23, x6_judge_24, k6_judge_25, t6_judge_25, x6_judge_26, x6_judge_27, x6_judge_30, x6_judge_33, x6_judge_34, x6_judge_37, x6_judge_38, x6_judge_41, x6_judge_42, x6_judge_45, x6_judge_46, x6_judge_47, x6_judge_48, x6_judge_49, x6_judge_50, x6_judge_51, x6_judge_52, x6_judge_55, x6_judge_58, x6_judge_59, x6_judge_62, x6_judge_63, x6_judge_64, x6_judge_65, x6_judge_66, x6_judge_67, x6_judge_68, x6_judge_69, x6_judge_70, x6_judge_71, x6_judge_74, x6_judge_77, x6_judge_78, x6_judge_81, x6_judge_82, x6_judge_83, x6_judge_84, x6_judge_85, x6_judge_86, x6_judge_87, x6_judge_88, x6_judge_90, x6_judge_93, x6_judge_96, x6_judge_97, x6_judge_100, x6_judge_101, x6_judge_102, x6_judge_105, x6_judge_108, x6_judge_109, x6_judge_112, x6_judge_113, x6_judge_116, x6_judge_119, x6_judge_120, x6_judge_123, x6_judge_124, x6_judge_127, x6_judge_128, i_ald, i_cS, i_cV, i_get, i_goto, i_iadd, i_iald, i_ic, i_ic_ge, i_ic_ne, i_if_eq, i_if_ne, i_ild, i_imul, i_inc, i_iret, i_ist, oc_41, fv_41_0, fv_41_1, fv_41_2, fv_41_3, fv_41_4, ly_41_4, fv_41_5, fv_41_6, ly_41_6, fv_41_7, ly_41_7, fv_41_8, ly_41_8, fv_41_9, ly_41_9, fv_41_10, ly_41_10, fv_41_11, ly_41_11, fv_41_12, fv_41_13, fv_41_14, ly_41_14, fv_41_15, fv_41_16, fv_41_17, fv_41_18, fv_41_19, fv_41_20, fv_41_21, fv_41_22, ly_41_22, fv_41_23, ly_41_23, fv_41_24, ly_41_24, fv_41_25, ly_41_25, fv_41_26, ly_41_26, rd_42, al_42, rd_43, al_43, rd_44, al_44, rd_45, al_45, rd_46, al_46, rd_47, al_47, rd_48, al_48, rd_49, al_49, rd_50, al_50, rd_51, al_51, rd_52, al_52, rd_53, al_53, rd_54, al_54, rd_55, al_55, lck_0, lck_i, lck_r, lck_n, lck_l, csum_0, csum_i, csum_r, csum_l, pops_0, pops_s, psh_n, psh_s, List.getElem?_cons_zero, List.getElem?_cons_succ, List.set_cons_zero, List.set_cons_succ, true_and, and_true, Nat.reduceAdd, Nat.reduceLeDiff, S6_isOne, hsB_0, c2, nn, false_implies, true_implies, implies_true, and_true, true_and, not_true_eq_false, not_false_eq_true, eq_self]
    exact r
