/-! pairs: by which rite left off, waiting for whom -/
def rfF (G : GG) (i : Nat) : Nat → Int32 × Nat
  | 0 => (-3, tmN G i)
  | j + 1 => if tmN (up2 G 2 j 0) i < (rfF G i j).2 then (nI j, tmN (up2 G 2 j 0) i) else rfF G i j
theorem rfF_le (G : GG) (i : Nat) : ∀ j, (rfF G i j).2 ≤ 61
  | 0 => tmN_le _ _
  | j + 1 => by
    simp only [rfF]
    split
    · exact tmN_le _ _
    · exact rfF_le G i j
theorem rfF_c {G H : GG} (h : Geq G H) (hi : InvG G) {i : Nat} (hn : i < nG G) : ∀ j, rfF G i j = rfF H i j
  | 0 => by simp only [rfF]; rw [tmN_c h hi.1 hn]
  | j + 1 => by
    simp only [rfF]
    rw [rfF_c h hi hn j, tmN_c (Geq_up h (j := 2) j 0 (by simp)) (InvR_n hi.1 (by decide)) (by rw [upd_count (by simp)]; exact hn)]
def S5_riteFor : Sp := fun av h Q => match av with | [.ref x, .int o] => Rn (T5_riteFor Q S1_has S5_timeNow S1_copy S1_timeTo) (0, [some (.ref x), some (.int o), none, none, none, none], [], h) | _ => False
theorem rn5_riteFor {h : Hp} {Q : Po} {x : Nat} {o : Int32} (hS : S5_riteFor [.ref x, .int o] h Q) : Rn (T5_riteFor Q S1_has S5_timeNow S1_copy S1_timeTo) (0, [some (.ref x), some (.int o), none, none, none, none], [], h) := hS
def S6_riteFor : Sp := fun av h Q => match av with | [.ref x, .int o] => Rn (T6_riteFor Q S6_isOne S6_passesBy S6_becomes) (0, [some (.ref x), some (.int o), none, none, none, none, none], [], h) | _ => False
theorem rn6_riteFor {h : Hp} {Q : Po} {x : Nat} {o : Int32} (hS : S6_riteFor [.ref x, .int o] h Q) : Rn (T6_riteFor Q S6_isOne S6_passesBy S6_becomes) (0, [some (.ref x), some (.int o), none, none, none, none, none], [], h) := hS
theorem lp5_riteFor {h : Hp} {Q : Po} (hI : InvG (vg h 1)) {k : Nat} (hn : k < nG (vg h 1)) (hQ : ∀ h1, Fr8 h h1 → Q (some (.int (rfF (vg h 1) k 8).1)) h1) : ∀ d j, d + j = 8 → ∀ G, Hi8 h G → ∀ y, Rn (T5_riteFor Q S1_has S5_timeNow S1_copy S1_timeTo) (25, [some (.ref 0), some (.int (nI k)), some (.int (rfF (vg h 1) k j).1), some (.int (nI (rfF (vg h 1) k j).2)), some (.int (nI j)), y], [], pg h 8 G)
  | 0, j, e, G, hG, y => by
    have e : j = 8 := by omega
    subst e
    have nx := hQ _ (Hi8_fr hG)
    refine Rn_go C5_riteFor 60 ?_
    simp only [x5_riteFor_0, x5_riteFor_1, x5_riteFor_4, x5_riteFor_5, x5_riteFor_8, x5_riteFor_11, x5_riteFor_12, x5_riteFor_13, x5_riteFor_15, x5_riteFor_16, x5_riteFor_17, x5_riteFor_18, x5_riteFor_21, x5_riteFor_22, x5_riteFor_23, k5_riteFor_25, t5_riteFor_25, x5_riteFor_27, x5_riteFor_29, x5_riteFor_32, x5_riteFor_33, x5_riteFor_36, x5_riteFor_37, x5_riteFor_40, x5_riteFor_43, x5_riteFor_44, x5_riteFor_47, x5_riteFor_50, x5_riteFor_52, x5_riteFor_53, x5_riteFor_54, x5_riteFor_55, x5_riteFor_58, x5_riteFor_59, x5_riteFor_61, x5_riteFor_63, x5_riteFor_66, x5_riteFor_68, x5_riteFor_70, x5_riteFor_71, x5_riteFor_74, x5_riteFor_76, x5_riteFor_77, x5_riteFor_79, x5_riteFor_80, x5_riteFor_83, x5_riteFor_86, x5_riteFor_87, i_ald, i_cV, i_get, i_goto, i_iast, i_ic, i_ic_ge, i_if_ne, i_ild, i_inc, i_iret, i_ist, oc_0, fv_0_0, fv_0_1, fv_0_2, fv_0_3, ly_0_3, fv_0_4, fv_0_5, fv_0_6, ly_0_6, fv_0_7, fv_0_8, fv_0_9, oc_1, fv_1_0, fv_1_1, fv_1_2, fv_1_3, fv_1_4, fv_1_5, fv_1_6, ly_1_6, fv_1_7, ly_1_7, fv_1_8, ly_1_8, rd_2, al_2, rd_3, al_3, rd_4, al_4, rd_5, al_5, rd_6, al_6, rd_7, al_7, oc_8, fv_8_0, fv_8_1, fv_8_2, fv_8_3, fv_8_4, fv_8_5, fv_8_6, ly_8_6, fv_8_7, ly_8_7, fv_8_8, ly_8_8, rd_9, al_9, rd_10, al_10, rd_11, al_11, rd_12, al_12, rd_13, al_13, rd_14, al_14, lck_0, lck_i, lck_r, lck_n, lck_l, csum_0, csum_i, csum_r, csum_l, pops_0, pops_s, psh_n, psh_s, List.getElem?_cons_zero, List.getElem?_cons_succ, List.set_cons_zero, List.set_cons_succ, true_and, and_true, Nat.reduceAdd, Nat.reduceLeDiff]
    exact ⟨fun _ => nx, fun c => absurd (by decide) c⟩
  | d + 1, j, e, G, hG, y => by
    have ih := lp5_riteFor hI hn hQ d (j + 1) (by omega)
    rw [← nI_1] at ih
    have k8 := nG_8 hI.1
    have i8 := nlt8 (j := k) (by omega)
    have j8 := nlt8 (j := j) (by omega)
    have hx : (nI k).toNatClampNeg = k := ix_nI (by omega)
    have hxj : (nI j).toNatClampNeg = j := ix_nI (by omega)
    have hlt : ¬ 8 ≤ nI j := Int32.not_le.mpr j8.2
    obtain ⟨eC, iC⟩ := InvG_c8 (h := h) G hI
    have c8 : 0 ≤ cpG G (vg h 1) 0 6 ∧ cpG G (vg h 1) 0 6 ≤ 8 := iC.1.1
    have et := tmN_c (Geq_up eC (j := 2) j 0 (by simp)) (InvR_n iC.1 (by decide)) (i := k) (by rw [upd_count (by simp), Geq_n eC]; exact hn)
    have nx := ih _ (Hi8_occ (Hi8_up (Hi8_cp _ (vg h 1) hG) j 0 (a := 2) (by decide)) (fstT (up2 (cpG G (vg h 1)) 2 j 0) k 8 61 0)) (some (.int (nI (tmN (up2 (vg h 1) 2 j 0) k))))
    simp only [rfF] at nx
    have l1 := tmN_le (up2 (vg h 1) 2 j 0) k
    have l2 := rfF_le (vg h 1) k j
    refine Rn_go C5_riteFor 60 ?_
    simp only [x5_riteFor_0, x5_riteFor_1, x5_riteFor_4, x5_riteFor_5, x5_riteFor_8, x5_riteFor_11, x5_riteFor_12, x5_riteFor_13, x5_riteFor_15, x5_riteFor_16, x5_riteFor_17, x5_riteFor_18, x5_riteFor_21, x5_riteFor_22, x5_riteFor_23, k5_riteFor_25, t5_riteFor_25, x5_riteFor_27, x5_riteFor_29, x5_riteFor_32, x5_riteFor_33, x5_riteFor_36, x5_riteFor_37, x5_riteFor_40, x5_riteFor_43, x5_riteFor_44, x5_riteFor_47, x5_riteFor_50, x5_riteFor_52, x5_riteFor_53, x5_riteFor_54, x5_riteFor_55, x5_riteFor_58, x5_riteFor_59, x5_riteFor_61, x5_riteFor_63, x5_riteFor_66, x5_riteFor_68, x5_riteFor_70, x5_riteFor_71, x5_riteFor_74, x5_riteFor_76, x5_riteFor_77, x5_riteFor_79, x5_riteFor_80, x5_riteFor_83, x5_riteFor_86, x5_riteFor_87, i_ald, i_cV, i_get, i_goto, i_iast, i_ic, i_ic_ge, i_if_ne, i_ild, i_inc, i_iret, i_ist, oc_0, fv_0_0, fv_0_1, fv_0_2, fv_0_3, ly_0_3, fv_0_4, fv_0_5, fv_0_6, ly_0_6, fv_0_7, fv_0_8, fv_0_9, oc_1, fv_1_0, fv_1_1, fv_1_2, fv_1_3, fv_1_4, fv_1_5, fv_1_6, ly_1_6, fv_1_7, ly_1_7, fv_1_8, ly_1_8, rd_2, al_2, rd_3, al_3, rd_4, al_4, rd_5, al_5, rd_6, al_6, rd_7, al_7, oc_8, fv_8_0, fv_8_1, fv_8_2, fv_8_3, fv_8_4, fv_8_5, fv_8_6, ly_8_6, fv_8_7, ly_8_7, fv_8_8, ly_8_8, rd_9, al_9, rd_10, al_10, rd_11, al_11, rd_12, al_12, rd_13, al_13, rd_14, al_14, lck_0, lck_i, lck_r, lck_n, lck_l, csum_0, csum_i, csum_r, csum_l, pops_0, pops_s, psh_n, psh_s, List.getElem?_cons_zero, List.getElem?_cons_succ, List.set_cons_zero, List.set_cons_succ, true_and, and_true, Nat.reduceAdd, Nat.reduceLeDiff, S1_copy, S1_timeTo, CP_81, GB_8, cpG_pg, pg8_0, vg_pg, pg_pg, up8_2, up8_1', v8, ix60, ix, hx, hxj, Nat.reduceAdd, tmK]
    rw [et]
    refine ⟨fun c => absurd c hlt, fun _ => ⟨j8, i8, c8, by decide, fun c => ?_, fun c => ?_⟩⟩
    · rw [if_neg (fun q => absurd (nI_lt q (by omega)) (Int32.not_lt.mpr c))] at nx
      exact nx
    · rw [if_pos ((nI_ltI (by omega) (by omega)).mp (Int32.not_le.mp c))] at nx
      exact nx
theorem lp6_riteFor {h : Hp} {Q : Po} (hI : InvG (mv (h 42))) {k : Nat} (hn : k < nG (mv (h 42))) (hQ : ∀ a, Q (some (.int (rfF (mv (h 42)) k 8).1)) (upA h 44 a)) : ∀ d j, d + j = 8 → ∀ a y z, Rn (T6_riteFor Q S6_isOne S6_passesBy S6_becomes) (26, [some (.ref 41), some (.int (nI k)), some (.int (nI (rfF (mv (h 42)) k j).2)), some (.int (rfF (mv (h 42)) k j).1), some (.int (nI j)), y, z], [], upA h 44 a)
  | 0, j, e, a, y, z => by
    have e : j = 8 := by omega
    subst e
    have nx := hQ a
    refine Rn_go C6_riteFor 60 ?_
    simp only [x6_riteFor_0, x6_riteFor_1, x6_riteFor_2, x6_riteFor_5, x6_riteFor_8, x6_riteFor_9, x6_riteFor_10, x6_riteFor_11, x6_riteFor_12, x6_riteFor_14, x6_riteFor_16, x6_riteFor_19, x6_riteFor_20, x6_riteFor_22, x6_riteFor_23, x6_riteFor_24, k6_riteFor_26, t6_riteFor_26, x6_riteFor_28, x6_riteFor_30, x6_riteFor_33, x6_riteFor_34, x6_riteFor_36, x6_riteFor_38, x6_riteFor_39, x6_riteFor_40, x6_riteFor_43, x6_riteFor_45, x6_riteFor_46, x6_riteFor_47, x6_riteFor_49, x6_riteFor_51, x6_riteFor_54, x6_riteFor_56, x6_riteFor_57, x6_riteFor_60, x6_riteFor_62, x6_riteFor_64, x6_riteFor_65, x6_riteFor_67, x6_riteFor_68, x6_riteFor_70, x6_riteFor_71, x6_riteFor_74, x6_riteFor_76, x6_riteFor_79, x6_riteFor_80, x6_riteFor_81, x6_riteFor_83, x6_riteFor_84, x6_riteFor_87, x6_riteFor_89, x6_riteFor_92, x6_riteFor_93, x6_riteFor_94, x6_riteFor_97, x6_riteFor_100, x6_riteFor_101, i_ald, i_cV, i_get, i_goto, i_iadd, i_iast, i_ic, i_ic_ge, i_if_ne, i_ild, i_inc, i_iret, i_ist, oc_41, fv_41_0, fv_41_1, fv_41_2, fv_41_3, fv_41_4, ly_41_4, fv_41_5, fv_41_6, ly_41_6, fv_41_7, ly_41_7, fv_41_8, ly_41_8, fv_41_9, ly_41_9, fv_41_10, ly_41_10, fv_41_11, ly_41_11, fv_41_12, fv_41_13, fv_41_14, ly_41_14, fv_41_15, fv_41_16, fv_41_17, fv_41_18, fv_41_19, fv_41_20, fv_41_21, fv_41_22, ly_41_22, fv_41_23, ly_41_23, fv_41_24, ly_41_24, fv_41_25, ly_41_25, fv_41_26, ly_41_26, rd_42, al_42, rd_43, al_43, rd_44, al_44, rd_45, al_45, rd_46, al_46, rd_47, al_47, rd_48, al_48, rd_49, al_49, rd_50, al_50, rd_51, al_51, rd_52, al_52, rd_53, al_53, rd_54, al_54, rd_55, al_55, lck_0, lck_i, lck_r, lck_n, lck_l, csum_0, csum_i, csum_r, csum_l, pops_0, pops_s, psh_n, psh_s, List.getElem?_cons_zero, List.getElem?_cons_succ, List.set_cons_zero, List.set_cons_succ, true_and, and_true, Nat.reduceAdd, Nat.reduceLeDiff]
    exact ⟨fun _ => nx, fun c => absurd (by decide) c⟩
  | d + 1, j, e, a, y, z => by
    have ih := lp6_riteFor hI hn hQ d (j + 1) (by omega)
    rw [← nI_1] at ih
    have k8 := nG_8 hI.1
    have i8 := nlt8 (j := k) (by omega)
    have j8 := nlt8 (j := j) (by omega)
    have hx2 : (nI k).toNatClampNeg = k := ix_nI (by omega)
    have hxj : (nI j).toNatClampNeg = j := ix_nI (by omega)
    obtain ⟨a0, a1⟩ := rt_ix j8
    rw [show ix (nI j) = j from hxj] at a1
    have hlt : ¬ 8 ≤ nI j := Int32.not_le.mpr j8.2
    have m3 : mv (upd (h 42) (7 + j) 0) = up2 (mv (h 42)) 2 j 0 := mv_u2 _ (by omega) _
    have hI3 : InvR (mv (upd (h 42) (7 + j) 0)) := by rw [m3]; exact (InvR_n hI.1 (by decide))
    have l1 := tmN_le (up2 (mv (h 42)) 2 j 0) k
    have l2 := rfF_le (mv (h 42)) k j
    refine Rn_go C6_riteFor 60 ?_
    simp only [x6_riteFor_0, x6_riteFor_1, x6_riteFor_2, x6_riteFor_5, x6_riteFor_8, x6_riteFor_9, x6_riteFor_10, x6_riteFor_11, x6_riteFor_12, x6_riteFor_14, x6_riteFor_16, x6_riteFor_19, x6_riteFor_20, x6_riteFor_22, x6_riteFor_23, x6_riteFor_24, k6_riteFor_26, t6_riteFor_26, x6_riteFor_28, x6_riteFor_30, x6_riteFor_33, x6_riteFor_34, x6_riteFor_36, x6_riteFor_38, x6_riteFor_39, x6_riteFor_40, x6_riteFor_43, x6_riteFor_45, x6_riteFor_46, x6_riteFor_47, x6_riteFor_49, x6_riteFor_51, x6_riteFor_54, x6_riteFor_56, x6_riteFor_57, x6_riteFor_60, x6_riteFor_62, x6_riteFor_64, x6_riteFor_65, x6_riteFor_67, x6_riteFor_68, x6_riteFor_70, x6_riteFor_71, x6_riteFor_74, x6_riteFor_76, x6_riteFor_79, x6_riteFor_80, x6_riteFor_81, x6_riteFor_83, x6_riteFor_84, x6_riteFor_87, x6_riteFor_89, x6_riteFor_92, x6_riteFor_93, x6_riteFor_94, x6_riteFor_97, x6_riteFor_100, x6_riteFor_101, i_ald, i_cV, i_get, i_goto, i_iadd, i_iast, i_ic, i_ic_ge, i_if_ne, i_ild, i_inc, i_iret, i_ist, oc_41, fv_41_0, fv_41_1, fv_41_2, fv_41_3, fv_41_4, ly_41_4, fv_41_5, fv_41_6, ly_41_6, fv_41_7, ly_41_7, fv_41_8, ly_41_8, fv_41_9, ly_41_9, fv_41_10, ly_41_10, fv_41_11, ly_41_11, fv_41_12, fv_41_13, fv_41_14, ly_41_14, fv_41_15, fv_41_16, fv_41_17, fv_41_18, fv_41_19, fv_41_20, fv_41_21, fv_41_22, ly_41_22, fv_41_23, ly_41_23, fv_41_24, ly_41_24, fv_41_25, ly_41_25, fv_41_26, ly_41_26, rd_42, al_42, rd_43, al_43, rd_44, al_44, rd_45, al_45, rd_46, al_46, rd_47, al_47, rd_48, al_48, rd_49, al_49, rd_50, al_50, rd_51, al_51, rd_52, al_52, rd_53, al_53, rd_54, al_54, rd_55, al_55, lck_0, lck_i, lck_r, lck_n, lck_l, csum_0, csum_i, csum_r, csum_l, pops_0, pops_s, psh_n, psh_s, List.getElem?_cons_zero, List.getElem?_cons_succ, List.set_cons_zero, List.set_cons_succ, true_and, and_true, Nat.reduceAdd, Nat.reduceLeDiff, S6_passesBy, S6_becomes, v47, a1, up42b, upA_4442, upA_42, upA_same, upd_same, upd_id, upA_4442b, ix60, ix, hx2, Nat.reduceAdd, upA_cm, tmM]
    refine ⟨fun c => absurd c hlt, fun _ => ⟨a0, i8, by decide, hI3, fun b => ⟨a0, ?_⟩⟩⟩
    have nx := ih b (some (.int (h 42 (7 + j)))) (some (.int (nI (tmN (up2 (mv (h 42)) 2 j 0) k))))
    simp only [rfF] at nx
    rw [m3]
    refine ⟨fun c => ⟨fun _ => ?_, fun c2 => absurd c c2⟩, fun c => ⟨fun c2 => absurd c2 c, fun _ => ?_⟩⟩
    · rw [if_neg (fun q => absurd (nI_lt q (by omega)) (Int32.not_lt.mpr c))] at nx
      exact nx
    · rw [if_pos ((nI_ltI (by omega) (by omega)).mp (Int32.not_le.mp c))] at nx
      exact nx
theorem tm_S5 (h : Hp) (k : Nat) : nI (fstT (vg h 1) k 8 61 0) = nI (rfF (vg h 1) k 0).2 := rfl
theorem pr_riteFor {h : Hp} (r : Rel h) (o : Int32) : S5_riteFor [.ref 0, .int o] h (fun rv h1 => S6_riteFor [.ref 41, .int o] h1 (fun rw h2 => rw = rv ∧ Rel h2)) := by
  obtain ⟨g0, g1, g2, g3, g4⟩ := raw r
  have hI := r.1.2
  have iM := InvG_c r.1.1 hI
  by_cases c : 0 ≤ o ∧ o < h 1 6
  · obtain ⟨o8, hn, q1, q2, q3, q4⟩ := g4 o c.1 c.2
    have c2 : 0 ≤ o ∧ o < h 42 0 := by rw [← g0.1]; exact c
    obtain ⟨k, hk, rfl⟩ := of8 o8.1 o8.2
    have hx2 : (nI k).toNatClampNeg = k := ix_nI (by omega)
    rw [show ix (nI k) = k from hx2] at hn
    have eK := rfF_c r.1.1 hI hn 8
    have key : ∀ h1, Fr8 h h1 → S6_riteFor [.ref 41, .int (nI k)] h1 (fun rw h2 => rw = some (.int (rfF (vg h 1) k 8).1) ∧ Rel h2) := by
      intro h1 f
      have r1 := Rel_8 r f
      have e42 : h1 42 = h 42 := f 42 (by omega)
      have nx := lp6_riteFor (h := h1) (Q := fun rw h2 => rw = some (.int (rfF (vg h 1) k 8).1) ∧ Rel h2) (by rw [e42]; exact iM) (k := k) (by rw [e42, ← Geq_n r.1.1]; exact hn) (fun a => ⟨by rw [e42, eK], Rel_44 r1 a⟩) 8 0 (by omega)
      have iM1 := iM.1
      refine Rn_in C6_riteFor 60 ?_
      simp only [x6_riteFor_0, x6_riteFor_1, x6_riteFor_2, x6_riteFor_5, x6_riteFor_8, x6_riteFor_9, x6_riteFor_10, x6_riteFor_11, x6_riteFor_12, x6_riteFor_14, x6_riteFor_16, x6_riteFor_19, x6_riteFor_20, x6_riteFor_22, x6_riteFor_23, x6_riteFor_24, k6_riteFor_26, t6_riteFor_26, x6_riteFor_28, x6_riteFor_30, x6_riteFor_33, x6_riteFor_34, x6_riteFor_36, x6_riteFor_38, x6_riteFor_39, x6_riteFor_40, x6_riteFor_43, x6_riteFor_45, x6_riteFor_46, x6_riteFor_47, x6_riteFor_49, x6_riteFor_51, x6_riteFor_54, x6_riteFor_56, x6_riteFor_57, x6_riteFor_60, x6_riteFor_62, x6_riteFor_64, x6_riteFor_65, x6_riteFor_67, x6_riteFor_68, x6_riteFor_70, x6_riteFor_71, x6_riteFor_74, x6_riteFor_76, x6_riteFor_79, x6_riteFor_80, x6_riteFor_81, x6_riteFor_83, x6_riteFor_84, x6_riteFor_87, x6_riteFor_89, x6_riteFor_92, x6_riteFor_93, x6_riteFor_94, x6_riteFor_97, x6_riteFor_100, x6_riteFor_101, i_ald, i_cV, i_get, i_goto, i_iadd, i_iast, i_ic, i_ic_ge, i_if_ne, i_ild, i_inc, i_iret, i_ist, oc_41, fv_41_0, fv_41_1, fv_41_2, fv_41_3, fv_41_4, ly_41_4, fv_41_5, fv_41_6, ly_41_6, fv_41_7, ly_41_7, fv_41_8, ly_41_8, fv_41_9, ly_41_9, fv_41_10, ly_41_10, fv_41_11, ly_41_11, fv_41_12, fv_41_13, fv_41_14, ly_41_14, fv_41_15, fv_41_16, fv_41_17, fv_41_18, fv_41_19, fv_41_20, fv_41_21, fv_41_22, ly_41_22, fv_41_23, ly_41_23, fv_41_24, ly_41_24, fv_41_25, ly_41_25, fv_41_26, ly_41_26, rd_42, al_42, rd_43, al_43, rd_44, al_44, rd_45, al_45, rd_46, al_46, rd_47, al_47, rd_48, al_48, rd_49, al_49, rd_50, al_50, rd_51, al_51, rd_52, al_52, rd_53, al_53, rd_54, al_54, rd_55, al_55, lck_0, lck_i, lck_r, lck_n, lck_l, csum_0, csum_i, csum_r, csum_l, pops_0, pops_s, psh_n, psh_s, List.getElem?_cons_zero, List.getElem?_cons_succ, List.set_cons_zero, List.set_cons_succ, true_and, and_true, Nat.reduceAdd, Nat.reduceLeDiff, S6_isOne, S6_passesBy, hsB_0, e42, c2, o8, iM1, ix60, ix, hx2, Nat.reduceAdd, nn, false_implies, true_implies, implies_true, and_true, true_and, not_true_eq_false, not_false_eq_true, eq_self]
      refine ⟨by decide, fun a => ?_⟩
      rw [e42] at nx
      exact nx a none none
    have nx := lp5_riteFor (h := h) hI hn (Q := fun rv h1 => S6_riteFor [.ref 41, .int (nI k)] h1 (fun rw h2 => rw = rv ∧ Rel h2)) key 8 0 (by omega)
    have hI1 := hI.1
    refine Rn_in C5_riteFor 60 ?_
    simp only [x5_riteFor_0, x5_riteFor_1, x5_riteFor_4, x5_riteFor_5, x5_riteFor_8, x5_riteFor_11, x5_riteFor_12, x5_riteFor_13, x5_riteFor_15, x5_riteFor_16, x5_riteFor_17, x5_riteFor_18, x5_riteFor_21, x5_riteFor_22, x5_riteFor_23, k5_riteFor_25, t5_riteFor_25, x5_riteFor_27, x5_riteFor_29, x5_riteFor_32, x5_riteFor_33, x5_riteFor_36, x5_riteFor_37, x5_riteFor_40, x5_riteFor_43, x5_riteFor_44, x5_riteFor_47, x5_riteFor_50, x5_riteFor_52, x5_riteFor_53, x5_riteFor_54, x5_riteFor_55, x5_riteFor_58, x5_riteFor_59, x5_riteFor_61, x5_riteFor_63, x5_riteFor_66, x5_riteFor_68, x5_riteFor_70, x5_riteFor_71, x5_riteFor_74, x5_riteFor_76, x5_riteFor_77, x5_riteFor_79, x5_riteFor_80, x5_riteFor_83, x5_riteFor_86, x5_riteFor_87, i_ald, i_cV, i_get, i_goto, i_iast, i_ic, i_ic_ge, i_if_ne, i_ild, i_inc, i_iret, i_ist, oc_0, fv_0_0, fv_0_1, fv_0_2, fv_0_3, ly_0_3, fv_0_4, fv_0_5, fv_0_6, ly_0_6, fv_0_7, fv_0_8, fv_0_9, oc_1, fv_1_0, fv_1_1, fv_1_2, fv_1_3, fv_1_4, fv_1_5, fv_1_6, ly_1_6, fv_1_7, ly_1_7, fv_1_8, ly_1_8, rd_2, al_2, rd_3, al_3, rd_4, al_4, rd_5, al_5, rd_6, al_6, rd_7, al_7, oc_8, fv_8_0, fv_8_1, fv_8_2, fv_8_3, fv_8_4, fv_8_5, fv_8_6, ly_8_6, fv_8_7, ly_8_7, fv_8_8, ly_8_8, rd_9, al_9, rd_10, al_10, rd_11, al_11, rd_12, al_12, rd_13, al_13, rd_14, al_14, lck_0, lck_i, lck_r, lck_n, lck_l, csum_0, csum_i, csum_r, csum_l, pops_0, pops_s, psh_n, psh_s, List.getElem?_cons_zero, List.getElem?_cons_succ, List.set_cons_zero, List.set_cons_succ, true_and, and_true, Nat.reduceAdd, Nat.reduceLeDiff, S1_has, S5_timeNow, GB_1, b2_0, c, hI1, ix, hx2, nn, false_implies, true_implies, implies_true, and_true, true_and, not_true_eq_false, not_false_eq_true, eq_self]
    intro h1 f
    have e8 : pg h 8 (vg h1 8) = h1 := by
      funext p q
      simp only [pg, vg]
      split
      · rw [f p (by omega)]
      · rw [Nat.add_sub_cancel' (by omega)]
    have := nx (vg h1 8) (fun j hj => by funext q; simp only [vg]; rw [f (8 + j) (by omega)]) none
    rw [e8] at this
    exact this
  · have c2 : ¬ (0 ≤ o ∧ o < h 42 0) := by rw [← g0.1]; exact c
    refine Rn_in C5_riteFor 60 ?_
    simp only [x5_riteFor_0, x5_riteFor_1, x5_riteFor_4, x5_riteFor_5, x5_riteFor_8, x5_riteFor_11, x5_riteFor_12, x5_riteFor_13, x5_riteFor_15, x5_riteFor_16, x5_riteFor_17, x5_riteFor_18, x5_riteFor_21, x5_riteFor_22, x5_riteFor_23, k5_riteFor_25, t5_riteFor_25, x5_riteFor_27, x5_riteFor_29, x5_riteFor_32, x5_riteFor_33, x5_riteFor_36, x5_riteFor_37, x5_riteFor_40, x5_riteFor_43, x5_riteFor_44, x5_riteFor_47, x5_riteFor_50, x5_riteFor_52, x5_riteFor_53, x5_riteFor_54, x5_riteFor_55, x5_riteFor_58, x5_riteFor_59, x5_riteFor_61, x5_riteFor_63, x5_riteFor_66, x5_riteFor_68, x5_riteFor_70, x5_riteFor_71, x5_riteFor_74, x5_riteFor_76, x5_riteFor_77, x5_riteFor_79, x5_riteFor_80, x5_riteFor_83, x5_riteFor_86, x5_riteFor_87, i_ald, i_cV, i_get, i_goto, i_iast, i_ic, i_ic_ge, i_if_ne, i_ild, i_inc, i_iret, i_ist, oc_0, fv_0_0, fv_0_1, fv_0_2, fv_0_3, ly_0_3, fv_0_4, fv_0_5, fv_0_6, ly_0_6, fv_0_7, fv_0_8, fv_0_9, oc_1, fv_1_0, fv_1_1, fv_1_2, fv_1_3, fv_1_4, fv_1_5, fv_1_6, ly_1_6, fv_1_7, ly_1_7, fv_1_8, ly_1_8, rd_2, al_2, rd_3, al_3, rd_4, al_4, rd_5, al_5, rd_6, al_6, rd_7, al_7, oc_8, fv_8_0, fv_8_1, fv_8_2, fv_8_3, fv_8_4, fv_8_5, fv_8_6, ly_8_6, fv_8_7, ly_8_7, fv_8_8, ly_8_8, rd_9, al_9, rd_10, al_10, rd_11, al_11, rd_12, al_12, rd_13, al_13, rd_14, al_14, lck_0, lck_i, lck_r, lck_n, lck_l, csum_0, csum_i, csum_r, csum_l, pops_0, pops_s, psh_n, psh_s, List.getElem?_cons_zero, List.getElem?_cons_succ, List.set_cons_zero, List.set_cons_succ, true_and, and_true, Nat.reduceAdd, Nat.reduceLeDiff, S1_has, GB_1, b2_0, c, nn, false_implies, true_implies, implies_true, and_true, true_and, not_true_eq_false, not_false_eq_true, eq_self]
    refine Rn_in C6_riteFor 60 ?_
    simp only [x6_riteFor_0, x6_riteFor_1, x6_riteFor_2, x6_riteFor_5, x6_riteFor_8, x6_riteFor_9, x6_riteFor_10, x6_riteFor_11, x6_riteFor_12, x6_riteFor_14, x6_riteFor_16, x6_riteFor_19, x6_riteFor_20, x6_riteFor_22, x6_riteFor_23, x6_riteFor_24, k6_riteFor_26, t6_riteFor_26, x6_riteFor_28, x6_riteFor_30, x6_riteFor_33, x6_riteFor_34, x6_riteFor_36, x6_riteFor_38, x6_riteFor_39, x6_riteFor_40, x6_riteFor_43, x6_riteFor_45, x6_riteFor_46, x6_riteFor_47, x6_riteFor_49, x6_riteFor_51, x6_riteFor_54, x6_riteFor_56, x6_riteFor_57, x6_riteFor_60, x6_riteFor_62, x6_riteFor_64, x6_riteFor_65, x6_riteFor_67, x6_riteFor_68, x6_riteFor_70, x6_riteFor_71, x6_riteFor_74, x6_riteFor_76, x6_riteFor_79, x6_riteFor_80, x6_riteFor_81, x6_riteFor_83, x6_riteFor_84, x6_riteFor_87, x6_riteFor_89, x6_riteFor_92, x6_riteFor_93, x6_riteFor_94, x6_riteFor_97, x6_riteFor_100, x6_riteFor_101, i_ald, i_cV, i_get, i_goto, i_iadd, i_iast, i_ic, i_ic_ge, i_if_ne, i_ild, i_inc, i_iret, i_ist, oc_41, fv_41_0, fv_41_1, fv_41_2, fv_41_3, fv_41_4, ly_41_4, fv_41_5, fv_41_6, ly_41_6, fv_41_7, ly_41_7, fv_41_8, ly_41_8, fv_41_9, ly_41_9, fv_41_10, ly_41_10, fv_41_11, ly_41_11, fv_41_12, fv_41_13, fv_41_14, ly_41_14, fv_41_15, fv_41_16, fv_41_17, fv_41_18, fv_41_19, fv_41_20, fv_41_21, fv_41_22, ly_41_22, fv_41_23, ly_41_23, fv_41_24, ly_41_24, fv_41_25, ly_41_25, fv_41_26, ly_41_26, rd_42, al_42, rd_43, al_43, rd_44, al_44, rd_45, al_45, rd_46, al_46, rd_47, al_47, rd_48, al_48, rd_49, al_49, rd_50, al_50, rd_51, al_51, rd_52, al_52, rd_53, al_53, rd_54, al_54, rd_55, al_55, lck_0, lck_i, lck_r, lck_n, lck_l, csum_0, csum_i, csum_r, csum_l, pops_0, pops_s, psh_n, psh_s, List.getElem?_cons_zero, List.getElem?_cons_succ, List.set_cons_zero, List.set_cons_succ, true_and, and_true, Nat.reduceAdd, Nat.reduceLeDiff, S6_isOne, hsB_0, c2, nn, false_implies, true_implies, implies_true, and_true, true_and, not_true_eq_false, not_false_eq_true, eq_self]
    exact r
/-! hostFor -/
def hfF (G : GG) (i : Nat) : Nat → Int32 × Nat
  | 0 => (-3, tmN G i)
  | j + 1 => if j = i then hfF G i j else if (hfF G i j).2 < tmN (up2 G 6 i (nI j)) i then (nI j, tmN (up2 G 6 i (nI j)) i) else hfF G i j
theorem hfF_le (G : GG) (i : Nat) : ∀ j, (hfF G i j).2 ≤ 61
  | 0 => tmN_le _ _
  | j + 1 => by
    simp only [hfF]
    split
    · exact hfF_le G i j
    · split
      · exact tmN_le _ _
      · exact hfF_le G i j
theorem nI_inG {G : GG} (hI : InvR G) {j : Nat} (hj : j < nG G) : -1 ≤ nI j ∧ nI j < G 0 6 := by
  obtain ⟨n, n8, hn, hi⟩ := cntN hI.1.1 hI.1.2
  rw [show nG G = n from hi] at hj
  rw [hn]
  exact ⟨Int32.le_trans (by decide) (nI_pos' (by omega)), nI_lt hj (by omega)⟩
theorem hfF_c {G H : GG} (h : Geq G H) (hi : InvG G) {i : Nat} (hn : i < nG G) : ∀ j, j ≤ nG G → hfF G i j = hfF H i j
  | 0, _ => by simp only [hfF]; rw [tmN_c h hi.1 hn]
  | j + 1, hj => by
    simp only [hfF]
    rw [hfF_c h hi hn j (by omega), tmN_c (Geq_up h (j := 6) i (nI j) (by simp)) (InvG_6 hi (nI_inG hi.1 (by omega))).1 (by rw [upd_count (by simp)]; exact hn)]
def S5_hostFor : Sp := fun av h Q => match av with | [.ref x, .int o] => Rn (T5_hostFor Q S1_has S5_timeNow S1_copy S1_timeTo) (0, [some (.ref x), some (.int o), none, none, none, none], [], h) | _ => False
theorem rn5_hostFor {h : Hp} {Q : Po} {x : Nat} {o : Int32} (hS : S5_hostFor [.ref x, .int o] h Q) : Rn (T5_hostFor Q S1_has S5_timeNow S1_copy S1_timeTo) (0, [some (.ref x), some (.int o), none, none, none, none], [], h) := hS
def S6_hostFor : Sp := fun av h Q => match av with | [.ref x, .int o] => Rn (T6_hostFor Q S6_isOne S6_passesBy) (0, [some (.ref x), some (.int o), none, none, none, none, none, none], [], h) | _ => False
theorem rn6_hostFor {h : Hp} {Q : Po} {x : Nat} {o : Int32} (hS : S6_hostFor [.ref x, .int o] h Q) : Rn (T6_hostFor Q S6_isOne S6_passesBy) (0, [some (.ref x), some (.int o), none, none, none, none, none, none], [], h) := hS
theorem lp5_hostFor {h : Hp} {Q : Po} (hI : InvG (vg h 1)) {k n : Nat} (hc : h 1 6 = nI n) (hn8 : n ≤ 8) (hn : k < n) (hQ : ∀ h1, Fr8 h h1 → Q (some (.int (hfF (vg h 1) k n).1)) h1) : ∀ d j, d + j = n → ∀ G, Hi8 h G → ∀ y, Rn (T5_hostFor Q S1_has S5_timeNow S1_copy S1_timeTo) (25, [some (.ref 0), some (.int (nI k)), some (.int (hfF (vg h 1) k j).1), some (.int (nI (hfF (vg h 1) k j).2)), some (.int (nI j)), y], [], pg h 8 G)
  | 0, j, e, G, hG, y => by
    have e : j = n := by omega
    subst e
    have nx := hQ _ (Hi8_fr hG)
    refine Rn_go C5_hostFor 60 ?_
    simp only [x5_hostFor_0, x5_hostFor_1, x5_hostFor_4, x5_hostFor_5, x5_hostFor_8, x5_hostFor_11, x5_hostFor_12, x5_hostFor_13, x5_hostFor_15, x5_hostFor_16, x5_hostFor_17, x5_hostFor_18, x5_hostFor_21, x5_hostFor_22, x5_hostFor_23, k5_hostFor_25, t5_hostFor_25, x5_hostFor_27, x5_hostFor_28, x5_hostFor_31, x5_hostFor_34, x5_hostFor_37, x5_hostFor_39, x5_hostFor_40, x5_hostFor_43, x5_hostFor_44, x5_hostFor_47, x5_hostFor_48, x5_hostFor_51, x5_hostFor_54, x5_hostFor_55, x5_hostFor_58, x5_hostFor_61, x5_hostFor_62, x5_hostFor_64, x5_hostFor_65, x5_hostFor_66, x5_hostFor_69, x5_hostFor_70, x5_hostFor_72, x5_hostFor_74, x5_hostFor_77, x5_hostFor_79, x5_hostFor_81, x5_hostFor_82, x5_hostFor_85, x5_hostFor_87, x5_hostFor_88, x5_hostFor_90, x5_hostFor_91, x5_hostFor_94, x5_hostFor_97, x5_hostFor_98, i_ald, i_cV, i_get, i_goto, i_iast, i_ic, i_ic_eq, i_ic_ge, i_ic_le, i_if_ne, i_ild, i_inc, i_iret, i_ist, oc_0, fv_0_0, fv_0_1, fv_0_2, fv_0_3, ly_0_3, fv_0_4, fv_0_5, fv_0_6, ly_0_6, fv_0_7, fv_0_8, fv_0_9, oc_1, fv_1_0, fv_1_1, fv_1_2, fv_1_3, fv_1_4, fv_1_5, fv_1_6, ly_1_6, fv_1_7, ly_1_7, fv_1_8, ly_1_8, rd_2, al_2, rd_3, al_3, rd_4, al_4, rd_5, al_5, rd_6, al_6, rd_7, al_7, oc_8, fv_8_0, fv_8_1, fv_8_2, fv_8_3, fv_8_4, fv_8_5, fv_8_6, ly_8_6, fv_8_7, ly_8_7, fv_8_8, ly_8_8, rd_9, al_9, rd_10, al_10, rd_11, al_11, rd_12, al_12, rd_13, al_13, rd_14, al_14, lck_0, lck_i, lck_r, lck_n, lck_l, csum_0, csum_i, csum_r, csum_l, pops_0, pops_s, psh_n, psh_s, List.getElem?_cons_zero, List.getElem?_cons_succ, List.set_cons_zero, List.set_cons_succ, true_and, and_true, Nat.reduceAdd, Nat.reduceLeDiff, pg8_1, hc]
    exact ⟨fun _ => nx, fun c => absurd (Int32.le_refl _) c⟩
  | d + 1, j, e, G, hG, y => by
    have ih := lp5_hostFor hI hc hn8 hn hQ d (j + 1) (by omega)
    rw [← nI_1] at ih
    have hnG : nG (vg h 1) = n := by rw [show nG (vg h 1) = ix (h 1 6) from rfl, hc, ix_nI (by omega)]
    have i8 := nlt8 (j := k) (by omega)
    have hx : (nI k).toNatClampNeg = k := ix_nI (by omega)
    have hlt : ¬ nI n ≤ nI j := nI_ge (by omega) (by omega)
    obtain ⟨eC, iC⟩ := InvG_c8 (h := h) G hI
    have c8 : 0 ≤ cpG G (vg h 1) 0 6 ∧ cpG G (vg h 1) 0 6 ≤ 8 := iC.1.1
    have et := tmN_c (Geq_up eC (j := 6) k (nI j) (by simp)) (InvG_6 iC (nI_inG iC.1 (by rw [Geq_n eC, hnG]; omega))).1 (i := k) (by rw [upd_count (by simp), Geq_n eC, hnG]; exact hn)
    by_cases ck : j = k
    · have nx := ih G hG y
      rw [show hfF (vg h 1) k (j + 1) = hfF (vg h 1) k j from by rw [hfF, if_pos ck]] at nx
      have e1 : nI j = nI k := by rw [ck]
      refine Rn_go C5_hostFor 60 ?_
      simp only [x5_hostFor_0, x5_hostFor_1, x5_hostFor_4, x5_hostFor_5, x5_hostFor_8, x5_hostFor_11, x5_hostFor_12, x5_hostFor_13, x5_hostFor_15, x5_hostFor_16, x5_hostFor_17, x5_hostFor_18, x5_hostFor_21, x5_hostFor_22, x5_hostFor_23, k5_hostFor_25, t5_hostFor_25, x5_hostFor_27, x5_hostFor_28, x5_hostFor_31, x5_hostFor_34, x5_hostFor_37, x5_hostFor_39, x5_hostFor_40, x5_hostFor_43, x5_hostFor_44, x5_hostFor_47, x5_hostFor_48, x5_hostFor_51, x5_hostFor_54, x5_hostFor_55, x5_hostFor_58, x5_hostFor_61, x5_hostFor_62, x5_hostFor_64, x5_hostFor_65, x5_hostFor_66, x5_hostFor_69, x5_hostFor_70, x5_hostFor_72, x5_hostFor_74, x5_hostFor_77, x5_hostFor_79, x5_hostFor_81, x5_hostFor_82, x5_hostFor_85, x5_hostFor_87, x5_hostFor_88, x5_hostFor_90, x5_hostFor_91, x5_hostFor_94, x5_hostFor_97, x5_hostFor_98, i_ald, i_cV, i_get, i_goto, i_iast, i_ic, i_ic_eq, i_ic_ge, i_ic_le, i_if_ne, i_ild, i_inc, i_iret, i_ist, oc_0, fv_0_0, fv_0_1, fv_0_2, fv_0_3, ly_0_3, fv_0_4, fv_0_5, fv_0_6, ly_0_6, fv_0_7, fv_0_8, fv_0_9, oc_1, fv_1_0, fv_1_1, fv_1_2, fv_1_3, fv_1_4, fv_1_5, fv_1_6, ly_1_6, fv_1_7, ly_1_7, fv_1_8, ly_1_8, rd_2, al_2, rd_3, al_3, rd_4, al_4, rd_5, al_5, rd_6, al_6, rd_7, al_7, oc_8, fv_8_0, fv_8_1, fv_8_2, fv_8_3, fv_8_4, fv_8_5, fv_8_6, ly_8_6, fv_8_7, ly_8_7, fv_8_8, ly_8_8, rd_9, al_9, rd_10, al_10, rd_11, al_11, rd_12, al_12, rd_13, al_13, rd_14, al_14, lck_0, lck_i, lck_r, lck_n, lck_l, csum_0, csum_i, csum_r, csum_l, pops_0, pops_s, psh_n, psh_s, List.getElem?_cons_zero, List.getElem?_cons_succ, List.set_cons_zero, List.set_cons_succ, true_and, and_true, Nat.reduceAdd, Nat.reduceLeDiff, pg8_1, hc]
      exact ⟨fun c => absurd c hlt, fun _ => ⟨fun _ => nx, fun c => absurd e1 c⟩⟩
    · have e1 : ¬ nI j = nI k := fun q => ck ((nI_eq (by omega) (by omega)).mp q)
      have nx := ih _ (Hi8_occ (Hi8_up (Hi8_cp _ (vg h 1) hG) k (nI j) (a := 6) (by decide)) (fstT (up2 (cpG G (vg h 1)) 6 k (nI j)) k 8 61 0)) (some (.int (nI (tmN (up2 (vg h 1) 6 k (nI j)) k))))
      rw [show hfF (vg h 1) k (j + 1) = if (hfF (vg h 1) k j).2 < tmN (up2 (vg h 1) 6 k (nI j)) k then (nI j, tmN (up2 (vg h 1) 6 k (nI j)) k) else hfF (vg h 1) k j from by rw [hfF, if_neg ck]] at nx
      have l1 := tmN_le (up2 (vg h 1) 6 k (nI j)) k
      have l2 := hfF_le (vg h 1) k j
      refine Rn_go C5_hostFor 60 ?_
      simp only [x5_hostFor_0, x5_hostFor_1, x5_hostFor_4, x5_hostFor_5, x5_hostFor_8, x5_hostFor_11, x5_hostFor_12, x5_hostFor_13, x5_hostFor_15, x5_hostFor_16, x5_hostFor_17, x5_hostFor_18, x5_hostFor_21, x5_hostFor_22, x5_hostFor_23, k5_hostFor_25, t5_hostFor_25, x5_hostFor_27, x5_hostFor_28, x5_hostFor_31, x5_hostFor_34, x5_hostFor_37, x5_hostFor_39, x5_hostFor_40, x5_hostFor_43, x5_hostFor_44, x5_hostFor_47, x5_hostFor_48, x5_hostFor_51, x5_hostFor_54, x5_hostFor_55, x5_hostFor_58, x5_hostFor_61, x5_hostFor_62, x5_hostFor_64, x5_hostFor_65, x5_hostFor_66, x5_hostFor_69, x5_hostFor_70, x5_hostFor_72, x5_hostFor_74, x5_hostFor_77, x5_hostFor_79, x5_hostFor_81, x5_hostFor_82, x5_hostFor_85, x5_hostFor_87, x5_hostFor_88, x5_hostFor_90, x5_hostFor_91, x5_hostFor_94, x5_hostFor_97, x5_hostFor_98, i_ald, i_cV, i_get, i_goto, i_iast, i_ic, i_ic_eq, i_ic_ge, i_ic_le, i_if_ne, i_ild, i_inc, i_iret, i_ist, oc_0, fv_0_0, fv_0_1, fv_0_2, fv_0_3, ly_0_3, fv_0_4, fv_0_5, fv_0_6, ly_0_6, fv_0_7, fv_0_8, fv_0_9, oc_1, fv_1_0, fv_1_1, fv_1_2, fv_1_3, fv_1_4, fv_1_5, fv_1_6, ly_1_6, fv_1_7, ly_1_7, fv_1_8, ly_1_8, rd_2, al_2, rd_3, al_3, rd_4, al_4, rd_5, al_5, rd_6, al_6, rd_7, al_7, oc_8, fv_8_0, fv_8_1, fv_8_2, fv_8_3, fv_8_4, fv_8_5, fv_8_6, ly_8_6, fv_8_7, ly_8_7, fv_8_8, ly_8_8, rd_9, al_9, rd_10, al_10, rd_11, al_11, rd_12, al_12, rd_13, al_13, rd_14, al_14, lck_0, lck_i, lck_r, lck_n, lck_l, csum_0, csum_i, csum_r, csum_l, pops_0, pops_s, psh_n, psh_s, List.getElem?_cons_zero, List.getElem?_cons_succ, List.set_cons_zero, List.set_cons_succ, true_and, and_true, Nat.reduceAdd, Nat.reduceLeDiff, S1_copy, S1_timeTo, CP_81, GB_8, cpG_pg, pg8_0, pg8_1, hc, vg_pg, pg_pg, up8_6, up8_5', v8, ix60, ix, hx, Nat.reduceAdd, tmK]
      rw [et]
      refine ⟨fun c => absurd c hlt, fun _ => ⟨fun c => absurd c e1, fun _ => ⟨i8, i8, c8, by decide, fun c => ?_, fun c => ?_⟩⟩⟩
      · rw [if_neg (fun q => absurd (nI_lt q (by omega)) (Int32.not_lt.mpr c))] at nx
        exact nx
      · rw [if_pos ((nI_ltI (by omega) (by omega)).mp (Int32.not_le.mp c))] at nx
        exact nx
theorem lp6_hostFor {h : Hp} {Q : Po} (hI : InvG (mv (h 42))) {k n : Nat} (hc : h 42 0 = nI n) (hn8 : n ≤ 8) (hn : k < n) (hQ : ∀ a, Q (some (.int (hfF (mv (h 42)) k n).1)) (upA h 44 a)) : ∀ d j, d + j = n → ∀ a v y, Rn (T6_hostFor Q S6_isOne S6_passesBy) (44, [some (.ref 41), some (.int (nI k)), some (.int (15 + 4 * nI k + 3)), some (.int (h 42 (15 + 4 * k + 3))), some (.int (nI (hfF (mv (h 42)) k j).2)), some (.int (hfF (mv (h 42)) k j).1), some (.int (nI j)), y], [], upA (upA h 44 a) 42 (upd (h 42) (15 + 4 * k + 3) v))
  | 0, j, e, a, v, y => by
    have e : j = n := by omega
    subst e
    have i8 := nlt8 (j := k) (by omega)
    have hx : ix (nI k) = k := ix_nI (by omega)
    obtain ⟨a0, a1, a2, a3⟩ := at_ix i8
    rw [hx] at a3
    have nx := hQ a
    have u0 : upd (h 42) (15 + 4 * k + 3) v 0 = nI j := by rw [upd_ap, if_neg (by omega), hc]
    refine Rn_go C6_hostFor 60 ?_
    simp only [x6_hostFor_0, x6_hostFor_1, x6_hostFor_2, x6_hostFor_5, x6_hostFor_8, x6_hostFor_9, x6_hostFor_10, x6_hostFor_12, x6_hostFor_13, x6_hostFor_14, x6_hostFor_15, x6_hostFor_16, x6_hostFor_17, x6_hostFor_18, x6_hostFor_19, x6_hostFor_20, x6_hostFor_23, x6_hostFor_24, x6_hostFor_25, x6_hostFor_26, x6_hostFor_27, x6_hostFor_28, x6_hostFor_30, x6_hostFor_32, x6_hostFor_35, x6_hostFor_37, x6_hostFor_39, x6_hostFor_41, x6_hostFor_42, k6_hostFor_44, t6_hostFor_44, x6_hostFor_46, x6_hostFor_47, x6_hostFor_50, x6_hostFor_51, x6_hostFor_52, x6_hostFor_55, x6_hostFor_57, x6_hostFor_58, x6_hostFor_61, x6_hostFor_62, x6_hostFor_65, x6_hostFor_66, x6_hostFor_67, x6_hostFor_69, x6_hostFor_70, x6_hostFor_71, x6_hostFor_72, x6_hostFor_73, x6_hostFor_75, x6_hostFor_77, x6_hostFor_80, x6_hostFor_82, x6_hostFor_84, x6_hostFor_86, x6_hostFor_89, x6_hostFor_91, x6_hostFor_94, x6_hostFor_96, x6_hostFor_98, x6_hostFor_100, x6_hostFor_102, x6_hostFor_105, x6_hostFor_107, x6_hostFor_110, x6_hostFor_112, x6_hostFor_114, x6_hostFor_117, x6_hostFor_120, x6_hostFor_121, x6_hostFor_124, x6_hostFor_125, x6_hostFor_126, x6_hostFor_127, x6_hostFor_129, i_ald, i_cV, i_get, i_goto, i_iadd, i_iald, i_iast, i_ic, i_ic_eq, i_ic_ge, i_ic_le, i_if_ne, i_ild, i_imul, i_inc, i_iret, i_ist, oc_41, fv_41_0, fv_41_1, fv_41_2, fv_41_3, fv_41_4, ly_41_4, fv_41_5, fv_41_6, ly_41_6, fv_41_7, ly_41_7, fv_41_8, ly_41_8, fv_41_9, ly_41_9, fv_41_10, ly_41_10, fv_41_11, ly_41_11, fv_41_12, fv_41_13, fv_41_14, ly_41_14, fv_41_15, fv_41_16, fv_41_17, fv_41_18, fv_41_19, fv_41_20, fv_41_21, fv_41_22, ly_41_22, fv_41_23, ly_41_23, fv_41_24, ly_41_24, fv_41_25, ly_41_25, fv_41_26, ly_41_26, rd_42, al_42, rd_43, al_43, rd_44, al_44, rd_45, al_45, rd_46, al_46, rd_47, al_47, rd_48, al_48, rd_49, al_49, rd_50, al_50, rd_51, al_51, rd_52, al_52, rd_53, al_53, rd_54, al_54, rd_55, al_55, lck_0, lck_i, lck_r, lck_n, lck_l, csum_0, csum_i, csum_r, csum_l, pops_0, pops_s, psh_n, psh_s, List.getElem?_cons_zero, List.getElem?_cons_succ, List.set_cons_zero, List.set_cons_succ, true_and, and_true, Nat.reduceAdd, Nat.reduceLeDiff, v47, w47, ix0, a3.2, up42b, upA_42, upA_same, upd_same, upd_id, upA_4442b, u0]
    exact ⟨fun _ => ⟨a3.1, nx⟩, fun c => absurd (Int32.le_refl _) c⟩
  | d + 1, j, e, a, v, y => by
    have ih := lp6_hostFor hI hc hn8 hn hQ d (j + 1) (by omega)
    rw [← nI_1] at ih
    have hnG : nG (mv (h 42)) = n := by rw [show nG (mv (h 42)) = ix (h 42 0) from rfl, hc, ix_nI (by omega)]
    have i8 := nlt8 (j := k) (by omega)
    have hx : ix (nI k) = k := ix_nI (by omega)
    have hx2 : (nI k).toNatClampNeg = k := ix_nI (by omega)
    obtain ⟨a0, a1, a2, a3⟩ := at_ix i8
    rw [hx] at a3
    have u0 : ∀ v, upd (h 42) (15 + 4 * k + 3) v 0 = nI n := fun v => by rw [upd_ap, if_neg (by omega), hc]
    have hlt : ¬ nI n ≤ nI j := nI_ge (by omega) (by omega)
    have m3 : mv (upd (h 42) (15 + 4 * k + 3) (1 + nI j)) = up2 (mv (h 42)) 6 k (nI j) := by
      rw [mv_u6]; congr 1; grind
    have hI3 : InvR (mv (upd (h 42) (15 + 4 * k + 3) (1 + nI j))) := by rw [m3]; exact (InvG_6 hI (nI_inG hI.1 (by rw [hnG]; omega))).1
    by_cases ck : j = k
    · have nx := ih a v y
      rw [show hfF (mv (h 42)) k (j + 1) = hfF (mv (h 42)) k j from by rw [hfF, if_pos ck]] at nx
      have e1 : nI j = nI k := by rw [ck]
      refine Rn_go C6_hostFor 60 ?_
      simp only [x6_hostFor_0, x6_hostFor_1, x6_hostFor_2, x6_hostFor_5, x6_hostFor_8, x6_hostFor_9, x6_hostFor_10, x6_hostFor_12, x6_hostFor_13, x6_hostFor_14, x6_hostFor_15, x6_hostFor_16, x6_hostFor_17, x6_hostFor_18, x6_hostFor_19, x6_hostFor_20, x6_hostFor_23, x6_hostFor_24, x6_hostFor_25, x6_hostFor_26, x6_hostFor_27, x6_hostFor_28, x6_hostFor_30, x6_hostFor_32, x6_hostFor_35, x6_hostFor_37, x6_hostFor_39, x6_hostFor_41, x6_hostFor_42, k6_hostFor_44, t6_hostFor_44, x6_hostFor_46, x6_hostFor_47, x6_hostFor_50, x6_hostFor_51, x6_hostFor_52, x6_hostFor_55, x6_hostFor_57, x6_hostFor_58, x6_hostFor_61, x6_hostFor_62, x6_hostFor_65, x6_hostFor_66, x6_hostFor_67, x6_hostFor_69, x6_hostFor_70, x6_hostFor_71, x6_hostFor_72, x6_hostFor_73, x6_hostFor_75, x6_hostFor_77, x6_hostFor_80, x6_hostFor_82, x6_hostFor_84, x6_hostFor_86, x6_hostFor_89, x6_hostFor_91, x6_hostFor_94, x6_hostFor_96, x6_hostFor_98, x6_hostFor_100, x6_hostFor_102, x6_hostFor_105, x6_hostFor_107, x6_hostFor_110, x6_hostFor_112, x6_hostFor_114, x6_hostFor_117, x6_hostFor_120, x6_hostFor_121, x6_hostFor_124, x6_hostFor_125, x6_hostFor_126, x6_hostFor_127, x6_hostFor_129, i_ald, i_cV, i_get, i_goto, i_iadd, i_iald, i_iast, i_ic, i_ic_eq, i_ic_ge, i_ic_le, i_if_ne, i_ild, i_imul, i_inc, i_iret, i_ist, oc_41, fv_41_0, fv_41_1, fv_41_2, fv_41_3, fv_41_4, ly_41_4, fv_41_5, fv_41_6, ly_41_6, fv_41_7, ly_41_7, fv_41_8, ly_41_8, fv_41_9, ly_41_9, fv_41_10, ly_41_10, fv_41_11, ly_41_11, fv_41_12, fv_41_13, fv_41_14, ly_41_14, fv_41_15, fv_41_16, fv_41_17, fv_41_18, fv_41_19, fv_41_20, fv_41_21, fv_41_22, ly_41_22, fv_41_23, ly_41_23, fv_41_24, ly_41_24, fv_41_25, ly_41_25, fv_41_26, ly_41_26, rd_42, al_42, rd_43, al_43, rd_44, al_44, rd_45, al_45, rd_46, al_46, rd_47, al_47, rd_48, al_48, rd_49, al_49, rd_50, al_50, rd_51, al_51, rd_52, al_52, rd_53, al_53, rd_54, al_54, rd_55, al_55, lck_0, lck_i, lck_r, lck_n, lck_l, csum_0, csum_i, csum_r, csum_l, pops_0, pops_s, psh_n, psh_s, List.getElem?_cons_zero, List.getElem?_cons_succ, List.set_cons_zero, List.set_cons_succ, true_and, and_true, Nat.reduceAdd, Nat.reduceLeDiff, v47, w47, ix0, upA_42, u0]
      exact ⟨fun c => absurd c hlt, fun _ => ⟨fun _ => nx, fun c => absurd e1 c⟩⟩
    · have e1 : ¬ nI j = nI k := fun q => ck ((nI_eq (by omega) (by omega)).mp q)
      have l1 := tmN_le (up2 (mv (h 42)) 6 k (nI j)) k
      have l2 := hfF_le (mv (h 42)) k j
      refine Rn_go C6_hostFor 60 ?_
      simp only [x6_hostFor_0, x6_hostFor_1, x6_hostFor_2, x6_hostFor_5, x6_hostFor_8, x6_hostFor_9, x6_hostFor_10, x6_hostFor_12, x6_hostFor_13, x6_hostFor_14, x6_hostFor_15, x6_hostFor_16, x6_hostFor_17, x6_hostFor_18, x6_hostFor_19, x6_hostFor_20, x6_hostFor_23, x6_hostFor_24, x6_hostFor_25, x6_hostFor_26, x6_hostFor_27, x6_hostFor_28, x6_hostFor_30, x6_hostFor_32, x6_hostFor_35, x6_hostFor_37, x6_hostFor_39, x6_hostFor_41, x6_hostFor_42, k6_hostFor_44, t6_hostFor_44, x6_hostFor_46, x6_hostFor_47, x6_hostFor_50, x6_hostFor_51, x6_hostFor_52, x6_hostFor_55, x6_hostFor_57, x6_hostFor_58, x6_hostFor_61, x6_hostFor_62, x6_hostFor_65, x6_hostFor_66, x6_hostFor_67, x6_hostFor_69, x6_hostFor_70, x6_hostFor_71, x6_hostFor_72, x6_hostFor_73, x6_hostFor_75, x6_hostFor_77, x6_hostFor_80, x6_hostFor_82, x6_hostFor_84, x6_hostFor_86, x6_hostFor_89, x6_hostFor_91, x6_hostFor_94, x6_hostFor_96, x6_hostFor_98, x6_hostFor_100, x6_hostFor_102, x6_hostFor_105, x6_hostFor_107, x6_hostFor_110, x6_hostFor_112, x6_hostFor_114, x6_hostFor_117, x6_hostFor_120, x6_hostFor_121, x6_hostFor_124, x6_hostFor_125, x6_hostFor_126, x6_hostFor_127, x6_hostFor_129, i_ald, i_cV, i_get, i_goto, i_iadd, i_iald, i_iast, i_ic, i_ic_eq, i_ic_ge, i_ic_le, i_if_ne, i_ild, i_imul, i_inc, i_iret, i_ist, oc_41, fv_41_0, fv_41_1, fv_41_2, fv_41_3, fv_41_4, ly_41_4, fv_41_5, fv_41_6, ly_41_6, fv_41_7, ly_41_7, fv_41_8, ly_41_8, fv_41_9, ly_41_9, fv_41_10, ly_41_10, fv_41_11, ly_41_11, fv_41_12, fv_41_13, fv_41_14, ly_41_14, fv_41_15, fv_41_16, fv_41_17, fv_41_18, fv_41_19, fv_41_20, fv_41_21, fv_41_22, ly_41_22, fv_41_23, ly_41_23, fv_41_24, ly_41_24, fv_41_25, ly_41_25, fv_41_26, ly_41_26, rd_42, al_42, rd_43, al_43, rd_44, al_44, rd_45, al_45, rd_46, al_46, rd_47, al_47, rd_48, al_48, rd_49, al_49, rd_50, al_50, rd_51, al_51, rd_52, al_52, rd_53, al_53, rd_54, al_54, rd_55, al_55, lck_0, lck_i, lck_r, lck_n, lck_l, csum_0, csum_i, csum_r, csum_l, pops_0, pops_s, psh_n, psh_s, List.getElem?_cons_zero, List.getElem?_cons_succ, List.set_cons_zero, List.set_cons_succ, true_and, and_true, Nat.reduceAdd, Nat.reduceLeDiff, S6_passesBy, v47, w47, ix0, u0, a3.2, up42b, upA_42, upA_same, upd_same, ix60, ix, hx2, Nat.reduceAdd, upA_cm, tmM]
      refine ⟨fun c => absurd c hlt, fun _ => ⟨fun c => absurd c e1, fun _ => ⟨a3.1, i8, by decide, hI3, fun b => ?_⟩⟩⟩
      have nx := ih b (1 + nI j) (some (.int (nI (tmN (up2 (mv (h 42)) 6 k (nI j)) k))))
      rw [show hfF (mv (h 42)) k (j + 1) = if (hfF (mv (h 42)) k j).2 < tmN (up2 (mv (h 42)) 6 k (nI j)) k then (nI j, tmN (up2 (mv (h 42)) 6 k (nI j)) k) else hfF (mv (h 42)) k j from by rw [hfF, if_neg ck]] at nx
      rw [m3]
      refine ⟨fun c => ⟨fun _ => ?_, fun c2 => absurd c c2⟩, fun c => ⟨fun c2 => absurd c2 c, fun _ => ?_⟩⟩
      · rw [if_neg (fun q => absurd (nI_lt q (by omega)) (Int32.not_lt.mpr c))] at nx
        exact nx
      · rw [if_pos ((nI_ltI (by omega) (by omega)).mp (Int32.not_le.mp c))] at nx
        exact nx
theorem pg_f8 {h h1 : Hp} (f : Fr8 h h1) : pg h 8 (vg h1 8) = h1 ∧ Hi8 h (vg h1 8) := by
  refine ⟨?_, fun j hj => by funext q; simp only [vg]; rw [f (8 + j) (by omega)]⟩
  funext p q
  simp only [pg, vg]
  split
  · rw [f p (by omega)]
  · rw [Nat.add_sub_cancel' (by omega)]
theorem pr_hostFor {h : Hp} (r : Rel h) (o : Int32) : S5_hostFor [.ref 0, .int o] h (fun rv h1 => S6_hostFor [.ref 41, .int o] h1 (fun rw h2 => rw = rv ∧ Rel h2)) := by
  obtain ⟨g0, g1, g2, g3, g4⟩ := raw r
  have hI := r.1.2
  have iM := InvG_c r.1.1 hI
  by_cases c : 0 ≤ o ∧ o < h 1 6
  · obtain ⟨o8, hn, q1, q2, q3, q4⟩ := g4 o c.1 c.2
    have c2 : 0 ≤ o ∧ o < h 42 0 := by rw [← g0.1]; exact c
    obtain ⟨k, hk, rfl⟩ := of8 o8.1 o8.2
    have hx2 : (nI k).toNatClampNeg = k := ix_nI (by omega)
    rw [show ix (nI k) = k from hx2] at hn
    obtain ⟨n, n8, hc, hi⟩ := cntN g3.1 g3.2
    have hnG : nG (vg h 1) = n := hi
    have eK := hfF_c r.1.1 hI hn n (by omega)
    obtain ⟨a0, a1, a2, a3⟩ := at_ix o8
    rw [show ix (nI k) = k from hx2] at a3
    have key : ∀ h1, Fr8 h h1 → S6_hostFor [.ref 41, .int (nI k)] h1 (fun rw h2 => rw = some (.int (hfF (vg h 1) k n).1) ∧ Rel h2) := by
      intro h1 f
      have r1 := Rel_8 r f
      have e42 : h1 42 = h 42 := f 42 (by omega)
      have nx := lp6_hostFor (h := h1) (Q := fun rw h2 => rw = some (.int (hfF (vg h 1) k n).1) ∧ Rel h2) (by rw [e42]; exact iM) (k := k) (n := n) (by rw [e42, ← g0.1, hc]) n8 (by omega) (fun a => ⟨by rw [e42, eK], Rel_44 r1 a⟩) n 0 (by omega)
      have iM1 := iM.1
      refine Rn_in C6_hostFor 60 ?_
      simp only [x6_hostFor_0, x6_hostFor_1, x6_hostFor_2, x6_hostFor_5, x6_hostFor_8, x6_hostFor_9, x6_hostFor_10, x6_hostFor_12, x6_hostFor_13, x6_hostFor_14, x6_hostFor_15, x6_hostFor_16, x6_hostFor_17, x6_hostFor_18, x6_hostFor_19, x6_hostFor_20, x6_hostFor_23, x6_hostFor_24, x6_hostFor_25, x6_hostFor_26, x6_hostFor_27, x6_hostFor_28, x6_hostFor_30, x6_hostFor_32, x6_hostFor_35, x6_hostFor_37, x6_hostFor_39, x6_hostFor_41, x6_hostFor_42, k6_hostFor_44, t6_hostFor_44, x6_hostFor_46, x6_hostFor_47, x6_hostFor_50, x6_hostFor_51, x6_hostFor_52, x6_hostFor_55, x6_hostFor_57, x6_hostFor_58, x6_hostFor_61, x6_hostFor_62, x6_hostFor_65, x6_hostFor_66, x6_hostFor_67, x6_hostFor_69, x6_hostFor_70, x6_hostFor_71, x6_hostFor_72, x6_hostFor_73, x6_hostFor_75, x6_hostFor_77, x6_hostFor_80, x6_hostFor_82, x6_hostFor_84, x6_hostFor_86, x6_hostFor_89, x6_hostFor_91, x6_hostFor_94, x6_hostFor_96, x6_hostFor_98, x6_hostFor_100, x6_hostFor_102, x6_hostFor_105, x6_hostFor_107, x6_hostFor_110, x6_hostFor_112, x6_hostFor_114, x6_hostFor_117, x6_hostFor_120, x6_hostFor_121, x6_hostFor_124, x6_hostFor_125, x6_hostFor_126, x6_hostFor_127, x6_hostFor_129, i_ald, i_cV, i_get, i_goto, i_iadd, i_iald, i_iast, i_ic, i_ic_eq, i_ic_ge, i_ic_le, i_if_ne, i_ild, i_imul, i_inc, i_iret, i_ist, oc_41, fv_41_0, fv_41_1, fv_41_2, fv_41_3, fv_41_4, ly_41_4, fv_41_5, fv_41_6, ly_41_6, fv_41_7, ly_41_7, fv_41_8, ly_41_8, fv_41_9, ly_41_9, fv_41_10, ly_41_10, fv_41_11, ly_41_11, fv_41_12, fv_41_13, fv_41_14, ly_41_14, fv_41_15, fv_41_16, fv_41_17, fv_41_18, fv_41_19, fv_41_20, fv_41_21, fv_41_22, ly_41_22, fv_41_23, ly_41_23, fv_41_24, ly_41_24, fv_41_25, ly_41_25, fv_41_26, ly_41_26, rd_42, al_42, rd_43, al_43, rd_44, al_44, rd_45, al_45, rd_46, al_46, rd_47, al_47, rd_48, al_48, rd_49, al_49, rd_50, al_50, rd_51, al_51, rd_52, al_52, rd_53, al_53, rd_54, al_54, rd_55, al_55, lck_0, lck_i, lck_r, lck_n, lck_l, csum_0, csum_i, csum_r, csum_l, pops_0, pops_s, psh_n, psh_s, List.getElem?_cons_zero, List.getElem?_cons_succ, List.set_cons_zero, List.set_cons_succ, true_and, and_true, Nat.reduceAdd, Nat.reduceLeDiff, S6_isOne, S6_passesBy, hsB_0, e42, c2, v47, a3.2, o8, iM1, ix60, ix, hx2, Nat.reduceAdd, nn, false_implies, true_implies, implies_true, and_true, true_and, not_true_eq_false, not_false_eq_true, eq_self]
      refine ⟨a3.1, by decide, fun a => ?_⟩
      have := nx a (h1 42 (15 + 4 * k + 3)) none
      rw [upd_id, e42] at this
      rw [← e42, upA_4442b] at this
      rw [e42] at this
      exact this
    have nx := lp5_hostFor (h := h) hI hc n8 (by omega) (Q := fun rv h1 => S6_hostFor [.ref 41, .int (nI k)] h1 (fun rw h2 => rw = rv ∧ Rel h2)) key n 0 (by omega)
    have hI1 := hI.1
    refine Rn_in C5_hostFor 60 ?_
    simp only [x5_hostFor_0, x5_hostFor_1, x5_hostFor_4, x5_hostFor_5, x5_hostFor_8, x5_hostFor_11, x5_hostFor_12, x5_hostFor_13, x5_hostFor_15, x5_hostFor_16, x5_hostFor_17, x5_hostFor_18, x5_hostFor_21, x5_hostFor_22, x5_hostFor_23, k5_hostFor_25, t5_hostFor_25, x5_hostFor_27, x5_hostFor_28, x5_hostFor_31, x5_hostFor_34, x5_hostFor_37, x5_hostFor_39, x5_hostFor_40, x5_hostFor_43, x5_hostFor_44, x5_hostFor_47, x5_hostFor_48, x5_hostFor_51, x5_hostFor_54, x5_hostFor_55, x5_hostFor_58, x5_hostFor_61, x5_hostFor_62, x5_hostFor_64, x5_hostFor_65, x5_hostFor_66, x5_hostFor_69, x5_hostFor_70, x5_hostFor_72, x5_hostFor_74, x5_hostFor_77, x5_hostFor_79, x5_hostFor_81, x5_hostFor_82, x5_hostFor_85, x5_hostFor_87, x5_hostFor_88, x5_hostFor_90, x5_hostFor_91, x5_hostFor_94, x5_hostFor_97, x5_hostFor_98, i_ald, i_cV, i_get, i_goto, i_iast, i_ic, i_ic_eq, i_ic_ge, i_ic_le, i_if_ne, i_ild, i_inc, i_iret, i_ist, oc_0, fv_0_0, fv_0_1, fv_0_2, fv_0_3, ly_0_3, fv_0_4, fv_0_5, fv_0_6, ly_0_6, fv_0_7, fv_0_8, fv_0_9, oc_1, fv_1_0, fv_1_1, fv_1_2, fv_1_3, fv_1_4, fv_1_5, fv_1_6, ly_1_6, fv_1_7, ly_1_7, fv_1_8, ly_1_8, rd_2, al_2, rd_3, al_3, rd_4, al_4, rd_5, al_5, rd_6, al_6, rd_7, al_7, oc_8, fv_8_0, fv_8_1, fv_8_2, fv_8_3, fv_8_4, fv_8_5, fv_8_6, ly_8_6, fv_8_7, ly_8_7, fv_8_8, ly_8_8, rd_9, al_9, rd_10, al_10, rd_11, al_11, rd_12, al_12, rd_13, al_13, rd_14, al_14, lck_0, lck_i, lck_r, lck_n, lck_l, csum_0, csum_i, csum_r, csum_l, pops_0, pops_s, psh_n, psh_s, List.getElem?_cons_zero, List.getElem?_cons_succ, List.set_cons_zero, List.set_cons_succ, true_and, and_true, Nat.reduceAdd, Nat.reduceLeDiff, S1_has, S5_timeNow, GB_1, b2_0, c, hI1, ix, hx2, nn, false_implies, true_implies, implies_true, and_true, true_and, not_true_eq_false, not_false_eq_true, eq_self]
    intro h1 f
    obtain ⟨e8, hi8⟩ := pg_f8 f
    have := nx (vg h1 8) hi8 none
    rw [e8] at this
    exact this
  · have c2 : ¬ (0 ≤ o ∧ o < h 42 0) := by rw [← g0.1]; exact c
    refine Rn_in C5_hostFor 60 ?_
    simp only [x5_hostFor_0, x5_hostFor_1, x5_hostFor_4, x5_hostFor_5, x5_hostFor_8, x5_hostFor_11, x5_hostFor_12, x5_hostFor_13, x5_hostFor_15, x5_hostFor_16, x5_hostFor_17, x5_hostFor_18, x5_hostFor_21, x5_hostFor_22, x5_hostFor_23, k5_hostFor_25, t5_hostFor_25, x5_hostFor_27, x5_hostFor_28, x5_hostFor_31, x5_hostFor_34, x5_hostFor_37, x5_hostFor_39, x5_hostFor_40, x5_hostFor_43, x5_hostFor_44, x5_hostFor_47, x5_hostFor_48, x5_hostFor_51, x5_hostFor_54, x5_hostFor_55, x5_hostFor_58, x5_hostFor_61, x5_hostFor_62, x5_hostFor_64, x5_hostFor_65, x5_hostFor_66, x5_hostFor_69, x5_hostFor_70, x5_hostFor_72, x5_hostFor_74, x5_hostFor_77, x5_hostFor_79, x5_hostFor_81, x5_hostFor_82, x5_hostFor_85, x5_hostFor_87, x5_hostFor_88, x5_hostFor_90, x5_hostFor_91, x5_hostFor_94, x5_hostFor_97, x5_hostFor_98, i_ald, i_cV, i_get, i_goto, i_iast, i_ic, i_ic_eq, i_ic_ge, i_ic_le, i_if_ne, i_ild, i_inc, i_iret, i_ist, oc_0, fv_0_0, fv_0_1, fv_0_2, fv_0_3, ly_0_3, fv_0_4, fv_0_5, fv_0_6, ly_0_6, fv_0_7, fv_0_8, fv_0_9, oc_1, fv_1_0, fv_1_1, fv_1_2, fv_1_3, fv_1_4, fv_1_5, fv_1_6, ly_1_6, fv_1_7, ly_1_7, fv_1_8, ly_1_8, rd_2, al_2, rd_3, al_3, rd_4, al_4, rd_5, al_5, rd_6, al_6, rd_7, al_7, oc_8, fv_8_0, fv_8_1, fv_8_2, fv_8_3, fv_8_4, fv_8_5, fv_8_6, ly_8_6, fv_8_7, ly_8_7, fv_8_8, ly_8_8, rd_9, al_9, rd_10, al_10, rd_11, al_11, rd_12, al_12, rd_13, al_13, rd_14, al_14, lck_0, lck_i, lck_r, lck_n, lck_l, csum_0, csum_i, csum_r, csum_l, pops_0, pops_s, psh_n, psh_s, List.getElem?_cons_zero, List.getElem?_cons_succ, List.set_cons_zero, List.set_cons_succ, true_and, and_true, Nat.reduceAdd, Nat.reduceLeDiff, S1_has, GB_1, b2_0, c, nn, false_implies, true_implies, implies_true, and_true, true_and, not_true_eq_false, not_false_eq_true, eq_self]
    refine Rn_in C6_hostFor 60 ?_
    simp only [x6_hostFor_0, x6_hostFor_1, x6_hostFor_2, x6_hostFor_5, x6_hostFor_8, x6_hostFor_9, x6_hostFor_10, x6_hostFor_12, x6_hostFor_13, x6_hostFor_14, x6_hostFor_15, x6_hostFor_16, x6_hostFor_17, x6_hostFor_18, x6_hostFor_19, x6_hostFor_20, x6_hostFor_23, x6_hostFor_24, x6_hostFor_25, x6_hostFor_26, x6_hostFor_27, x6_hostFor_28, x6_hostFor_30, x6_hostFor_32, x6_hostFor_35, x6_hostFor_37, x6_hostFor_39, x6_hostFor_41, x6_hostFor_42, k6_hostFor_44, t6_hostFor_44, x6_hostFor_46, x6_hostFor_47, x6_hostFor_50, x6_hostFor_51, x6_hostFor_52, x6_hostFor_55, x6_hostFor_57, x6_hostFor_58, x6_hostFor_61, x6_hostFor_62, x6_hostFor_65, x6_hostFor_66, x6_hostFor_67, x6_hostFor_69, x6_hostFor_70, x6_hostFor_71, x6_hostFor_72, x6_hostFor_73, x6_hostFor_75, x6_hostFor_77, x6_hostFor_80, x6_hostFor_82, x6_hostFor_84, x6_hostFor_86, x6_hostFor_89, x6_hostFor_91, x6_hostFor_94, x6_hostFor_96, x6_hostFor_98, x6_hostFor_100, x6_hostFor_102, x6_hostFor_105, x6_hostFor_107, x6_hostFor_110, x6_hostFor_112, x6_hostFor_114, x6_hostFor_117, x6_hostFor_120, x6_hostFor_121, x6_hostFor_124, x6_hostFor_125, x6_hostFor_126, x6_hostFor_127, x6_hostFor_129, i_ald, i_cV, i_get, i_goto, i_iadd, i_iald, i_iast, i_ic, i_ic_eq, i_ic_ge, i_ic_le, i_if_ne, i_ild, i_imul, i_inc, i_iret, i_ist, oc_41, fv_41_0, fv_41_1, fv_41_2, fv_41_3, fv_41_4, ly_41_4, fv_41_5, fv_41_6, ly_41_6, fv_41_7, ly_41_7, fv_41_8, ly_41_8, fv_41_9, ly_41_9, fv_41_10, ly_41_10, fv_41_11, ly_41_11, fv_41_12, fv_41_13, fv_41_14, ly_41_14, fv_41_15, fv_41_16, fv_41_17, fv_41_18, fv_41_19, fv_41_20, fv_41_21, fv_41_22, ly_41_22, fv_41_23, ly_41_23, fv_41_24, ly_41_24, fv_41_25, ly_41_25, fv_41_26, ly_41_26, rd_42, al_42, rd_43, al_43, rd_44, al_44, rd_45, al_45, rd_46, al_46, rd_47, al_47, rd_48, al_48, rd_49, al_49, rd_50, al_50, rd_51, al_51, rd_52, al_52, rd_53, al_53, rd_54, al_54, rd_55, al_55, lck_0, lck_i, lck_r, lck_n, lck_l, csum_0, csum_i, csum_r, csum_l, pops_0, pops_s, psh_n, psh_s, List.getElem?_cons_zero, List.getElem?_cons_succ, List.set_cons_zero, List.set_cons_succ, true_and, and_true, Nat.reduceAdd, Nat.reduceLeDiff, S6_isOne, hsB_0, c2, nn, false_implies, true_implies, implies_true, and_true, true_and, not_true_eq_false, not_false_eq_true, eq_self]
    exact r
