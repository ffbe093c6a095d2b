/-! pairs: with how much grace -/
def byN (G : GG) (i m : Nat) : Nat := fstT G i 8 (m + 1) 0
theorem byN_le (G : GG) (i m : Nat) : byN G i m ≤ m + 1 := by
  have := fstT_le G i 8 (m + 1) 0
  unfold byN; omega
theorem byN_c {G H : GG} (h : Geq G H) (hi : InvR G) {i : Nat} (hn : i < nG G) (m : Nat) : byN G i m = byN H i m := fstT_c h hi hn 8 (m + 1) 0
theorem byK (G : GG) (i m : Nat) : fstT G i 8 (m + 1) 0 = byN G i m := rfl
def byB (G : GG) (i m : Nat) : Int32 := if byN G i m ≤ m then 1 else 0
theorem by61 {G : GG} {i m : Nat} (hm : m ≤ 60) (d : Decidable (byN G i m ≤ m)) : (@ite Int32 (byN G i m ≤ m) d (nI (byN G i m)) 61 = 61) = ¬ byN G i m ≤ m := by
  by_cases hf : byN G i m ≤ m
  · rw [if_pos hf]
    exact propext ⟨fun c => absurd ((nI_eq (b := 61) (by omega) (by decide)).mp c) (by omega), fun c => absurd hf c⟩
  · rw [if_neg hf]
    exact propext ⟨fun _ => hf, fun _ => rfl⟩
theorem byB_0 (G : GG) (i m : Nat) : (byB G i m = 0) = ¬ byN G i m ≤ m := by unfold byB; split <;> simp_all
theorem byB_01 (G : GG) (i m : Nat) : (byB G i m = 0 ∨ byB G i m = 1) = True := by unfold byB; split <;> simp
def gfF (G : GG) (i m : Nat) : Nat → Nat → Int32
  | 0, _ => -3
  | d + 1, v => if byN (up2 G 4 i (nI v)) i m ≤ m then nI v else gfF G i m d (v + 1)
theorem gfF_c {G H : GG} (h : Geq G H) (hi : InvG G) {i : Nat} (hn : i < nG G) (m : Nat) : ∀ d v, gfF G i m d v = gfF H i m d v
  | 0, _ => rfl
  | d + 1, v => by
    simp only [gfF]
    rw [gfF_c h hi hn m d (v + 1), byN_c (Geq_up h (j := 4) i (nI v) (by simp)) (InvR_n hi.1 (by decide)) (by rw [upd_count (by simp)]; exact hn)]
def S5_graceFor : Sp := fun av h Q => match av with | [.ref x, .int o, .int n] => Rn (T5_graceFor Q S1_has S5_isWithin S1_copy S1_timeTo) (0, [some (.ref x), some (.int o), some (.int n), none], [], h) | _ => False
theorem rn5_graceFor {h : Hp} {Q : Po} {x : Nat} {o : Int32} {n : Int32} (hS : S5_graceFor [.ref x, .int o, .int n] h Q) : Rn (T5_graceFor Q S1_has S5_isWithin S1_copy S1_timeTo) (0, [some (.ref x), some (.int o), some (.int n), none], [], h) := hS
def S6_graceFor : Sp := fun av h Q => match av with | [.ref x, .int o, .int n] => Rn (T6_graceFor Q S6_isOne S6_isShort S6_passesBy) (0, [some (.ref x), some (.int o), some (.int n), none, none, none, none], [], h) | _ => False
theorem rn6_graceFor {h : Hp} {Q : Po} {x : Nat} {o : Int32} {n : Int32} (hS : S6_graceFor [.ref x, .int o, .int n] h Q) : Rn (T6_graceFor Q S6_isOne S6_isShort S6_passesBy) (0, [some (.ref x), some (.int o), some (.int n), none, none, none, none], [], h) := hS
theorem lp5_graceFor {h : Hp} {Q : Po} (hI : InvG (vg h 1)) {k m : Nat} (hn : k < nG (vg h 1)) (hm : m ≤ 40) : ∀ d v, d + v = 100 → (∀ h1, Fr8 h h1 → Q (some (.int (gfF (vg h 1) k m d v))) h1) → ∀ G, Hi8 h G → Rn (T5_graceFor Q S1_has S5_isWithin S1_copy S1_timeTo) (24, [some (.ref 0), some (.int (nI k)), some (.int (nI m)), some (.int (nI v))], [], pg h 8 G)
  | 0, v, e, hQ, G, hG => by
    have e : v = 100 := by omega
    subst e
    have nx := hQ _ (Hi8_fr hG)
    refine Rn_go C5_graceFor 60 ?_
    simp only [x5_graceFor_0, x5_graceFor_1, x5_graceFor_4, x5_graceFor_5, x5_graceFor_8, x5_graceFor_11, x5_graceFor_12, x5_graceFor_14, x5_graceFor_17, x5_graceFor_20, x5_graceFor_21, x5_graceFor_22, x5_graceFor_23, k5_graceFor_24, t5_graceFor_24, x5_graceFor_25, x5_graceFor_27, x5_graceFor_30, x5_graceFor_31, x5_graceFor_34, x5_graceFor_35, x5_graceFor_38, x5_graceFor_41, x5_graceFor_42, x5_graceFor_45, x5_graceFor_48, x5_graceFor_49, x5_graceFor_50, x5_graceFor_51, x5_graceFor_52, x5_graceFor_55, x5_graceFor_56, x5_graceFor_58, x5_graceFor_59, x5_graceFor_62, x5_graceFor_64, x5_graceFor_67, x5_graceFor_68, x5_graceFor_69, x5_graceFor_72, x5_graceFor_75, x5_graceFor_77, i_ald, i_cS, i_cV, i_get, i_goto, i_iast, i_ic, i_ic_eq, i_ic_gt, i_if_eq, i_if_ne, i_ild, i_inc, i_iret, i_ist, oc_0, fv_0_0, fv_0_1, fv_0_2, fv_0_3, ly_0_3, fv_0_4, fv_0_5, fv_0_6, ly_0_6, fv_0_7, fv_0_8, fv_0_9, oc_1, fv_1_0, fv_1_1, fv_1_2, fv_1_3, fv_1_4, fv_1_5, fv_1_6, ly_1_6, fv_1_7, ly_1_7, fv_1_8, ly_1_8, rd_2, al_2, rd_3, al_3, rd_4, al_4, rd_5, al_5, rd_6, al_6, rd_7, al_7, oc_8, fv_8_0, fv_8_1, fv_8_2, fv_8_3, fv_8_4, fv_8_5, fv_8_6, ly_8_6, fv_8_7, ly_8_7, fv_8_8, ly_8_8, rd_9, al_9, rd_10, al_10, rd_11, al_11, rd_12, al_12, rd_13, al_13, rd_14, al_14, lck_0, lck_i, lck_r, lck_n, lck_l, csum_0, csum_i, csum_r, csum_l, pops_0, pops_s, psh_n, psh_s, List.getElem?_cons_zero, List.getElem?_cons_succ, List.set_cons_zero, List.set_cons_succ, true_and, and_true, Nat.reduceAdd, Nat.reduceLeDiff]
    exact ⟨fun _ => nx, fun c => absurd (by decide) c⟩
  | d + 1, v, e, hQ, G, hG => by
    have k8 := nG_8 hI.1
    have i8 := nlt8 (j := k) (by omega)
    have hx : (nI k).toNatClampNeg = k := ix_nI (by omega)
    have hxm : (nI m).toNatClampNeg = m := ix_nI (by omega)
    have hlt : ¬ 99 < nI v := (show ¬ nI 99 < nI v from nI_nlt (by omega) (by omega))
    have m60 : 0 ≤ nI m ∧ nI m ≤ 60 := ⟨nI_pos' (by omega), nI_le (b := 60) (by omega) (by decide)⟩
    obtain ⟨eC, iC⟩ := InvG_c8 (h := h) G hI
    have c8 : 0 ≤ cpG G (vg h 1) 0 6 ∧ cpG G (vg h 1) 0 6 ≤ 8 := iC.1.1
    have et := byN_c (Geq_up eC (j := 4) k (nI v) (by simp)) (InvR_n iC.1 (by decide)) (i := k) (by rw [upd_count (by simp), Geq_n eC]; exact hn) m
    have h8 := Hi8_occ (Hi8_up (Hi8_cp _ (vg h 1) hG) k (nI v) (a := 4) (by decide)) (byN (up2 (cpG G (vg h 1)) 4 k (nI v)) k m)
    refine Rn_go C5_graceFor 60 ?_
    have t61 := fun (G : GG) (d : Decidable (byN G k m ≤ m)) => by61 (G := G) (i := k) (m := m) (by omega) d
    simp only [x5_graceFor_0, x5_graceFor_1, x5_graceFor_4, x5_graceFor_5, x5_graceFor_8, x5_graceFor_11, x5_graceFor_12, x5_graceFor_14, x5_graceFor_17, x5_graceFor_20, x5_graceFor_21, x5_graceFor_22, x5_graceFor_23, k5_graceFor_24, t5_graceFor_24, x5_graceFor_25, x5_graceFor_27, x5_graceFor_30, x5_graceFor_31, x5_graceFor_34, x5_graceFor_35, x5_graceFor_38, x5_graceFor_41, x5_graceFor_42, x5_graceFor_45, x5_graceFor_48, x5_graceFor_49, x5_graceFor_50, x5_graceFor_51, x5_graceFor_52, x5_graceFor_55, x5_graceFor_56, x5_graceFor_58, x5_graceFor_59, x5_graceFor_62, x5_graceFor_64, x5_graceFor_67, x5_graceFor_68, x5_graceFor_69, x5_graceFor_72, x5_graceFor_75, x5_graceFor_77, i_ald, i_cS, i_cV, i_get, i_goto, i_iast, i_ic, i_ic_eq, i_ic_gt, i_if_eq, i_if_ne, i_ild, i_inc, i_iret, i_ist, oc_0, fv_0_0, fv_0_1, fv_0_2, fv_0_3, ly_0_3, fv_0_4, fv_0_5, fv_0_6, ly_0_6, fv_0_7, fv_0_8, fv_0_9, oc_1, fv_1_0, fv_1_1, fv_1_2, fv_1_3, fv_1_4, fv_1_5, fv_1_6, ly_1_6, fv_1_7, ly_1_7, fv_1_8, ly_1_8, rd_2, al_2, rd_3, al_3, rd_4, al_4, rd_5, al_5, rd_6, al_6, rd_7, al_7, oc_8, fv_8_0, fv_8_1, fv_8_2, fv_8_3, fv_8_4, fv_8_5, fv_8_6, ly_8_6, fv_8_7, ly_8_7, fv_8_8, ly_8_8, rd_9, al_9, rd_10, al_10, rd_11, al_11, rd_12, al_12, rd_13, al_13, rd_14, al_14, lck_0, lck_i, lck_r, lck_n, lck_l, csum_0, csum_i, csum_r, csum_l, pops_0, pops_s, psh_n, psh_s, List.getElem?_cons_zero, List.getElem?_cons_succ, List.set_cons_zero, List.set_cons_succ, true_and, and_true, Nat.reduceAdd, Nat.reduceLeDiff, S1_copy, S1_timeTo, CP_81, GB_8, cpG_pg, pg8_0, vg_pg, pg_pg, up8_4, up8_3', v8, ix, hx, hxm, t61, byK]
    rw [et] at h8 ⊢
    refine ⟨fun c => absurd c hlt, fun _ => ⟨i8, i8, c8, m60, fun c => ?_, fun c => ?_⟩⟩
    · have e1 : gfF (vg h 1) k m (d + 1) v = gfF (vg h 1) k m d (v + 1) := by rw [gfF, if_neg c]
      rw [e1] at hQ
      have ih := lp5_graceFor hI hn hm d (v + 1) (by omega) hQ
      rw [← nI_1] at ih
      exact ih _ h8
    · have e1 : gfF (vg h 1) k m (d + 1) v = nI v := by rw [gfF, if_pos (Classical.not_not.mp c)]
      rw [e1] at hQ
      exact hQ _ (Hi8_fr h8)
theorem lp6_graceFor {h : Hp} {Q : Po} (hI : InvG (mv (h 42))) {k m : Nat} (hn : k < nG (mv (h 42))) (hm : m ≤ 40) : ∀ d v, d + v = 100 → (∀ a, Q (some (.int (gfF (mv (h 42)) k m d v))) (upA h 44 a)) → ∀ a w, Rn (T6_graceFor Q S6_isOne S6_isShort S6_passesBy) (41, [some (.ref 41), some (.int (nI k)), some (.int (nI m)), some (.int (15 + 4 * nI k + 1)), some (.int (h 42 (15 + 4 * k + 1))), some (.int (-3)), some (.int (nI v))], [], upA (upA h 44 a) 42 (upd (h 42) (15 + 4 * k + 1) w)) := by
  have k8 := nG_8 hI.1
  have i8 := nlt8 (j := k) (by omega)
  have hx : ix (nI k) = k := ix_nI (by omega)
  have hx2 : (nI k).toNatClampNeg = k := ix_nI (by omega)
  have hxm : (nI m).toNatClampNeg = m := ix_nI (by omega)
  obtain ⟨a0, a1, a2, a3⟩ := at_ix i8
  rw [hx] at a1
  have m60 : 0 ≤ nI m ∧ nI m ≤ 60 := ⟨nI_pos' (by omega), nI_le (b := 60) (by omega) (by decide)⟩
  have n3 : ¬ (0 : Int32) ≤ -3 := by decide
  intro d
  induction d with
  | zero =>
    intro v e hQ a w
    have e : v = 100 := by omega
    subst e
    have nx := hQ a
    refine Rn_go C6_graceFor 60 ?_
    simp only [x6_graceFor_0, x6_graceFor_1, x6_graceFor_2, x6_graceFor_5, x6_graceFor_8, x6_graceFor_9, x6_graceFor_12, x6_graceFor_15, x6_graceFor_16, x6_graceFor_17, x6_graceFor_19, x6_graceFor_20, x6_graceFor_21, x6_graceFor_22, x6_graceFor_23, x6_graceFor_24, x6_graceFor_25, x6_graceFor_26, x6_graceFor_27, x6_graceFor_30, x6_graceFor_31, x6_graceFor_32, x6_graceFor_34, x6_graceFor_36, x6_graceFor_38, x6_graceFor_39, k6_graceFor_41, t6_graceFor_41, x6_graceFor_43, x6_graceFor_45, x6_graceFor_48, x6_graceFor_50, x6_graceFor_53, x6_graceFor_54, x6_graceFor_57, x6_graceFor_58, x6_graceFor_60, x6_graceFor_61, x6_graceFor_62, x6_graceFor_63, x6_graceFor_65, x6_graceFor_66, x6_graceFor_69, x6_graceFor_70, x6_graceFor_73, x6_graceFor_75, x6_graceFor_78, x6_graceFor_80, x6_graceFor_82, x6_graceFor_85, x6_graceFor_88, x6_graceFor_89, x6_graceFor_92, x6_graceFor_93, x6_graceFor_95, x6_graceFor_96, x6_graceFor_98, i_ald, i_cS, i_cV, i_get, i_goto, i_iadd, i_iald, i_iast, i_ic, i_ic_gt, i_if_eq, i_if_ge, i_if_ne, i_ild, i_imul, i_inc, i_iret, i_ist, oc_41, fv_41_0, fv_41_1, fv_41_2, fv_41_3, fv_41_4, ly_41_4, fv_41_5, fv_41_6, ly_41_6, fv_41_7, ly_41_7, fv_41_8, ly_41_8, fv_41_9, ly_41_9, fv_41_10, ly_41_10, fv_41_11, ly_41_11, fv_41_12, fv_41_13, fv_41_14, ly_41_14, fv_41_15, fv_41_16, fv_41_17, fv_41_18, fv_41_19, fv_41_20, fv_41_21, fv_41_22, ly_41_22, fv_41_23, ly_41_23, fv_41_24, ly_41_24, fv_41_25, ly_41_25, fv_41_26, ly_41_26, rd_42, al_42, rd_43, al_43, rd_44, al_44, rd_45, al_45, rd_46, al_46, rd_47, al_47, rd_48, al_48, rd_49, al_49, rd_50, al_50, rd_51, al_51, rd_52, al_52, rd_53, al_53, rd_54, al_54, rd_55, al_55, lck_0, lck_i, lck_r, lck_n, lck_l, csum_0, csum_i, csum_r, csum_l, pops_0, pops_s, psh_n, psh_s, List.getElem?_cons_zero, List.getElem?_cons_succ, List.set_cons_zero, List.set_cons_succ, true_and, and_true, Nat.reduceAdd, Nat.reduceLeDiff, v47, a1.2, up42b, upA_42, upA_same, upd_same, upd_id, upA_4442b]
    exact ⟨fun _ => ⟨a1.1, nx⟩, fun c => absurd (by decide) c⟩
  | succ d ih =>
    intro v e hQ a w
    have hlt : ¬ 99 < nI v := (show ¬ nI 99 < nI v from nI_nlt (by omega) (by omega))
    have m3 : mv (upd (h 42) (15 + 4 * k + 1) (nI v)) = up2 (mv (h 42)) 4 k (nI v) := mv_u4 _ _ _
    have hI3 : InvR (mv (upd (h 42) (15 + 4 * k + 1) (nI v))) := by rw [m3]; exact (InvR_n hI.1 (by decide))
    have l1 := byN_le (up2 (mv (h 42)) 4 k (nI v)) k m
    refine Rn_go C6_graceFor 60 ?_
    simp only [x6_graceFor_0, x6_graceFor_1, x6_graceFor_2, x6_graceFor_5, x6_graceFor_8, x6_graceFor_9, x6_graceFor_12, x6_graceFor_15, x6_graceFor_16, x6_graceFor_17, x6_graceFor_19, x6_graceFor_20, x6_graceFor_21, x6_graceFor_22, x6_graceFor_23, x6_graceFor_24, x6_graceFor_25, x6_graceFor_26, x6_graceFor_27, x6_graceFor_30, x6_graceFor_31, x6_graceFor_32, x6_graceFor_34, x6_graceFor_36, x6_graceFor_38, x6_graceFor_39, k6_graceFor_41, t6_graceFor_41, x6_graceFor_43, x6_graceFor_45, x6_graceFor_48, x6_graceFor_50, x6_graceFor_53, x6_graceFor_54, x6_graceFor_57, x6_graceFor_58, x6_graceFor_60, x6_graceFor_61, x6_graceFor_62, x6_graceFor_63, x6_graceFor_65, x6_graceFor_66, x6_graceFor_69, x6_graceFor_70, x6_graceFor_73, x6_graceFor_75, x6_graceFor_78, x6_graceFor_80, x6_graceFor_82, x6_graceFor_85, x6_graceFor_88, x6_graceFor_89, x6_graceFor_92, x6_graceFor_93, x6_graceFor_95, x6_graceFor_96, x6_graceFor_98, i_ald, i_cS, i_cV, i_get, i_goto, i_iadd, i_iald, i_iast, i_ic, i_ic_gt, i_if_eq, i_if_ge, i_if_ne, i_ild, i_imul, i_inc, i_iret, i_ist, oc_41, fv_41_0, fv_41_1, fv_41_2, fv_41_3, fv_41_4, ly_41_4, fv_41_5, fv_41_6, ly_41_6, fv_41_7, ly_41_7, fv_41_8, ly_41_8, fv_41_9, ly_41_9, fv_41_10, ly_41_10, fv_41_11, ly_41_11, fv_41_12, fv_41_13, fv_41_14, ly_41_14, fv_41_15, fv_41_16, fv_41_17, fv_41_18, fv_41_19, fv_41_20, fv_41_21, fv_41_22, ly_41_22, fv_41_23, ly_41_23, fv_41_24, ly_41_24, fv_41_25, ly_41_25, fv_41_26, ly_41_26, rd_42, al_42, rd_43, al_43, rd_44, al_44, rd_45, al_45, rd_46, al_46, rd_47, al_47, rd_48, al_48, rd_49, al_49, rd_50, al_50, rd_51, al_51, rd_52, al_52, rd_53, al_53, rd_54, al_54, rd_55, al_55, lck_0, lck_i, lck_r, lck_n, lck_l, csum_0, csum_i, csum_r, csum_l, pops_0, pops_s, psh_n, psh_s, List.getElem?_cons_zero, List.getElem?_cons_succ, List.set_cons_zero, List.set_cons_succ, true_and, and_true, Nat.reduceAdd, Nat.reduceLeDiff, S6_passesBy, v47, a1.2, up42b, upA_42, upA_same, upd_same, ix, hx2, hxm, upA_cm, byK]
    refine ⟨fun c => absurd c hlt, fun _ => ⟨fun c => absurd c n3, fun _ => ⟨a1.1, i8, m60, hI3, fun b => ?_⟩⟩⟩
    rw [m3]
    refine ⟨fun c => ?_, fun c => ?_⟩
    · have c1 : ¬ byN (up2 (mv (h 42)) 4 k (nI v)) k m ≤ m := fun q => absurd c (nI_nlt q (by omega))
      have e1 : gfF (mv (h 42)) k m (d + 1) v = gfF (mv (h 42)) k m d (v + 1) := by rw [gfF, if_neg c1]
      rw [e1] at hQ
      have nx := ih (v + 1) (by omega) hQ b (nI v)
      rw [← nI_1] at nx
      exact nx
    · have c1 : byN (up2 (mv (h 42)) 4 k (nI v)) k m ≤ m := by
        rcases Nat.lt_or_ge m (byN (up2 (mv (h 42)) 4 k (nI v)) k m) with q | q
        · exact absurd (nI_lt q (by omega)) c
        · exact q
      have e1 : gfF (mv (h 42)) k m (d + 1) v = nI v := by rw [gfF, if_pos c1]
      rw [e1] at hQ
      have nx := hQ b
      have p0 : 0 ≤ nI v := nI_pos' (by omega)
      refine Rn_go C6_graceFor 60 ?_
      simp only [x6_graceFor_0, x6_graceFor_1, x6_graceFor_2, x6_graceFor_5, x6_graceFor_8, x6_graceFor_9, x6_graceFor_12, x6_graceFor_15, x6_graceFor_16, x6_graceFor_17, x6_graceFor_19, x6_graceFor_20, x6_graceFor_21, x6_graceFor_22, x6_graceFor_23, x6_graceFor_24, x6_graceFor_25, x6_graceFor_26, x6_graceFor_27, x6_graceFor_30, x6_graceFor_31, x6_graceFor_32, x6_graceFor_34, x6_graceFor_36, x6_graceFor_38, x6_graceFor_39, k6_graceFor_41, t6_graceFor_41, x6_graceFor_43, x6_graceFor_45, x6_graceFor_48, x6_graceFor_50, x6_graceFor_53, x6_graceFor_54, x6_graceFor_57, x6_graceFor_58, x6_graceFor_60, x6_graceFor_61, x6_graceFor_62, x6_graceFor_63, x6_graceFor_65, x6_graceFor_66, x6_graceFor_69, x6_graceFor_70, x6_graceFor_73, x6_graceFor_75, x6_graceFor_78, x6_graceFor_80, x6_graceFor_82, x6_graceFor_85, x6_graceFor_88, x6_graceFor_89, x6_graceFor_92, x6_graceFor_93, x6_graceFor_95, x6_graceFor_96, x6_graceFor_98, i_ald, i_cS, i_cV, i_get, i_goto, i_iadd, i_iald, i_iast, i_ic, i_ic_gt, i_if_eq, i_if_ge, i_if_ne, i_ild, i_imul, i_inc, i_iret, i_ist, oc_41, fv_41_0, fv_41_1, fv_41_2, fv_41_3, fv_41_4, ly_41_4, fv_41_5, fv_41_6, ly_41_6, fv_41_7, ly_41_7, fv_41_8, ly_41_8, fv_41_9, ly_41_9, fv_41_10, ly_41_10, fv_41_11, ly_41_11, fv_41_12, fv_41_13, fv_41_14, ly_41_14, fv_41_15, fv_41_16, fv_41_17, fv_41_18, fv_41_19, fv_41_20, fv_41_21, fv_41_22, ly_41_22, fv_41_23, ly_41_23, fv_41_24, ly_41_24, fv_41_25, ly_41_25, fv_41_26, ly_41_26, rd_42, al_42, rd_43, al_43, rd_44, al_44, rd_45, al_45, rd_46, al_46, rd_47, al_47, rd_48, al_48, rd_49, al_49, rd_50, al_50, rd_51, al_51, rd_52, al_52, rd_53, al_53, rd_54, al_54, rd_55, al_55, lck_0, lck_i, lck_r, lck_n, lck_l, csum_0, csum_i, csum_r, csum_l, pops_0, pops_s, psh_n, psh_s, List.getElem?_cons_zero, List.getElem?_cons_succ, List.set_cons_zero, List.set_cons_succ, true_and, and_true, Nat.reduceAdd, Nat.reduceLeDiff, v47, a1.2, up42b, upA_42, upA_same, upd_same, upd_id, upA_4442b]
      exact ⟨fun _ => ⟨a1.1, nx⟩, fun _ => ⟨fun _ => ⟨a1.1, nx⟩, fun c => absurd p0 c⟩⟩
theorem of40 {n : Int32} (h0 : 0 ≤ n) (h1 : n ≤ 40) : ∃ m, m ≤ 40 ∧ n = nI m := by
  have := ix_lt (n := 41) h0 (show n < (41 : Int32) by grind) (by decide)
  exact ⟨ix n, by omega, (nI_ix h0).symm⟩
theorem pr_graceFor {h : Hp} (r : Rel h) (o : Int32) (n : Int32) : S5_graceFor [.ref 0, .int o, .int n] h (fun rv h1 => S6_graceFor [.ref 41, .int o, .int n] h1 (fun rw h2 => rw = rv ∧ Rel h2)) := by
  obtain ⟨g0, g1, g2, g3, g4⟩ := raw r
  have hI := r.1.2
  have iM := InvG_c r.1.1 hI
  by_cases c : 0 ≤ o ∧ o < h 1 6
  · obtain ⟨o8, hn, q1, q2, q3, q4⟩ := g4 o c.1 c.2
    have c2 : 0 ≤ o ∧ o < h 42 0 := by rw [← g0.1]; exact c
    obtain ⟨k, hk, rfl⟩ := of8 o8.1 o8.2
    have hx2 : (nI k).toNatClampNeg = k := ix_nI (by omega)
    rw [show ix (nI k) = k from hx2] at hn
    obtain ⟨a0, a1, a2, a3⟩ := at_ix o8
    rw [show ix (nI k) = k from hx2] at a1
    by_cases ca : 0 ≤ n ∧ n ≤ 40
    · obtain ⟨m, hm, rfl⟩ := of40 ca.1 ca.2
      have eK := gfF_c r.1.1 hI hn m 100 0
      have key : ∀ h1, Fr8 h h1 → S6_graceFor [.ref 41, .int (nI k), .int (nI m)] h1 (fun rw h2 => rw = some (.int (gfF (vg h 1) k m 100 0)) ∧ Rel h2) := by
        intro h1 f
        have r1 := Rel_8 r f
        have e42 : h1 42 = h 42 := f 42 (by omega)
        have nx := lp6_graceFor (h := h1) (Q := fun rw h2 => rw = some (.int (gfF (vg h 1) k m 100 0)) ∧ Rel h2) (by rw [e42]; exact iM) (k := k) (by rw [e42, ← Geq_n r.1.1]; exact hn) hm 100 0 (by omega) (fun a => ⟨by rw [e42, eK], Rel_44 r1 a⟩) (h1 44) (h1 42 (15 + 4 * k + 1))
        rw [upd_id, upA_id, upA_id] at nx
        refine Rn_in C6_graceFor 60 ?_
        simp only [x6_graceFor_0, x6_graceFor_1, x6_graceFor_2, x6_graceFor_5, x6_graceFor_8, x6_graceFor_9, x6_graceFor_12, x6_graceFor_15, x6_graceFor_16, x6_graceFor_17, x6_graceFor_19, x6_graceFor_20, x6_graceFor_21, x6_graceFor_22, x6_graceFor_23, x6_graceFor_24, x6_graceFor_25, x6_graceFor_26, x6_graceFor_27, x6_graceFor_30, x6_graceFor_31, x6_graceFor_32, x6_graceFor_34, x6_graceFor_36, x6_graceFor_38, x6_graceFor_39, k6_graceFor_41, t6_graceFor_41, x6_graceFor_43, x6_graceFor_45, x6_graceFor_48, x6_graceFor_50, x6_graceFor_53, x6_graceFor_54, x6_graceFor_57, x6_graceFor_58, x6_graceFor_60, x6_graceFor_61, x6_graceFor_62, x6_graceFor_63, x6_graceFor_65, x6_graceFor_66, x6_graceFor_69, x6_graceFor_70, x6_graceFor_73, x6_graceFor_75, x6_graceFor_78, x6_graceFor_80, x6_graceFor_82, x6_graceFor_85, x6_graceFor_88, x6_graceFor_89, x6_graceFor_92, x6_graceFor_93, x6_graceFor_95, x6_graceFor_96, x6_graceFor_98, i_ald, i_cS, i_cV, i_get, i_goto, i_iadd, i_iald, i_iast, i_ic, i_ic_gt, i_if_eq, i_if_ge, i_if_ne, i_ild, i_imul, i_inc, i_iret, i_ist, oc_41, fv_41_0, fv_41_1, fv_41_2, fv_41_3, fv_41_4, ly_41_4, fv_41_5, fv_41_6, ly_41_6, fv_41_7, ly_41_7, fv_41_8, ly_41_8, fv_41_9, ly_41_9, fv_41_10, ly_41_10, fv_41_11, ly_41_11, fv_41_12, fv_41_13, fv_41_14, ly_41_14, fv_41_15, fv_41_16, fv_41_17, fv_41_18, fv_41_19, fv_41_20, fv_41_21, fv_41_22, ly_41_22, fv_41_23, ly_41_23, fv_41_24, ly_41_24, fv_41_25, ly_41_25, fv_41_26, ly_41_26, rd_42, al_42, rd_43, al_43, rd_44, al_44, rd_45, al_45, rd_46, al_46, rd_47, al_47, rd_48, al_48, rd_49, al_49, rd_50, al_50, rd_51, al_51, rd_52, al_52, rd_53, al_53, rd_54, al_54, rd_55, al_55, lck_0, lck_i, lck_r, lck_n, lck_l, csum_0, csum_i, csum_r, csum_l, pops_0, pops_s, psh_n, psh_s, List.getElem?_cons_zero, List.getElem?_cons_succ, List.set_cons_zero, List.set_cons_succ, true_and, and_true, Nat.reduceAdd, Nat.reduceLeDiff, S6_isOne, S6_isShort, hsB_0, bIn_0, lo_0, hi_40, ca, e42, c2, v47, a1.2, nn, false_implies, true_implies, implies_true, and_true, true_and, not_true_eq_false, not_false_eq_true, eq_self]
        rw [e42] at nx
        exact ⟨a1.1, nx⟩
      have nx := lp5_graceFor (h := h) hI hn hm (Q := fun rv h1 => S6_graceFor [.ref 41, .int (nI k), .int (nI m)] h1 (fun rw h2 => rw = rv ∧ Rel h2)) 100 0 (by omega) key _ (Hi8_0 h)
      rw [pg_vg] at nx
      refine Rn_in C5_graceFor 60 ?_
      simp only [x5_graceFor_0, x5_graceFor_1, x5_graceFor_4, x5_graceFor_5, x5_graceFor_8, x5_graceFor_11, x5_graceFor_12, x5_graceFor_14, x5_graceFor_17, x5_graceFor_20, x5_graceFor_21, x5_graceFor_22, x5_graceFor_23, k5_graceFor_24, t5_graceFor_24, x5_graceFor_25, x5_graceFor_27, x5_graceFor_30, x5_graceFor_31, x5_graceFor_34, x5_graceFor_35, x5_graceFor_38, x5_graceFor_41, x5_graceFor_42, x5_graceFor_45, x5_graceFor_48, x5_graceFor_49, x5_graceFor_50, x5_graceFor_51, x5_graceFor_52, x5_graceFor_55, x5_graceFor_56, x5_graceFor_58, x5_graceFor_59, x5_graceFor_62, x5_graceFor_64, x5_graceFor_67, x5_graceFor_68, x5_graceFor_69, x5_graceFor_72, x5_graceFor_75, x5_graceFor_77, i_ald, i_cS, i_cV, i_get, i_goto, i_iast, i_ic, i_ic_eq, i_ic_gt, i_if_eq, i_if_ne, i_ild, i_inc, i_iret, i_ist, oc_0, fv_0_0, fv_0_1, fv_0_2, fv_0_3, ly_0_3, fv_0_4, fv_0_5, fv_0_6, ly_0_6, fv_0_7, fv_0_8, fv_0_9, oc_1, fv_1_0, fv_1_1, fv_1_2, fv_1_3, fv_1_4, fv_1_5, fv_1_6, ly_1_6, fv_1_7, ly_1_7, fv_1_8, ly_1_8, rd_2, al_2, rd_3, al_3, rd_4, al_4, rd_5, al_5, rd_6, al_6, rd_7, al_7, oc_8, fv_8_0, fv_8_1, fv_8_2, fv_8_3, fv_8_4, fv_8_5, fv_8_6, ly_8_6, fv_8_7, ly_8_7, fv_8_8, ly_8_8, rd_9, al_9, rd_10, al_10, rd_11, al_11, rd_12, al_12, rd_13, al_13, rd_14, al_14, lck_0, lck_i, lck_r, lck_n, lck_l, csum_0, csum_i, csum_r, csum_l, pops_0, pops_s, psh_n, psh_s, List.getElem?_cons_zero, List.getElem?_cons_succ, List.set_cons_zero, List.set_cons_succ, true_and, and_true, Nat.reduceAdd, Nat.reduceLeDiff, S1_has, S5_isWithin, GB_1, b2_0, c, ca, nn, false_implies, true_implies, implies_true, and_true, true_and, not_true_eq_false, not_false_eq_true, eq_self]
      exact nx
    · refine Rn_in C5_graceFor 60 ?_
      simp only [x5_graceFor_0, x5_graceFor_1, x5_graceFor_4, x5_graceFor_5, x5_graceFor_8, x5_graceFor_11, x5_graceFor_12, x5_graceFor_14, x5_graceFor_17, x5_graceFor_20, x5_graceFor_21, x5_graceFor_22, x5_graceFor_23, k5_graceFor_24, t5_graceFor_24, x5_graceFor_25, x5_graceFor_27, x5_graceFor_30, x5_graceFor_31, x5_graceFor_34, x5_graceFor_35, x5_graceFor_38, x5_graceFor_41, x5_graceFor_42, x5_graceFor_45, x5_graceFor_48, x5_graceFor_49, x5_graceFor_50, x5_graceFor_51, x5_graceFor_52, x5_graceFor_55, x5_graceFor_56, x5_graceFor_58, x5_graceFor_59, x5_graceFor_62, x5_graceFor_64, x5_graceFor_67, x5_graceFor_68, x5_graceFor_69, x5_graceFor_72, x5_graceFor_75, x5_graceFor_77, i_ald, i_cS, i_cV, i_get, i_goto, i_iast, i_ic, i_ic_eq, i_ic_gt, i_if_eq, i_if_ne, i_ild, i_inc, i_iret, i_ist, oc_0, fv_0_0, fv_0_1, fv_0_2, fv_0_3, ly_0_3, fv_0_4, fv_0_5, fv_0_6, ly_0_6, fv_0_7, fv_0_8, fv_0_9, oc_1, fv_1_0, fv_1_1, fv_1_2, fv_1_3, fv_1_4, fv_1_5, fv_1_6, ly_1_6, fv_1_7, ly_1_7, fv_1_8, ly_1_8, rd_2, al_2, rd_3, al_3, rd_4, al_4, rd_5, al_5, rd_6, al_6, rd_7, al_7, oc_8, fv_8_0, fv_8_1, fv_8_2, fv_8_3, fv_8_4, fv_8_5, fv_8_6, ly_8_6, fv_8_7, ly_8_7, fv_8_8, ly_8_8, rd_9, al_9, rd_10, al_10, rd_11, al_11, rd_12, al_12, rd_13, al_13, rd_14, al_14, lck_0, lck_i, lck_r, lck_n, lck_l, csum_0, csum_i, csum_r, csum_l, pops_0, pops_s, psh_n, psh_s, List.getElem?_cons_zero, List.getElem?_cons_succ, List.set_cons_zero, List.set_cons_succ, true_and, and_true, Nat.reduceAdd, Nat.reduceLeDiff, S1_has, S5_isWithin, GB_1, b2_0, c, ca, nn, false_implies, true_implies, implies_true, and_true, true_and, not_true_eq_false, not_false_eq_true, eq_self]
      refine Rn_in C6_graceFor 60 ?_
      simp only [x6_graceFor_0, x6_graceFor_1, x6_graceFor_2, x6_graceFor_5, x6_graceFor_8, x6_graceFor_9, x6_graceFor_12, x6_graceFor_15, x6_graceFor_16, x6_graceFor_17, x6_graceFor_19, x6_graceFor_20, x6_graceFor_21, x6_graceFor_22, x6_graceFor_23, x6_graceFor_24, x6_graceFor_25, x6_graceFor_26, x6_graceFor_27, x6_graceFor_30, x6_graceFor_31, x6_graceFor_32, x6_graceFor_34, x6_graceFor_36, x6_graceFor_38, x6_graceFor_39, k6_graceFor_41, t6_graceFor_41, x6_graceFor_43, x6_graceFor_45, x6_graceFor_48, x6_graceFor_50, x6_graceFor_53, x6_graceFor_54, x6_graceFor_57, x6_graceFor_58, x6_graceFor_60, x6_graceFor_61, x6_graceFor_62, x6_graceFor_63, x6_graceFor_65, x6_graceFor_66, x6_graceFor_69, x6_graceFor_70, x6_graceFor_73, x6_graceFor_75, x6_graceFor_78, x6_graceFor_80, x6_graceFor_82, x6_graceFor_85, x6_graceFor_88, x6_graceFor_89, x6_graceFor_92, x6_graceFor_93, x6_graceFor_95, x6_graceFor_96, x6_graceFor_98, i_ald, i_cS, i_cV, i_get, i_goto, i_iadd, i_iald, i_iast, i_ic, i_ic_gt, i_if_eq, i_if_ge, i_if_ne, i_ild, i_imul, i_inc, i_iret, i_ist, oc_41, fv_41_0, fv_41_1, fv_41_2, fv_41_3, fv_41_4, ly_41_4, fv_41_5, fv_41_6, ly_41_6, fv_41_7, ly_41_7, fv_41_8, ly_41_8, fv_41_9, ly_41_9, fv_41_10, ly_41_10, fv_41_11, ly_41_11, fv_41_12, fv_41_13, fv_41_14, ly_41_14, fv_41_15, fv_41_16, fv_41_17, fv_41_18, fv_41_19, fv_41_20, fv_41_21, fv_41_22, ly_41_22, fv_41_23, ly_41_23, fv_41_24, ly_41_24, fv_41_25, ly_41_25, fv_41_26, ly_41_26, rd_42, al_42, rd_43, al_43, rd_44, al_44, rd_45, al_45, rd_46, al_46, rd_47, al_47, rd_48, al_48, rd_49, al_49, rd_50, al_50, rd_51, al_51, rd_52, al_52, rd_53, al_53, rd_54, al_54, rd_55, al_55, lck_0, lck_i, lck_r, lck_n, lck_l, csum_0, csum_i, csum_r, csum_l, pops_0, pops_s, psh_n, psh_s, List.getElem?_cons_zero, List.getElem?_cons_succ, List.set_cons_zero, List.set_cons_succ, true_and, and_true, Nat.reduceAdd, Nat.reduceLeDiff, S6_isOne, S6_isShort, hsB_0, bIn_0, lo_0, hi_40, ca, c2, nn, false_implies, true_implies, implies_true, and_true, true_and, not_true_eq_false, not_false_eq_true, eq_self]
      exact r
  · have c2 : ¬ (0 ≤ o ∧ o < h 42 0) := by rw [← g0.1]; exact c
    refine Rn_in C5_graceFor 60 ?_
    simp only [x5_graceFor_0, x5_graceFor_1, x5_graceFor_4, x5_graceFor_5, x5_graceFor_8, x5_graceFor_11, x5_graceFor_12, x5_graceFor_14, x5_graceFor_17, x5_graceFor_20, x5_graceFor_21, x5_graceFor_22, x5_graceFor_23, k5_graceFor_24, t5_graceFor_24, x5_graceFor_25, x5_graceFor_27, x5_graceFor_30, x5_graceFor_31, x5_graceFor_34, x5_graceFor_35, x5_graceFor_38, x5_graceFor_41, x5_graceFor_42, x5_graceFor_45, x5_graceFor_48, x5_graceFor_49, x5_graceFor_50, x5_graceFor_51, x5_graceFor_52, x5_graceFor_55, x5_graceFor_56, x5_graceFor_58, x5_graceFor_59, x5_graceFor_62, x5_graceFor_64, x5_graceFor_67, x5_graceFor_68, x5_graceFor_69, x5_graceFor_72, x5_graceFor_75, x5_graceFor_77, i_ald, i_cS, i_cV, i_get, i_goto, i_iast, i_ic, i_ic_eq, i_ic_gt, i_if_eq, i_if_ne, i_ild, i_inc, i_iret, i_ist, oc_0, fv_0_0, fv_0_1, fv_0_2, fv_0_3, ly_0_3, fv_0_4, fv_0_5, fv_0_6, ly_0_6, fv_0_7, fv_0_8, fv_0_9, oc_1, fv_1_0, fv_1_1, fv_1_2, fv_1_3, fv_1_4, fv_1_5, fv_1_6, ly_1_6, fv_1_7, ly_1_7, fv_1_8, ly_1_8, rd_2, al_2, rd_3, al_3, rd_4, al_4, rd_5, al_5, rd_6, al_6, rd_7, al_7, oc_8, fv_8_0, fv_8_1, fv_8_2, fv_8_3, fv_8_4, fv_8_5, fv_8_6, ly_8_6, fv_8_7, ly_8_7, fv_8_8, ly_8_8, rd_9, al_9, rd_10, al_10, rd_11, al_11, rd_12, al_12, rd_13, al_13, rd_14, al_14, lck_0, lck_i, lck_r, lck_n, lck_l, csum_0, csum_i, csum_r, csum_l, pops_0, pops_s, psh_n, psh_s, List.getElem?_cons_zero, List.getElem?_cons_succ, List.set_cons_zero, List.set_cons_succ, true_and, and_true, Nat.reduceAdd, Nat.reduceLeDiff, S1_has, GB_1, b2_0, c, nn, false_implies, true_implies, implies_true, and_true, true_and, not_true_eq_false, not_false_eq_true, eq_self]
    refine Rn_in C6_graceFor 60 ?_
    simp only [x6_graceFor_0, x6_graceFor_1, x6_graceFor_2, x6_graceFor_5, x6_graceFor_8, x6_graceFor_9, x6_graceFor_12, x6_graceFor_15, x6_graceFor_16, x6_graceFor_17, x6_graceFor_19, x6_graceFor_20, x6_graceFor_21, x6_graceFor_22, x6_graceFor_23, x6_graceFor_24, x6_graceFor_25, x6_graceFor_26, x6_graceFor_27, x6_graceFor_30, x6_graceFor_31, x6_graceFor_32, x6_graceFor_34, x6_graceFor_36, x6_graceFor_38, x6_graceFor_39, k6_graceFor_41, t6_graceFor_41, x6_graceFor_43, x6_graceFor_45, x6_graceFor_48, x6_graceFor_50, x6_graceFor_53, x6_graceFor_54, x6_graceFor_57, x6_graceFor_58, x6_graceFor_60, x6_graceFor_61, x6_graceFor_62, x6_graceFor_63, x6_graceFor_65, x6_graceFor_66, x6_graceFor_69, x6_graceFor_70, x6_graceFor_73, x6_graceFor_75, x6_graceFor_78, x6_graceFor_80, x6_graceFor_82, x6_graceFor_85, x6_graceFor_88, x6_graceFor_89, x6_graceFor_92, x6_graceFor_93, x6_graceFor_95, x6_graceFor_96, x6_graceFor_98, i_ald, i_cS, i_cV, i_get, i_goto, i_iadd, i_iald, i_iast, i_ic, i_ic_gt, i_if_eq, i_if_ge, i_if_ne, i_ild, i_imul, i_inc, i_iret, i_ist, oc_41, fv_41_0, fv_41_1, fv_41_2, fv_41_3, fv_41_4, ly_41_4, fv_41_5, fv_41_6, ly_41_6, fv_41_7, ly_41_7, fv_41_8, ly_41_8, fv_41_9, ly_41_9, fv_41_10, ly_41_10, fv_41_11, ly_41_11, fv_41_12, fv_41_13, fv_41_14, ly_41_14, fv_41_15, fv_41_16, fv_41_17, fv_41_18, fv_41_19, fv_41_20, fv_41_21, fv_41_22, ly_41_22, fv_41_23, ly_41_23, fv_41_24, ly_41_24, fv_41_25, ly_41_25, fv_41_26, ly_41_26, rd_42, al_42, rd_43, al_43, rd_44, al_44, rd_45, al_45, rd_46, al_46, rd_47, al_47, rd_48, al_48, rd_49, al_49, rd_50, al_50, rd_51, al_51, rd_52, al_52, rd_53, al_53, rd_54, al_54, rd_55, al_55, lck_0, lck_i, lck_r, lck_n, lck_l, csum_0, csum_i, csum_r, csum_l, pops_0, pops_s, psh_n, psh_s, List.getElem?_cons_zero, List.getElem?_cons_succ, List.set_cons_zero, List.set_cons_succ, true_and, and_true, Nat.reduceAdd, Nat.reduceLeDiff, S6_isOne, hsB_0, c2, nn, false_implies, true_implies, implies_true, and_true, true_and, not_true_eq_false, not_false_eq_true, eq_self]
    exact r
