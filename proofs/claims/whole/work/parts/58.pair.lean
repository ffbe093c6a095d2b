/-! pairs: as what, with how much grace, by which rite left off, waiting for whom -/
theorem upA_cm (h : Hp) (s a : Nat → Int32) : upA (upA h 42 s) 44 a = upA (upA h 44 a) 42 s := by
  funext p q; simp only [upA]; grind
theorem upd_id (f : Nat → Int32) (k : Nat) : upd f k (f k) = f := by
  funext j; simp only [upd]; grind
theorem upd_self (f : Nat → Int32) (k : Nat) (v : Int32) : upd f k v k = v := by simp [upd]
theorem InvG_c8 {h : Hp} (D : GG) (hI : InvG (vg h 1)) : Geq (cpG D (vg h 1)) (vg h 1) ∧ InvG (cpG D (vg h 1)) := cpG_i hI
def tmN (G : GG) (i : Nat) : Nat := fstT G i 8 61 0
theorem tmN_le (G : GG) (i : Nat) : tmN G i ≤ 61 := fstT_le G i 8 61 0
theorem tmN_c {G H : GG} (h : Geq G H) (hi : InvR G) {i : Nat} (hn : i < nG G) : tmN G i = tmN H i := fstT_c h hi hn 8 61 0
theorem tmK (G : GG) (i : Nat) : (if fstT G i 8 61 0 ≤ 60 then nI (fstT G i 8 61 0) else 61) = nI (tmN G i) := tmR G i 8
theorem tmM (G : GG) (i : Nat) : nI (fstT G i 8 61 0) = nI (tmN G i) := rfl
theorem up8_k (G : GG) (a k : Nat) (v : Int32) (ha : a ≠ 0) : up2 G a k v 0 = G 0 := up2_ne (fun e => ha e.symm)
theorem up8_1' (G : GG) (k : Nat) (v : Int32) : up2 G 2 k v 0 = G 0 := up2_ne (by decide)
theorem up8_2' (G : GG) (k : Nat) (v : Int32) : up2 G 3 k v 0 = G 0 := up2_ne (by decide)
theorem up8_3' (G : GG) (k : Nat) (v : Int32) : up2 G 4 k v 0 = G 0 := up2_ne (by decide)
theorem up8_5' (G : GG) (k : Nat) (v : Int32) : up2 G 6 k v 0 = G 0 := up2_ne (by decide)
/-! kindFor -/
def kfF (G : GG) (i : Nat) : Nat → Int32 × Nat
  | 0 => (0, 61)
  | j + 1 => if tmN (up2 G 3 i (nI j)) i < (kfF G i j).2 then (nI j, tmN (up2 G 3 i (nI j)) i) else kfF G i j
theorem kfF_le (G : GG) (i : Nat) : ∀ j, (kfF G i j).2 ≤ 61
  | 0 => Nat.le_refl _
  | j + 1 => by
    simp only [kfF]
    split
    · exact tmN_le _ _
    · exact kfF_le G i j
theorem kfF_c {G H : GG} (h : Geq G H) (hi : InvG G) {i : Nat} (hn : i < nG G) : ∀ j, kfF G i j = kfF H i j
  | 0 => rfl
  | j + 1 => by
    simp only [kfF]
    rw [kfF_c h hi hn j, tmN_c (Geq_up h (j := 3) i (nI j) (by simp)) (InvR_n hi.1 (by decide)) (by rw [upd_count (by simp)]; exact hn)]
def S5_kindFor : Sp := fun av h Q => match av with | [.ref x, .int o] => Rn (T5_kindFor Q S1_has S1_copy S1_timeTo) (0, [some (.ref x), some (.int o), none, none, none, none], [], h) | _ => False
theorem rn5_kindFor {h : Hp} {Q : Po} {x : Nat} {o : Int32} (hS : S5_kindFor [.ref x, .int o] h Q) : Rn (T5_kindFor Q S1_has S1_copy S1_timeTo) (0, [some (.ref x), some (.int o), none, none, none, none], [], h) := hS
def S6_kindFor : Sp := fun av h Q => match av with | [.ref x, .int o] => Rn (T6_kindFor Q S6_isOne S6_passesBy) (0, [some (.ref x), some (.int o), none, none, none, none, none, none], [], h) | _ => False
theorem rn6_kindFor {h : Hp} {Q : Po} {x : Nat} {o : Int32} (hS : S6_kindFor [.ref x, .int o] h Q) : Rn (T6_kindFor Q S6_isOne S6_passesBy) (0, [some (.ref x), some (.int o), none, none, none, none, none, none], [], h) := hS
theorem lp5_kindFor {h : Hp} {Q : Po} (hI : InvG (vg h 1)) {k : Nat} (hn : k < nG (vg h 1)) (hQ : ∀ h1, Fr8 h h1 → Q (some (.int (kfF (vg h 1) k 6).1)) h1) : ∀ d j, d + j = 6 → ∀ G, Hi8 h G → ∀ y, Rn (T5_kindFor Q S1_has S1_copy S1_timeTo) (21, [some (.ref 0), some (.int (nI k)), some (.int (kfF (vg h 1) k j).1), some (.int (nI (kfF (vg h 1) k j).2)), some (.int (nI j)), y], [], pg h 8 G)
  | 0, j, e, G, hG, y => by
    have e : j = 6 := by omega
    subst e
    have nx := hQ _ (Hi8_fr hG)
    refine Rn_go C5_kindFor 60 ?_
    simp only [x5_kindFor_0, x5_kindFor_1, x5_kindFor_4, x5_kindFor_5, x5_kindFor_8, x5_kindFor_11, x5_kindFor_12, x5_kindFor_13, x5_kindFor_14, x5_kindFor_15, x5_kindFor_17, x5_kindFor_18, x5_kindFor_19, k5_kindFor_21, t5_kindFor_21, x5_kindFor_23, x5_kindFor_25, x5_kindFor_28, x5_kindFor_29, x5_kindFor_32, x5_kindFor_33, x5_kindFor_36, x5_kindFor_39, x5_kindFor_40, x5_kindFor_43, x5_kindFor_46, x5_kindFor_47, x5_kindFor_49, x5_kindFor_50, x5_kindFor_51, x5_kindFor_54, x5_kindFor_55, x5_kindFor_57, x5_kindFor_59, x5_kindFor_62, x5_kindFor_64, x5_kindFor_66, x5_kindFor_67, x5_kindFor_70, x5_kindFor_72, x5_kindFor_73, x5_kindFor_75, x5_kindFor_76, x5_kindFor_79, x5_kindFor_82, x5_kindFor_83, i_ald, i_cV, i_get, i_goto, i_iast, i_ic, i_ic_ge, i_if_ne, i_ild, i_inc, i_iret, i_ist, oc_0, fv_0_0, fv_0_1, fv_0_2, fv_0_3, ly_0_3, fv_0_4, fv_0_5, fv_0_6, ly_0_6, fv_0_7, fv_0_8, fv_0_9, oc_1, fv_1_0, fv_1_1, fv_1_2, fv_1_3, fv_1_4, fv_1_5, fv_1_6, ly_1_6, fv_1_7, ly_1_7, fv_1_8, ly_1_8, rd_2, al_2, rd_3, al_3, rd_4, al_4, rd_5, al_5, rd_6, al_6, rd_7, al_7, oc_8, fv_8_0, fv_8_1, fv_8_2, fv_8_3, fv_8_4, fv_8_5, fv_8_6, ly_8_6, fv_8_7, ly_8_7, fv_8_8, ly_8_8, rd_9, al_9, rd_10, al_10, rd_11, al_11, rd_12, al_12, rd_13, al_13, rd_14, al_14, lck_0, lck_i, lck_r, lck_n, lck_l, csum_0, csum_i, csum_r, csum_l, pops_0, pops_s, psh_n, psh_s, List.getElem?_cons_zero, List.getElem?_cons_succ, List.set_cons_zero, List.set_cons_succ, true_and, and_true, Nat.reduceAdd, Nat.reduceLeDiff]
    exact ⟨fun _ => nx, fun c => absurd (by decide) c⟩
  | d + 1, j, e, G, hG, y => by
    have ih := lp5_kindFor hI hn hQ d (j + 1) (by omega)
    rw [← nI_1] at ih
    have k8 := nG_8 hI.1
    have i8 := nlt8 (j := k) (by omega)
    have hx : (nI k).toNatClampNeg = k := ix_nI (by omega)
    have hlt : ¬ 6 ≤ nI j := Int32.not_le.mpr (nI_lt (b := 6) (by omega) (by decide))
    obtain ⟨eC, iC⟩ := InvG_c8 (h := h) G hI
    have c8 : 0 ≤ cpG G (vg h 1) 0 6 ∧ cpG G (vg h 1) 0 6 ≤ 8 := iC.1.1
    have et := tmN_c (Geq_up eC (j := 3) k (nI j) (by simp)) (InvR_n iC.1 (by decide)) (i := k) (by rw [upd_count (by simp), Geq_n eC]; exact hn)
    have nx := ih _ (Hi8_occ (Hi8_up (Hi8_cp _ (vg h 1) hG) k (nI j) (a := 3) (by decide)) (fstT (up2 (cpG G (vg h 1)) 3 k (nI j)) k 8 61 0)) (some (.int (nI (tmN (up2 (vg h 1) 3 k (nI j)) k))))
    simp only [kfF] at nx
    have l1 := tmN_le (up2 (vg h 1) 3 k (nI j)) k
    have l2 := kfF_le (vg h 1) k j
    refine Rn_go C5_kindFor 60 ?_
    simp only [x5_kindFor_0, x5_kindFor_1, x5_kindFor_4, x5_kindFor_5, x5_kindFor_8, x5_kindFor_11, x5_kindFor_12, x5_kindFor_13, x5_kindFor_14, x5_kindFor_15, x5_kindFor_17, x5_kindFor_18, x5_kindFor_19, k5_kindFor_21, t5_kindFor_21, x5_kindFor_23, x5_kindFor_25, x5_kindFor_28, x5_kindFor_29, x5_kindFor_32, x5_kindFor_33, x5_kindFor_36, x5_kindFor_39, x5_kindFor_40, x5_kindFor_43, x5_kindFor_46, x5_kindFor_47, x5_kindFor_49, x5_kindFor_50, x5_kindFor_51, x5_kindFor_54, x5_kindFor_55, x5_kindFor_57, x5_kindFor_59, x5_kindFor_62, x5_kindFor_64, x5_kindFor_66, x5_kindFor_67, x5_kindFor_70, x5_kindFor_72, x5_kindFor_73, x5_kindFor_75, x5_kindFor_76, x5_kindFor_79, x5_kindFor_82, x5_kindFor_83, i_ald, i_cV, i_get, i_goto, i_iast, i_ic, i_ic_ge, i_if_ne, i_ild, i_inc, i_iret, i_ist, oc_0, fv_0_0, fv_0_1, fv_0_2, fv_0_3, ly_0_3, fv_0_4, fv_0_5, fv_0_6, ly_0_6, fv_0_7, fv_0_8, fv_0_9, oc_1, fv_1_0, fv_1_1, fv_1_2, fv_1_3, fv_1_4, fv_1_5, fv_1_6, ly_1_6, fv_1_7, ly_1_7, fv_1_8, ly_1_8, rd_2, al_2, rd_3, al_3, rd_4, al_4, rd_5, al_5, rd_6, al_6, rd_7, al_7, oc_8, fv_8_0, fv_8_1, fv_8_2, fv_8_3, fv_8_4, fv_8_5, fv_8_6, ly_8_6, fv_8_7, ly_8_7, fv_8_8, ly_8_8, rd_9, al_9, rd_10, al_10, rd_11, al_11, rd_12, al_12, rd_13, al_13, rd_14, al_14, lck_0, lck_i, lck_r, lck_n, lck_l, csum_0, csum_i, csum_r, csum_l, pops_0, pops_s, psh_n, psh_s, List.getElem?_cons_zero, List.getElem?_cons_succ, List.set_cons_zero, List.set_cons_succ, true_and, and_true, Nat.reduceAdd, Nat.reduceLeDiff, S1_copy, S1_timeTo, CP_81, GB_8, cpG_pg, pg8_0, vg_pg, pg_pg, up8_3, up8_2', v8, ix60, ix, hx, Nat.reduceAdd, tmK]
    rw [et]
    refine ⟨fun c => absurd c hlt, fun _ => ⟨i8, i8, c8, by decide, fun c => ?_, fun c => ?_⟩⟩
    · rw [if_neg (fun q => absurd (nI_lt q (by omega)) (Int32.not_lt.mpr c))] at nx
      exact nx
    · rw [if_pos ((nI_ltI (by omega) (by omega)).mp (Int32.not_le.mp c))] at nx
      exact nx
def kfM (G : GG) (k j : Nat) : Int32 := if j = 0 then 1000 else nI (kfF G k j).2
theorem lp6_kindFor {h : Hp} {Q : Po} (hI : InvG (mv (h 42))) {k : Nat} (hn : k < nG (mv (h 42))) (hQ : ∀ a, Q (some (.int (kfF (mv (h 42)) k 6).1)) (upA h 44 a)) : ∀ d j, d + j = 6 → ∀ a v y, Rn (T6_kindFor Q S6_isOne S6_passesBy) (35, [some (.ref 41), some (.int (nI k)), some (.int (15 + 4 * nI k)), some (.int (h 42 (15 + 4 * k))), some (.int (kfF (mv (h 42)) k j).1), some (.int (kfM (mv (h 42)) k j)), some (.int (nI j)), y], [], upA (upA h 44 a) 42 (upd (h 42) (15 + 4 * k) v))
  | 0, j, e, a, v, y => by
    have e : j = 6 := by omega
    subst e
    have k8 := nG_8 hI.1
    have i8 := nlt8 (j := k) (by omega)
    have hx : ix (nI k) = k := ix_nI (by omega)
    obtain ⟨a0, a1, a2, a3⟩ := at_ix i8
    rw [hx] at a0
    have nx := hQ a
    refine Rn_go C6_kindFor 60 ?_
    simp only [x6_kindFor_0, x6_kindFor_1, x6_kindFor_2, x6_kindFor_5, x6_kindFor_8, x6_kindFor_9, x6_kindFor_10, x6_kindFor_12, x6_kindFor_13, x6_kindFor_14, x6_kindFor_15, x6_kindFor_16, x6_kindFor_17, x6_kindFor_18, x6_kindFor_21, x6_kindFor_22, x6_kindFor_23, x6_kindFor_24, x6_kindFor_25, x6_kindFor_27, x6_kindFor_30, x6_kindFor_32, x6_kindFor_33, k6_kindFor_35, t6_kindFor_35, x6_kindFor_37, x6_kindFor_38, x6_kindFor_41, x6_kindFor_42, x6_kindFor_45, x6_kindFor_46, x6_kindFor_48, x6_kindFor_49, x6_kindFor_50, x6_kindFor_51, x6_kindFor_53, x6_kindFor_55, x6_kindFor_58, x6_kindFor_60, x6_kindFor_62, x6_kindFor_64, x6_kindFor_67, x6_kindFor_69, x6_kindFor_72, x6_kindFor_74, x6_kindFor_76, x6_kindFor_78, x6_kindFor_80, x6_kindFor_83, x6_kindFor_85, x6_kindFor_88, x6_kindFor_90, x6_kindFor_92, x6_kindFor_95, x6_kindFor_98, x6_kindFor_99, x6_kindFor_102, x6_kindFor_103, x6_kindFor_104, x6_kindFor_105, x6_kindFor_107, i_ald, i_cV, i_get, i_goto, i_iadd, i_iald, i_iast, i_ic, i_ic_ge, i_ic_gt, i_if_ne, i_ild, i_imul, i_inc, i_iret, i_ist, oc_41, fv_41_0, fv_41_1, fv_41_2, fv_41_3, fv_41_4, ly_41_4, fv_41_5, fv_41_6, ly_41_6, fv_41_7, ly_41_7, fv_41_8, ly_41_8, fv_41_9, ly_41_9, fv_41_10, ly_41_10, fv_41_11, ly_41_11, fv_41_12, fv_41_13, fv_41_14, ly_41_14, fv_41_15, fv_41_16, fv_41_17, fv_41_18, fv_41_19, fv_41_20, fv_41_21, fv_41_22, ly_41_22, fv_41_23, ly_41_23, fv_41_24, ly_41_24, fv_41_25, ly_41_25, fv_41_26, ly_41_26, rd_42, al_42, rd_43, al_43, rd_44, al_44, rd_45, al_45, rd_46, al_46, rd_47, al_47, rd_48, al_48, rd_49, al_49, rd_50, al_50, rd_51, al_51, rd_52, al_52, rd_53, al_53, rd_54, al_54, rd_55, al_55, lck_0, lck_i, lck_r, lck_n, lck_l, csum_0, csum_i, csum_r, csum_l, pops_0, pops_s, psh_n, psh_s, List.getElem?_cons_zero, List.getElem?_cons_succ, List.set_cons_zero, List.set_cons_succ, true_and, and_true, Nat.reduceAdd, Nat.reduceLeDiff, v47, a0.2, up42b, upA_42, upA_same, upd_same, upd_id, upA_4442b]
    exact ⟨fun _ => ⟨a0.1, nx⟩, fun c => absurd (by decide) c⟩
  | d + 1, j, e, a, v, y => by
    have ih := lp6_kindFor hI hn hQ d (j + 1) (by omega)
    rw [← nI_1] at ih
    have k8 := nG_8 hI.1
    have i8 := nlt8 (j := k) (by omega)
    have hx : ix (nI k) = k := ix_nI (by omega)
    have hx2 : (nI k).toNatClampNeg = k := ix_nI (by omega)
    obtain ⟨a0, a1, a2, a3⟩ := at_ix i8
    rw [hx] at a0
    have hlt : ¬ 5 < nI j := (show ¬ nI 5 < nI j from nI_nlt (by omega) (by omega))
    have m3 : mv (upd (h 42) (15 + 4 * k) (nI j)) = up2 (mv (h 42)) 3 k (nI j) := mv_u3 _ _ _
    have hI3 : InvR (mv (upd (h 42) (15 + 4 * k) (nI j))) := by rw [m3]; exact (InvR_n hI.1 (by decide))
    have l1 := tmN_le (up2 (mv (h 42)) 3 k (nI j)) k
    have l2 := kfF_le (mv (h 42)) k j
    refine Rn_go C6_kindFor 60 ?_
    simp only [x6_kindFor_0, x6_kindFor_1, x6_kindFor_2, x6_kindFor_5, x6_kindFor_8, x6_kindFor_9, x6_kindFor_10, x6_kindFor_12, x6_kindFor_13, x6_kindFor_14, x6_kindFor_15, x6_kindFor_16, x6_kindFor_17, x6_kindFor_18, x6_kindFor_21, x6_kindFor_22, x6_kindFor_23, x6_kindFor_24, x6_kindFor_25, x6_kindFor_27, x6_kindFor_30, x6_kindFor_32, x6_kindFor_33, k6_kindFor_35, t6_kindFor_35, x6_kindFor_37, x6_kindFor_38, x6_kindFor_41, x6_kindFor_42, x6_kindFor_45, x6_kindFor_46, x6_kindFor_48, x6_kindFor_49, x6_kindFor_50, x6_kindFor_51, x6_kindFor_53, x6_kindFor_55, x6_kindFor_58, x6_kindFor_60, x6_kindFor_62, x6_kindFor_64, x6_kindFor_67, x6_kindFor_69, x6_kindFor_72, x6_kindFor_74, x6_kindFor_76, x6_kindFor_78, x6_kindFor_80, x6_kindFor_83, x6_kindFor_85, x6_kindFor_88, x6_kindFor_90, x6_kindFor_92, x6_kindFor_95, x6_kindFor_98, x6_kindFor_99, x6_kindFor_102, x6_kindFor_103, x6_kindFor_104, x6_kindFor_105, x6_kindFor_107, i_ald, i_cV, i_get, i_goto, i_iadd, i_iald, i_iast, i_ic, i_ic_ge, i_ic_gt, i_if_ne, i_ild, i_imul, i_inc, i_iret, i_ist, oc_41, fv_41_0, fv_41_1, fv_41_2, fv_41_3, fv_41_4, ly_41_4, fv_41_5, fv_41_6, ly_41_6, fv_41_7, ly_41_7, fv_41_8, ly_41_8, fv_41_9, ly_41_9, fv_41_10, ly_41_10, fv_41_11, ly_41_11, fv_41_12, fv_41_13, fv_41_14, ly_41_14, fv_41_15, fv_41_16, fv_41_17, fv_41_18, fv_41_19, fv_41_20, fv_41_21, fv_41_22, ly_41_22, fv_41_23, ly_41_23, fv_41_24, ly_41_24, fv_41_25, ly_41_25, fv_41_26, ly_41_26, rd_42, al_42, rd_43, al_43, rd_44, al_44, rd_45, al_45, rd_46, al_46, rd_47, al_47, rd_48, al_48, rd_49, al_49, rd_50, al_50, rd_51, al_51, rd_52, al_52, rd_53, al_53, rd_54, al_54, rd_55, al_55, lck_0, lck_i, lck_r, lck_n, lck_l, csum_0, csum_i, csum_r, csum_l, pops_0, pops_s, psh_n, psh_s, List.getElem?_cons_zero, List.getElem?_cons_succ, List.set_cons_zero, List.set_cons_succ, true_and, and_true, Nat.reduceAdd, Nat.reduceLeDiff, S6_passesBy, v47, a0.2, up42b, upA_42, upA_same, upd_same, ix60, ix, hx2, Nat.reduceAdd, upA_cm, tmM]
    refine ⟨fun c => absurd c hlt, fun _ => ⟨a0.1, i8, by decide, hI3, fun b => ?_⟩⟩
    have nx := ih b (nI j) (some (.int (nI (tmN (up2 (mv (h 42)) 3 k (nI j)) k))))
    rw [show kfM (mv (h 42)) k (j + 1) = nI (kfF (mv (h 42)) k (j + 1)).2 from if_neg (by omega)] at nx
    simp only [kfF] at nx
    rw [m3]
    by_cases cj : j = 0
    · subst cj
      have e1 : kfM (mv (h 42)) k 0 = 1000 := rfl
      rw [e1]
      have c1 : ¬ 1000 ≤ nI (tmN (up2 (mv (h 42)) 3 k (nI 0)) k) := fun q => by
        have := (nI_leI (a := 1000) (by omega) (by omega)).mp q
        omega
      refine ⟨fun c => absurd c c1, fun _ => ⟨fun c => absurd c c1, fun _ => ?_⟩⟩
      by_cases c2 : tmN (up2 (mv (h 42)) 3 k (nI 0)) k < (kfF (mv (h 42)) k 0).2
      · rw [if_pos c2] at nx
        exact nx
      · rw [if_neg c2] at nx
        rw [show tmN (up2 (mv (h 42)) 3 k (nI 0)) k = 61 by have : (kfF (mv (h 42)) k 0).2 = 61 := rfl; omega] at nx ⊢
        exact nx
    · have e1 : kfM (mv (h 42)) k j = nI (kfF (mv (h 42)) k j).2 := if_neg cj
      rw [e1]
      refine ⟨fun c => ⟨fun _ => ?_, fun c2 => absurd c c2⟩, fun c => ⟨fun c2 => absurd c2 c, fun _ => ?_⟩⟩
      · rw [if_neg (fun q => absurd (nI_lt q (by omega)) (Int32.not_lt.mpr c))] at nx
        exact nx
      · rw [if_pos ((nI_ltI (by omega) (by omega)).mp (Int32.not_le.mp c))] at nx
        exact nx
theorem pr_kindFor {h : Hp} (r : Rel h) (o : Int32) : S5_kindFor [.ref 0, .int o] h (fun rv h1 => S6_kindFor [.ref 41, .int o] h1 (fun rw h2 => rw = rv ∧ Rel h2)) := by
  obtain ⟨g0, g1, g2, g3, g4⟩ := raw r
  have hI := r.1.2
  have iM := InvG_c r.1.1 hI
  by_cases c : 0 ≤ o ∧ o < h 1 6
  · obtain ⟨o8, hn, q1, q2, q3, q4⟩ := g4 o c.1 c.2
    have c2 : 0 ≤ o ∧ o < h 42 0 := by rw [← g0.1]; exact c
    obtain ⟨k, hk, rfl⟩ := of8 o8.1 o8.2
    have hx2 : (nI k).toNatClampNeg = k := ix_nI (by omega)
    rw [show ix (nI k) = k from hx2] at hn
    have eK := kfF_c r.1.1 hI hn 6
    obtain ⟨a0, a1, a2, a3⟩ := at_ix o8
    rw [show ix (nI k) = k from hx2] at a0
    have key : ∀ h1, Fr8 h h1 → S6_kindFor [.ref 41, .int (nI k)] h1 (fun rw h2 => rw = some (.int (kfF (vg h 1) k 6).1) ∧ Rel h2) := by
      intro h1 f
      have r1 := Rel_8 r f
      have e42 : h1 42 = h 42 := f 42 (by omega)
      have nx := lp6_kindFor (h := h1) (Q := fun rw h2 => rw = some (.int (kfF (vg h 1) k 6).1) ∧ Rel h2) (by rw [e42]; exact iM) (k := k) (by rw [e42, ← Geq_n r.1.1]; exact hn) (fun a => ⟨by rw [e42, eK], Rel_44 r1 a⟩) 6 0 (by omega) (h1 44) (h1 42 (15 + 4 * k)) none
      rw [upd_id, upA_id, upA_id] at nx
      refine Rn_in C6_kindFor 60 ?_
      simp only [x6_kindFor_0, x6_kindFor_1, x6_kindFor_2, x6_kindFor_5, x6_kindFor_8, x6_kindFor_9, x6_kindFor_10, x6_kindFor_12, x6_kindFor_13, x6_kindFor_14, x6_kindFor_15, x6_kindFor_16, x6_kindFor_17, x6_kindFor_18, x6_kindFor_21, x6_kindFor_22, x6_kindFor_23, x6_kindFor_24, x6_kindFor_25, x6_kindFor_27, x6_kindFor_30, x6_kindFor_32, x6_kindFor_33, k6_kindFor_35, t6_kindFor_35, x6_kindFor_37, x6_kindFor_38, x6_kindFor_41, x6_kindFor_42, x6_kindFor_45, x6_kindFor_46, x6_kindFor_48, x6_kindFor_49, x6_kindFor_50, x6_kindFor_51, x6_kindFor_53, x6_kindFor_55, x6_kindFor_58, x6_kindFor_60, x6_kindFor_62, x6_kindFor_64, x6_kindFor_67, x6_kindFor_69, x6_kindFor_72, x6_kindFor_74, x6_kindFor_76, x6_kindFor_78, x6_kindFor_80, x6_kindFor_83, x6_kindFor_85, x6_kindFor_88, x6_kindFor_90, x6_kindFor_92, x6_kindFor_95, x6_kindFor_98, x6_kindFor_99, x6_kindFor_102, x6_kindFor_103, x6_kindFor_104, x6_kindFor_105, x6_kindFor_107, i_ald, i_cV, i_get, i_goto, i_iadd, i_iald, i_iast, i_ic, i_ic_ge, i_ic_gt, i_if_ne, i_ild, i_imul, i_inc, i_iret, i_ist, oc_41, fv_41_0, fv_41_1, fv_41_2, fv_41_3, fv_41_4, ly_41_4, fv_41_5, fv_41_6, ly_41_6, fv_41_7, ly_41_7, fv_41_8, ly_41_8, fv_41_9, ly_41_9, fv_41_10, ly_41_10, fv_41_11, ly_41_11, fv_41_12, fv_41_13, fv_41_14, ly_41_14, fv_41_15, fv_41_16, fv_41_17, fv_41_18, fv_41_19, fv_41_20, fv_41_21, fv_41_22, ly_41_22, fv_41_23, ly_41_23, fv_41_24, ly_41_24, fv_41_25, ly_41_25, fv_41_26, ly_41_26, rd_42, al_42, rd_43, al_43, rd_44, al_44, rd_45, al_45, rd_46, al_46, rd_47, al_47, rd_48, al_48, rd_49, al_49, rd_50, al_50, rd_51, al_51, rd_52, al_52, rd_53, al_53, rd_54, al_54, rd_55, al_55, lck_0, lck_i, lck_r, lck_n, lck_l, csum_0, csum_i, csum_r, csum_l, pops_0, pops_s, psh_n, psh_s, List.getElem?_cons_zero, List.getElem?_cons_succ, List.set_cons_zero, List.set_cons_succ, true_and, and_true, Nat.reduceAdd, Nat.reduceLeDiff, S6_isOne, hsB_0, e42, c2, v47, a0.2, nn, false_implies, true_implies, implies_true, and_true, true_and, not_true_eq_false, not_false_eq_true, eq_self]
      rw [e42] at nx
      exact ⟨a0.1, nx⟩
    have nx := lp5_kindFor (h := h) hI hn (Q := fun rv h1 => S6_kindFor [.ref 41, .int (nI k)] h1 (fun rw h2 => rw = rv ∧ Rel h2)) key 6 0 (by omega) _ (Hi8_0 h) none
    rw [pg_vg] at nx
    refine Rn_in C5_kindFor 60 ?_
    simp only [x5_kindFor_0, x5_kindFor_1, x5_kindFor_4, x5_kindFor_5, x5_kindFor_8, x5_kindFor_11, x5_kindFor_12, x5_kindFor_13, x5_kindFor_14, x5_kindFor_15, x5_kindFor_17, x5_kindFor_18, x5_kindFor_19, k5_kindFor_21, t5_kindFor_21, x5_kindFor_23, x5_kindFor_25, x5_kindFor_28, x5_kindFor_29, x5_kindFor_32, x5_kindFor_33, x5_kindFor_36, x5_kindFor_39, x5_kindFor_40, x5_kindFor_43, x5_kindFor_46, x5_kindFor_47, x5_kindFor_49, x5_kindFor_50, x5_kindFor_51, x5_kindFor_54, x5_kindFor_55, x5_kindFor_57, x5_kindFor_59, x5_kindFor_62, x5_kindFor_64, x5_kindFor_66, x5_kindFor_67, x5_kindFor_70, x5_kindFor_72, x5_kindFor_73, x5_kindFor_75, x5_kindFor_76, x5_kindFor_79, x5_kindFor_82, x5_kindFor_83, i_ald, i_cV, i_get, i_goto, i_iast, i_ic, i_ic_ge, i_if_ne, i_ild, i_inc, i_iret, i_ist, oc_0, fv_0_0, fv_0_1, fv_0_2, fv_0_3, ly_0_3, fv_0_4, fv_0_5, fv_0_6, ly_0_6, fv_0_7, fv_0_8, fv_0_9, oc_1, fv_1_0, fv_1_1, fv_1_2, fv_1_3, fv_1_4, fv_1_5, fv_1_6, ly_1_6, fv_1_7, ly_1_7, fv_1_8, ly_1_8, rd_2, al_2, rd_3, al_3, rd_4, al_4, rd_5, al_5, rd_6, al_6, rd_7, al_7, oc_8, fv_8_0, fv_8_1, fv_8_2, fv_8_3, fv_8_4, fv_8_5, fv_8_6, ly_8_6, fv_8_7, ly_8_7, fv_8_8, ly_8_8, rd_9, al_9, rd_10, al_10, rd_11, al_11, rd_12, al_12, rd_13, al_13, rd_14, al_14, lck_0, lck_i, lck_r, lck_n, lck_l, csum_0, csum_i, csum_r, csum_l, pops_0, pops_s, psh_n, psh_s, List.getElem?_cons_zero, List.getElem?_cons_succ, List.set_cons_zero, List.set_cons_succ, true_and, and_true, Nat.reduceAdd, Nat.reduceLeDiff, S1_has, GB_1, b2_0, c, nn, false_implies, true_implies, implies_true, and_true, true_and, not_true_eq_false, not_false_eq_true, eq_self]
    exact nx
  · have c2 : ¬ (0 ≤ o ∧ o < h 42 0) := by rw [← g0.1]; exact c
    refine Rn_in C5_kindFor 60 ?_
    simp only [x5_kindFor_0, x5_kindFor_1, x5_kindFor_4, x5_kindFor_5, x5_kindFor_8, x5_kindFor_11, x5_kindFor_12, x5_kindFor_13, x5_kindFor_14, x5_kindFor_15, x5_kindFor_17, x5_kindFor_18, x5_kindFor_19, k5_kindFor_21, t5_kindFor_21, x5_kindFor_23, x5_kindFor_25, x5_kindFor_28, x5_kindFor_29, x5_kindFor_32, x5_kindFor_33, x5_kindFor_36, x5_kindFor_39, x5_kindFor_40, x5_kindFor_43, x5_kindFor_46, x5_kindFor_47, x5_kindFor_49, x5_kindFor_50, x5_kindFor_51, x5_kindFor_54, x5_kindFor_55, x5_kindFor_57, x5_kindFor_59, x5_kindFor_62, x5_kindFor_64, x5_kindFor_66, x5_kindFor_67, x5_kindFor_70, x5_kindFor_72, x5_kindFor_73, x5_kindFor_75, x5_kindFor_76, x5_kindFor_79, x5_kindFor_82, x5_kindFor_83, i_ald, i_cV, i_get, i_goto, i_iast, i_ic, i_ic_ge, i_if_ne, i_ild, i_inc, i_iret, i_ist, oc_0, fv_0_0, fv_0_1, fv_0_2, fv_0_3, ly_0_3, fv_0_4, fv_0_5, fv_0_6, ly_0_6, fv_0_7, fv_0_8, fv_0_9, oc_1, fv_1_0, fv_1_1, fv_1_2, fv_1_3, fv_1_4, fv_1_5, fv_1_6, ly_1_6, fv_1_7, ly_1_7, fv_1_8, ly_1_8, rd_2, al_2, rd_3, al_3, rd_4, al_4, rd_5, al_5, rd_6, al_6, rd_7, al_7, oc_8, fv_8_0, fv_8_1, fv_8_2, fv_8_3, fv_8_4, fv_8_5, fv_8_6, ly_8_6, fv_8_7, ly_8_7, fv_8_8, ly_8_8, rd_9, al_9, rd_10, al_10, rd_11, al_11, rd_12, al_12, rd_13, al_13, rd_14, al_14, lck_0, lck_i, lck_r, lck_n, lck_l, csum_0, csum_i, csum_r, csum_l, pops_0, pops_s, psh_n, psh_s, List.getElem?_cons_zero, List.getElem?_cons_succ, List.set_cons_zero, List.set_cons_succ, true_and, and_true, Nat.reduceAdd, Nat.reduceLeDiff, S1_has, GB_1, b2_0, c, nn, false_implies, true_implies, implies_true, and_true, true_and, not_true_eq_false, not_false_eq_true, eq_self]
    refine Rn_in C6_kindFor 60 ?_
    simp only [x6_kindFor_0, x6_kindFor_1, x6_kindFor_2, x6_kindFor_5, x6_kindFor_8, x6_kindFor_9, x6_kindFor_10, x6_kindFor_12, x6_kindFor_13, x6_kindFor_14, x6_kindFor_15, x6_kindFor_16, x6_kindFor_17, x6_kindFor_18, x6_kindFor_21, x6_kindFor_22, x6_kindFor_23, x6_kindFor_24, x6_kindFor_25, x6_kindFor_27, x6_kindFor_30, x6_kindFor_32, x6_kindFor_33, k6_kindFor_35, t6_kindFor_35, x6_kindFor_37, x6_kindFor_38, x6_kindFor_41, x6_kindFor_42, x6_kindFor_45, x6_kindFor_46, x6_kindFor_48, x6_kindFor_49, x6_kindFor_50, x6_kindFor_51, x6_kindFor_53, x6_kindFor_55, x6_kindFor_58, x6_kindFor_60, x6_kindFor_62, x6_kindFor_64, x6_kindFor_67, x6_kindFor_69, x6_kindFor_72, x6_kindFor_74, x6_kindFor_76, x6_kindFor_78, x6_kindFor_80, x6_kindFor_83, x6_kindFor_85, x6_kindFor_88, x6_kindFor_90, x6_kindFor_92, x6_kindFor_95, x6_kindFor_98, x6_kindFor_99, x6_kindFor_102, x6_kindFor_103, x6_kindFor_104, x6_kindFor_105, x6_kindFor_107, i_ald, i_cV, i_get, i_goto, i_iadd, i_iald, i_iast, i_ic, i_ic_ge, i_ic_gt, i_if_ne, i_ild, i_imul, i_inc, i_iret, i_ist, oc_41, fv_41_0, fv_41_1, fv_41_2, fv_41_3, fv_41_4, ly_41_4, fv_41_5, fv_41_6, ly_41_6, fv_41_7, ly_41_7, fv_41_8, ly_41_8, fv_41_9, ly_41_9, fv_41_10, ly_41_10, fv_41_11, ly_41_11, fv_41_12, fv_41_13, fv_41_14, ly_41_14, fv_41_15, fv_41_16, fv_41_17, fv_41_18, fv_41_19, fv_41_20, fv_41_21, fv_41_22, ly_41_22, fv_41_23, ly_41_23, fv_41_24, ly_41_24, fv_41_25, ly_41_25, fv_41_26, ly_41_26, rd_42, al_42, rd_43, al_43, rd_44, al_44, rd_45, al_45, rd_46, al_46, rd_47, al_47, rd_48, al_48, rd_49, al_49, rd_50, al_50, rd_51, al_51, rd_52, al_52, rd_53, al_53, rd_54, al_54, rd_55, al_55, lck_0, lck_i, lck_r, lck_n, lck_l, csum_0, csum_i, csum_r, csum_l, pops_0, pops_s, psh_n, psh_s, List.getElem?_cons_zero, List.getElem?_cons_succ, List.set_cons_zero, List.set_cons_succ, true_and, and_true, Nat.reduceAdd, Nat.reduceLeDiff, S6_isOne, hsB_0, c2, nn, false_implies, true_implies, implies_true, and_true, true_and, not_true_eq_false, not_false_eq_true, eq_self]
    exact r
