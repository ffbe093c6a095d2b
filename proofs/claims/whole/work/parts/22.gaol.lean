/-! the class Gaol: reading -/
theorem cntN {x : Int32} (h0 : 0 ≤ x) (h8 : x ≤ 8) : ∃ n, n ≤ 8 ∧ x = nI n ∧ ix x = n := by
  obtain ⟨k, a, b⟩ := vp_in_of (vpi (n := 9) (by decide) h0 (show x < (9 : Int32) by grind)) (by decide)
  exact ⟨k, by omega, b, by rw [b, ix_nI (by omega)]⟩
theorem nlt8 {j : Nat} (hj : j < 8) : 0 ≤ nI j ∧ nI j < 8 := ⟨nI_pos' (by omega), nI_lt hj (by decide)⟩
def S1_has : Sp := fun av h Q => match av with | [.ref b, .int i] => GB b ∧ Q (some (.int (b2 (0 ≤ i ∧ i < h b 6)))) h | _ => False
theorem rn1_has {h : Hp} {Q : Po} {b : Nat} {i : Int32} (hS : S1_has [.ref b, .int i] h Q) : Rn (T1_has Q) (0, [some (.ref b), some (.int i)], [], h) := by
  obtain ⟨hb, hQ⟩ := hS
  simp only [b2] at hQ
  rcases hb with rfl | rfl
  · refine Rn_in C1_has 40 ?_
    simp only [x1_has_0, x1_has_1, x1_has_4, x1_has_5, x1_has_6, x1_has_9, x1_has_12, x1_has_13, x1_has_16, x1_has_17, i_ald, i_get, i_goto, i_ic, i_ic_ge, i_if_lt, i_ild, i_zret, oc_1, fv_1_0, fv_1_1, fv_1_2, fv_1_3, fv_1_4, fv_1_5, fv_1_6, ly_1_6, fv_1_7, ly_1_7, fv_1_8, ly_1_8, rd_2, al_2, rd_3, al_3, rd_4, al_4, rd_5, al_5, rd_6, al_6, rd_7, al_7, lck_0, lck_i, lck_r, lck_n, lck_l, csum_0, csum_i, csum_r, csum_l, pops_0, pops_s, psh_n, psh_s, List.getElem?_cons_zero, List.getElem?_cons_succ, List.set_cons_zero, List.set_cons_succ, true_and, and_true, Nat.reduceAdd, Nat.reduceLeDiff, l01_0, l01_1]
    grind
  · refine Rn_in C1_has 40 ?_
    simp only [x1_has_0, x1_has_1, x1_has_4, x1_has_5, x1_has_6, x1_has_9, x1_has_12, x1_has_13, x1_has_16, x1_has_17, i_ald, i_get, i_goto, i_ic, i_ic_ge, i_if_lt, i_ild, i_zret, oc_8, fv_8_0, fv_8_1, fv_8_2, fv_8_3, fv_8_4, fv_8_5, fv_8_6, ly_8_6, fv_8_7, ly_8_7, fv_8_8, ly_8_8, rd_9, al_9, rd_10, al_10, rd_11, al_11, rd_12, al_12, rd_13, al_13, rd_14, al_14, lck_0, lck_i, lck_r, lck_n, lck_l, csum_0, csum_i, csum_r, csum_l, pops_0, pops_s, psh_n, psh_s, List.getElem?_cons_zero, List.getElem?_cons_succ, List.set_cons_zero, List.set_cons_succ, true_and, and_true, Nat.reduceAdd, Nat.reduceLeDiff, l01_0, l01_1]
    grind
def S1_isOut : Sp := fun av h Q => match av with | [.ref b, .int i] => GB b ∧ (0 ≤ i ∧ i < 8) ∧ Q (some (.int (outB (vg h b) (ix i)))) h | _ => False
theorem rn1_isOut {h : Hp} {Q : Po} {b : Nat} {i : Int32} (hS : S1_isOut [.ref b, .int i] h Q) : Rn (T1_isOut Q) (0, [some (.ref b), some (.int i)], [], h) := by
  obtain ⟨hb, hi, hQ⟩ := hS
  simp only [outB, vg, ix] at hQ
  rcases hb with rfl | rfl
  · refine Rn_in C1_isOut 40 ?_
    simp only [x1_isOut_0, x1_isOut_1, x1_isOut_4, x1_isOut_5, x1_isOut_6, x1_isOut_8, x1_isOut_11, x1_isOut_12, x1_isOut_15, x1_isOut_16, i_ald, i_get, i_goto, i_iald, i_ic, i_ic_ne, i_ild, i_zret, oc_1, fv_1_0, fv_1_1, fv_1_2, fv_1_3, fv_1_4, fv_1_5, fv_1_6, ly_1_6, fv_1_7, ly_1_7, fv_1_8, ly_1_8, rd_2, al_2, rd_3, al_3, rd_4, al_4, rd_5, al_5, rd_6, al_6, rd_7, al_7, lck_0, lck_i, lck_r, lck_n, lck_l, csum_0, csum_i, csum_r, csum_l, pops_0, pops_s, psh_n, psh_s, List.getElem?_cons_zero, List.getElem?_cons_succ, List.set_cons_zero, List.set_cons_succ, true_and, and_true, Nat.reduceAdd, Nat.reduceLeDiff, l01_0, l01_1, v8]
    simp only [Nat.reduceAdd] at hQ
    grind
  · refine Rn_in C1_isOut 40 ?_
    simp only [x1_isOut_0, x1_isOut_1, x1_isOut_4, x1_isOut_5, x1_isOut_6, x1_isOut_8, x1_isOut_11, x1_isOut_12, x1_isOut_15, x1_isOut_16, i_ald, i_get, i_goto, i_iald, i_ic, i_ic_ne, i_ild, i_zret, oc_8, fv_8_0, fv_8_1, fv_8_2, fv_8_3, fv_8_4, fv_8_5, fv_8_6, ly_8_6, fv_8_7, ly_8_7, fv_8_8, ly_8_8, rd_9, al_9, rd_10, al_10, rd_11, al_11, rd_12, al_12, rd_13, al_13, rd_14, al_14, lck_0, lck_i, lck_r, lck_n, lck_l, csum_0, csum_i, csum_r, csum_l, pops_0, pops_s, psh_n, psh_s, List.getElem?_cons_zero, List.getElem?_cons_succ, List.set_cons_zero, List.set_cons_succ, true_and, and_true, Nat.reduceAdd, Nat.reduceLeDiff, l01_0, l01_1, v8]
    simp only [Nat.reduceAdd] at hQ
    grind
def S1_isHeld : Sp := fun av h Q => match av with | [.ref b, .int i] => GB b ∧ (0 ≤ i ∧ i < 8) ∧ h b 6 ≤ 8 ∧ Q (some (.int (heldB (vg h b) (ix i)))) h | _ => False
theorem rn1_isHeld {h : Hp} {Q : Po} {b : Nat} {i : Int32} (hS : S1_isHeld [.ref b, .int i] h Q) : Rn (T1_isHeld Q S1_isOut S1_has) (0, [some (.ref b), some (.int i)], [], h) := by
  obtain ⟨hb, hi, hc, hQ⟩ := hS
  simp only [heldB, vg, ix, Nat.add_zero] at hQ
  rcases hb with rfl | rfl
  · refine Rn_in C1_isHeld 60 ?_
    simp only [x1_isHeld_0, x1_isHeld_1, x1_isHeld_2, x1_isHeld_5, x1_isHeld_8, x1_isHeld_9, x1_isHeld_10, x1_isHeld_13, x1_isHeld_14, x1_isHeld_15, x1_isHeld_18, x1_isHeld_21, x1_isHeld_22, x1_isHeld_25, x1_isHeld_26, x1_isHeld_29, x1_isHeld_30, x1_isHeld_31, x1_isHeld_32, x1_isHeld_33, x1_isHeld_36, x1_isHeld_37, x1_isHeld_38, x1_isHeld_41, x1_isHeld_42, x1_isHeld_45, x1_isHeld_46, i_ald, i_cV, i_get, i_goto, i_iald, i_ic, i_ic_ne, i_if_eq, i_if_ne, i_ild, i_zret, oc_1, fv_1_0, fv_1_1, fv_1_2, fv_1_3, fv_1_4, fv_1_5, fv_1_6, ly_1_6, fv_1_7, ly_1_7, fv_1_8, ly_1_8, rd_2, al_2, rd_3, al_3, rd_4, al_4, rd_5, al_5, rd_6, al_6, rd_7, al_7, lck_0, lck_i, lck_r, lck_n, lck_l, csum_0, csum_i, csum_r, csum_l, pops_0, pops_s, psh_n, psh_s, List.getElem?_cons_zero, List.getElem?_cons_succ, List.set_cons_zero, List.set_cons_succ, true_and, and_true, Nat.reduceAdd, Nat.reduceLeDiff, l01_0, l01_1, v8, S1_isOut, S1_has, GB_1, GB_8, b2_0, b2_n0, outB_0, vg, ix]
    simp only [Nat.reduceAdd] at hQ
    grind
  · refine Rn_in C1_isHeld 60 ?_
    simp only [x1_isHeld_0, x1_isHeld_1, x1_isHeld_2, x1_isHeld_5, x1_isHeld_8, x1_isHeld_9, x1_isHeld_10, x1_isHeld_13, x1_isHeld_14, x1_isHeld_15, x1_isHeld_18, x1_isHeld_21, x1_isHeld_22, x1_isHeld_25, x1_isHeld_26, x1_isHeld_29, x1_isHeld_30, x1_isHeld_31, x1_isHeld_32, x1_isHeld_33, x1_isHeld_36, x1_isHeld_37, x1_isHeld_38, x1_isHeld_41, x1_isHeld_42, x1_isHeld_45, x1_isHeld_46, i_ald, i_cV, i_get, i_goto, i_iald, i_ic, i_ic_ne, i_if_eq, i_if_ne, i_ild, i_zret, oc_8, fv_8_0, fv_8_1, fv_8_2, fv_8_3, fv_8_4, fv_8_5, fv_8_6, ly_8_6, fv_8_7, ly_8_7, fv_8_8, ly_8_8, rd_9, al_9, rd_10, al_10, rd_11, al_11, rd_12, al_12, rd_13, al_13, rd_14, al_14, lck_0, lck_i, lck_r, lck_n, lck_l, csum_0, csum_i, csum_r, csum_l, pops_0, pops_s, psh_n, psh_s, List.getElem?_cons_zero, List.getElem?_cons_succ, List.set_cons_zero, List.set_cons_succ, true_and, and_true, Nat.reduceAdd, Nat.reduceLeDiff, l01_0, l01_1, v8, S1_isOut, S1_has, GB_1, GB_8, b2_0, b2_n0, outB_0, vg, ix]
    simp only [Nat.reduceAdd] at hQ
    grind
def S1_riteAt : Sp := fun av h Q => match av with | [.ref b, .int i] => GB b ∧ (0 ≤ i ∧ i < 8) ∧ Q (some (.int (riteG (vg h b) (ix i)))) h | _ => False
theorem rn1_riteAt {h : Hp} {Q : Po} {b : Nat} {i : Int32} (hS : S1_riteAt [.ref b, .int i] h Q) : Rn (T1_riteAt Q) (0, [some (.ref b), some (.int i), none], [], h) := by
  obtain ⟨hb, hi, hQ⟩ := hS
  simp only [riteG, vg, ix] at hQ
  rcases hb with rfl | rfl
  · refine Rn_in C1_riteAt 60 ?_
    simp only [x1_riteAt_0, x1_riteAt_1, x1_riteAt_4, x1_riteAt_5, x1_riteAt_6, x1_riteAt_7, x1_riteAt_8, x1_riteAt_11, x1_riteAt_12, x1_riteAt_14, x1_riteAt_17, x1_riteAt_18, x1_riteAt_21, x1_riteAt_22, x1_riteAt_23, x1_riteAt_26, x1_riteAt_27, i_ald, i_get, i_goto, i_iald, i_ic, i_ic_ge, i_if_lt, i_ild, i_iret, i_ist, oc_1, fv_1_0, fv_1_1, fv_1_2, fv_1_3, fv_1_4, fv_1_5, fv_1_6, ly_1_6, fv_1_7, ly_1_7, fv_1_8, ly_1_8, rd_2, al_2, rd_3, al_3, rd_4, al_4, rd_5, al_5, rd_6, al_6, rd_7, al_7, lck_0, lck_i, lck_r, lck_n, lck_l, csum_0, csum_i, csum_r, csum_l, pops_0, pops_s, psh_n, psh_s, List.getElem?_cons_zero, List.getElem?_cons_succ, List.set_cons_zero, List.set_cons_succ, true_and, and_true, Nat.reduceAdd, Nat.reduceLeDiff, v8, vg, ix]
    simp only [Nat.reduceAdd] at hQ
    grind
  · refine Rn_in C1_riteAt 60 ?_
    simp only [x1_riteAt_0, x1_riteAt_1, x1_riteAt_4, x1_riteAt_5, x1_riteAt_6, x1_riteAt_7, x1_riteAt_8, x1_riteAt_11, x1_riteAt_12, x1_riteAt_14, x1_riteAt_17, x1_riteAt_18, x1_riteAt_21, x1_riteAt_22, x1_riteAt_23, x1_riteAt_26, x1_riteAt_27, i_ald, i_get, i_goto, i_iald, i_ic, i_ic_ge, i_if_lt, i_ild, i_iret, i_ist, oc_8, fv_8_0, fv_8_1, fv_8_2, fv_8_3, fv_8_4, fv_8_5, fv_8_6, ly_8_6, fv_8_7, ly_8_7, fv_8_8, ly_8_8, rd_9, al_9, rd_10, al_10, rd_11, al_11, rd_12, al_12, rd_13, al_13, rd_14, al_14, lck_0, lck_i, lck_r, lck_n, lck_l, csum_0, csum_i, csum_r, csum_l, pops_0, pops_s, psh_n, psh_s, List.getElem?_cons_zero, List.getElem?_cons_succ, List.set_cons_zero, List.set_cons_succ, true_and, and_true, Nat.reduceAdd, Nat.reduceLeDiff, v8, vg, ix]
    simp only [Nat.reduceAdd] at hQ
    grind
def S1_thoseIn : Sp := fun av h Q => match av with | [.ref b, .int room] => GB b ∧ (0 ≤ h b 6 ∧ h b 6 ≤ 8) ∧ Q (some (.int (thG (vg h b) room (nG (vg h b))))) h | _ => False
theorem lp1_thoseIn {h : Hp} {Q : Po} {room : Int32} {b : Nat} (hb : GB b) {n : Nat} (hn : h b 6 = nI n) (hn8 : n ≤ 8) (hQ : Q (some (.int (thG (vg h b) room n))) h) : ∀ d j, d + j = n → Rn (T1_thoseIn Q) (4, [some (.ref b), some (.int room), some (.int (thG (vg h b) room j)), some (.int (nI j))], [], h)
  | 0, j, e => by
    have e : j = n := by omega
    subst e
    rcases hb with rfl | rfl
    · refine Rn_go C1_thoseIn 60 ?_
      simp only [x1_thoseIn_0, x1_thoseIn_1, x1_thoseIn_2, x1_thoseIn_3, k1_thoseIn_4, t1_thoseIn_4, x1_thoseIn_5, x1_thoseIn_6, x1_thoseIn_9, x1_thoseIn_12, x1_thoseIn_13, x1_thoseIn_16, x1_thoseIn_17, x1_thoseIn_18, x1_thoseIn_19, x1_thoseIn_22, x1_thoseIn_23, x1_thoseIn_24, x1_thoseIn_25, x1_thoseIn_26, x1_thoseIn_27, x1_thoseIn_28, x1_thoseIn_31, x1_thoseIn_34, x1_thoseIn_35, i_ald, i_get, i_goto, i_iald, i_ic, i_ic_ge, i_ic_ne, i_ild, i_inc, i_ior, i_iret, i_ishl, i_ist, oc_1, fv_1_0, fv_1_1, fv_1_2, fv_1_3, fv_1_4, fv_1_5, fv_1_6, ly_1_6, fv_1_7, ly_1_7, fv_1_8, ly_1_8, rd_2, al_2, rd_3, al_3, rd_4, al_4, rd_5, al_5, rd_6, al_6, rd_7, al_7, lck_0, lck_i, lck_r, lck_n, lck_l, csum_0, csum_i, csum_r, csum_l, pops_0, pops_s, psh_n, psh_s, List.getElem?_cons_zero, List.getElem?_cons_succ, List.set_cons_zero, List.set_cons_succ, true_and, and_true, Nat.reduceAdd, Nat.reduceLeDiff, v8, hn]
      exact ⟨fun _ => hQ, fun c => absurd (Int32.le_refl _) c⟩
    · refine Rn_go C1_thoseIn 60 ?_
      simp only [x1_thoseIn_0, x1_thoseIn_1, x1_thoseIn_2, x1_thoseIn_3, k1_thoseIn_4, t1_thoseIn_4, x1_thoseIn_5, x1_thoseIn_6, x1_thoseIn_9, x1_thoseIn_12, x1_thoseIn_13, x1_thoseIn_16, x1_thoseIn_17, x1_thoseIn_18, x1_thoseIn_19, x1_thoseIn_22, x1_thoseIn_23, x1_thoseIn_24, x1_thoseIn_25, x1_thoseIn_26, x1_thoseIn_27, x1_thoseIn_28, x1_thoseIn_31, x1_thoseIn_34, x1_thoseIn_35, i_ald, i_get, i_goto, i_iald, i_ic, i_ic_ge, i_ic_ne, i_ild, i_inc, i_ior, i_iret, i_ishl, i_ist, oc_8, fv_8_0, fv_8_1, fv_8_2, fv_8_3, fv_8_4, fv_8_5, fv_8_6, ly_8_6, fv_8_7, ly_8_7, fv_8_8, ly_8_8, rd_9, al_9, rd_10, al_10, rd_11, al_11, rd_12, al_12, rd_13, al_13, rd_14, al_14, lck_0, lck_i, lck_r, lck_n, lck_l, csum_0, csum_i, csum_r, csum_l, pops_0, pops_s, psh_n, psh_s, List.getElem?_cons_zero, List.getElem?_cons_succ, List.set_cons_zero, List.set_cons_succ, true_and, and_true, Nat.reduceAdd, Nat.reduceLeDiff, v8, hn]
      exact ⟨fun _ => hQ, fun c => absurd (Int32.le_refl _) c⟩
  | d + 1, j, e => by
    have ih := lp1_thoseIn hb hn hn8 hQ d (j + 1) (by omega)
    rw [← nI_1] at ih
    simp only [thG] at ih
    have hj := nlt8 (j := j) (by omega)
    have hlt : ¬ nI n ≤ nI j := nI_ge (by omega) (by omega)
    have hx : (nI j).toNatClampNeg = j := ix_nI (by omega)
    rcases hb with rfl | rfl
    · refine Rn_go C1_thoseIn 60 ?_
      simp only [x1_thoseIn_0, x1_thoseIn_1, x1_thoseIn_2, x1_thoseIn_3, k1_thoseIn_4, t1_thoseIn_4, x1_thoseIn_5, x1_thoseIn_6, x1_thoseIn_9, x1_thoseIn_12, x1_thoseIn_13, x1_thoseIn_16, x1_thoseIn_17, x1_thoseIn_18, x1_thoseIn_19, x1_thoseIn_22, x1_thoseIn_23, x1_thoseIn_24, x1_thoseIn_25, x1_thoseIn_26, x1_thoseIn_27, x1_thoseIn_28, x1_thoseIn_31, x1_thoseIn_34, x1_thoseIn_35, i_ald, i_get, i_goto, i_iald, i_ic, i_ic_ge, i_ic_ne, i_ild, i_inc, i_ior, i_iret, i_ishl, i_ist, oc_1, fv_1_0, fv_1_1, fv_1_2, fv_1_3, fv_1_4, fv_1_5, fv_1_6, ly_1_6, fv_1_7, ly_1_7, fv_1_8, ly_1_8, rd_2, al_2, rd_3, al_3, rd_4, al_4, rd_5, al_5, rd_6, al_6, rd_7, al_7, lck_0, lck_i, lck_r, lck_n, lck_l, csum_0, csum_i, csum_r, csum_l, pops_0, pops_s, psh_n, psh_s, List.getElem?_cons_zero, List.getElem?_cons_succ, List.set_cons_zero, List.set_cons_succ, true_and, and_true, Nat.reduceAdd, Nat.reduceLeDiff, v8, hn]
      refine ⟨fun c => absurd c hlt, fun _ => ⟨hj, fun c => ?_, fun c => ?_⟩⟩
      · rw [hx] at c
        rw [if_neg (show ¬ vg h 1 5 j = room from c)] at ih
        exact ih
      · rw [hx] at c
        rw [if_pos (show vg h 1 5 j = room from c)] at ih
        exact ih
    · refine Rn_go C1_thoseIn 60 ?_
      simp only [x1_thoseIn_0, x1_thoseIn_1, x1_thoseIn_2, x1_thoseIn_3, k1_thoseIn_4, t1_thoseIn_4, x1_thoseIn_5, x1_thoseIn_6, x1_thoseIn_9, x1_thoseIn_12, x1_thoseIn_13, x1_thoseIn_16, x1_thoseIn_17, x1_thoseIn_18, x1_thoseIn_19, x1_thoseIn_22, x1_thoseIn_23, x1_thoseIn_24, x1_thoseIn_25, x1_thoseIn_26, x1_thoseIn_27, x1_thoseIn_28, x1_thoseIn_31, x1_thoseIn_34, x1_thoseIn_35, i_ald, i_get, i_goto, i_iald, i_ic, i_ic_ge, i_ic_ne, i_ild, i_inc, i_ior, i_iret, i_ishl, i_ist, oc_8, fv_8_0, fv_8_1, fv_8_2, fv_8_3, fv_8_4, fv_8_5, fv_8_6, ly_8_6, fv_8_7, ly_8_7, fv_8_8, ly_8_8, rd_9, al_9, rd_10, al_10, rd_11, al_11, rd_12, al_12, rd_13, al_13, rd_14, al_14, lck_0, lck_i, lck_r, lck_n, lck_l, csum_0, csum_i, csum_r, csum_l, pops_0, pops_s, psh_n, psh_s, List.getElem?_cons_zero, List.getElem?_cons_succ, List.set_cons_zero, List.set_cons_succ, true_and, and_true, Nat.reduceAdd, Nat.reduceLeDiff, v8, hn]
      refine ⟨fun c => absurd c hlt, fun _ => ⟨hj, fun c => ?_, fun c => ?_⟩⟩
      · rw [hx] at c
        rw [if_neg (show ¬ vg h 8 5 j = room from c)] at ih
        exact ih
      · rw [hx] at c
        rw [if_pos (show vg h 8 5 j = room from c)] at ih
        exact ih
theorem rn1_thoseIn {h : Hp} {Q : Po} {b : Nat} {room : Int32} (hS : S1_thoseIn [.ref b, .int room] h Q) : Rn (T1_thoseIn Q) (0, [some (.ref b), some (.int room), none, none], [], h) := by
  obtain ⟨hb, ⟨h0, h8⟩, hQ⟩ := hS
  obtain ⟨n, n8, hn, hi⟩ := cntN h0 h8
  have hnG : nG (vg h b) = n := hi
  rw [hnG] at hQ
  have := lp1_thoseIn hb hn n8 hQ n 0 (by omega)
  refine Rn_in C1_thoseIn 60 ?_
  simp only [x1_thoseIn_0, x1_thoseIn_1, x1_thoseIn_2, x1_thoseIn_3, k1_thoseIn_4, t1_thoseIn_4, x1_thoseIn_5, x1_thoseIn_6, x1_thoseIn_9, x1_thoseIn_12, x1_thoseIn_13, x1_thoseIn_16, x1_thoseIn_17, x1_thoseIn_18, x1_thoseIn_19, x1_thoseIn_22, x1_thoseIn_23, x1_thoseIn_24, x1_thoseIn_25, x1_thoseIn_26, x1_thoseIn_27, x1_thoseIn_28, x1_thoseIn_31, x1_thoseIn_34, x1_thoseIn_35, i_ald, i_get, i_goto, i_iald, i_ic, i_ic_ge, i_ic_ne, i_ild, i_inc, i_ior, i_iret, i_ishl, i_ist, oc_1, fv_1_0, fv_1_1, fv_1_2, fv_1_3, fv_1_4, fv_1_5, fv_1_6, ly_1_6, fv_1_7, ly_1_7, fv_1_8, ly_1_8, rd_2, al_2, rd_3, al_3, rd_4, al_4, rd_5, al_5, rd_6, al_6, rd_7, al_7, lck_0, lck_i, lck_r, lck_n, lck_l, csum_0, csum_i, csum_r, csum_l, pops_0, pops_s, psh_n, psh_s, List.getElem?_cons_zero, List.getElem?_cons_succ, List.set_cons_zero, List.set_cons_succ, true_and, and_true, Nat.reduceAdd, Nat.reduceLeDiff]
  exact this
def S1_countOut : Sp := fun av h Q => match av with | [.ref b] => GB b ∧ (0 ≤ h b 6 ∧ h b 6 ≤ 8) ∧ Q (some (.int (outG (vg h b)))) h | _ => False
theorem nG8 {h : Hp} {b : Nat} (hc : 0 ≤ h b 6 ∧ h b 6 ≤ 8) : nG (vg h b) ≤ 8 := by
  obtain ⟨n, n8, hn, hi⟩ := cntN hc.1 hc.2
  exact Nat.le_trans (Nat.le_of_eq hi) n8
theorem rn1_countOut {h : Hp} {Q : Po} {b : Nat} (hS : S1_countOut [.ref b] h Q) : Rn (T1_countOut Q S1_thoseIn SJ6_bitCount) (0, [some (.ref b)], [], h) := by
  obtain ⟨hb, hc, hQ⟩ := hS
  have h2 := thG_256 (vg h b) 8 (nG8 hc)
  rcases hb with rfl | rfl
  · refine Rn_in C1_countOut 60 ?_
    simp only [x1_countOut_0, x1_countOut_1, x1_countOut_3, x1_countOut_6, x1_countOut_9, i_ald, i_cS, i_cV, i_ic, i_iret, oc_1, fv_1_0, fv_1_1, fv_1_2, fv_1_3, fv_1_4, fv_1_5, fv_1_6, ly_1_6, fv_1_7, ly_1_7, fv_1_8, ly_1_8, rd_2, al_2, rd_3, al_3, rd_4, al_4, rd_5, al_5, rd_6, al_6, rd_7, al_7, lck_0, lck_i, lck_r, lck_n, lck_l, csum_0, csum_i, csum_r, csum_l, pops_0, pops_s, psh_n, psh_s, List.getElem?_cons_zero, List.getElem?_cons_succ, List.set_cons_zero, List.set_cons_succ, true_and, and_true, Nat.reduceAdd, Nat.reduceLeDiff, S1_thoseIn, SJ6_bitCount, GB_1, GB_8]
    exact ⟨hc, h2, hQ⟩
  · refine Rn_in C1_countOut 60 ?_
    simp only [x1_countOut_0, x1_countOut_1, x1_countOut_3, x1_countOut_6, x1_countOut_9, i_ald, i_cS, i_cV, i_ic, i_iret, oc_8, fv_8_0, fv_8_1, fv_8_2, fv_8_3, fv_8_4, fv_8_5, fv_8_6, ly_8_6, fv_8_7, ly_8_7, fv_8_8, ly_8_8, rd_9, al_9, rd_10, al_10, rd_11, al_11, rd_12, al_12, rd_13, al_13, rd_14, al_14, lck_0, lck_i, lck_r, lck_n, lck_l, csum_0, csum_i, csum_r, csum_l, pops_0, pops_s, psh_n, psh_s, List.getElem?_cons_zero, List.getElem?_cons_succ, List.set_cons_zero, List.set_cons_succ, true_and, and_true, Nat.reduceAdd, Nat.reduceLeDiff, S1_thoseIn, SJ6_bitCount, GB_1, GB_8]
    exact ⟨hc, h2, hQ⟩
def S1_needs : Sp := fun av h Q => match av with | [.ref b, .int i] => GB b ∧ (0 ≤ i ∧ i < 8) ∧ (0 ≤ h b 6 ∧ h b 6 ≤ 8) ∧ Q (some (.int (needG (vg h b) (ix i)))) h | _ => False
theorem rn1_needs {h : Hp} {Q : Po} {b : Nat} {i : Int32} (hS : S1_needs [.ref b, .int i] h Q) : Rn (T1_needs Q S1_riteAt S1_thoseIn SJ6_bitCount) (0, [some (.ref b), some (.int i), none], [], h) := by
  obtain ⟨hb, hi, hc, hQ⟩ := hS
  have h2 := thG_256 (vg h b) (vg h b 5 (ix i)) (nG8 hc)
  rcases hb with rfl | rfl
  · refine Rn_in C1_needs 90 ?_
    simp only [x1_needs_0, x1_needs_1, x1_needs_2, x1_needs_5, x1_needs_6, x1_needs_7, x1_needs_10, x1_needs_11, x1_needs_12, x1_needs_48, x1_needs_49, x1_needs_50, x1_needs_53, x1_needs_54, x1_needs_55, x1_needs_56, x1_needs_57, x1_needs_58, x1_needs_59, x1_needs_62, x1_needs_63, x1_needs_64, x1_needs_65, x1_needs_66, x1_needs_69, x1_needs_70, x1_needs_71, x1_needs_73, x1_needs_74, x1_needs_75, x1_needs_76, x1_needs_77, x1_needs_78, x1_needs_79, x1_needs_80, x1_needs_81, x1_needs_82, x1_needs_83, x1_needs_84, x1_needs_85, x1_needs_88, x1_needs_89, x1_needs_90, x1_needs_93, x1_needs_96, x1_needs_97, x1_needs_98, x1_needs_99, x1_needs_100, x1_needs_101, x1_needs_104, x1_needs_105, x1_needs_106, x1_needs_109, x1_needs_110, x1_needs_113, x1_needs_114, x1_needs_115, x1_needs_116, i_ald, i_cS, i_cV, i_get, i_goto, i_iadd, i_iald, i_ic, i_idiv, i_if_ne, i_ild, i_irem, i_iret, i_ist, i_isub, i_sw, oc_1, fv_1_0, fv_1_1, fv_1_2, fv_1_3, fv_1_4, fv_1_5, fv_1_6, ly_1_6, fv_1_7, ly_1_7, fv_1_8, ly_1_8, rd_2, al_2, rd_3, al_3, rd_4, al_4, rd_5, al_5, rd_6, al_6, rd_7, al_7, lck_0, lck_i, lck_r, lck_n, lck_l, csum_0, csum_i, csum_r, csum_l, pops_0, pops_s, psh_n, psh_s, List.getElem?_cons_zero, List.getElem?_cons_succ, List.set_cons_zero, List.set_cons_succ, true_and, and_true, Nat.reduceAdd, Nat.reduceLeDiff, v4, v8, S1_riteAt, S1_thoseIn, SJ6_bitCount, GB_1, GB_8, List.forall_mem_cons, List.not_mem_nil, ix]
    simp only [needG, ix] at hQ
    simp only [vg, ix, Nat.reduceAdd] at hQ h2 ⊢
    grind
  · refine Rn_in C1_needs 90 ?_
    simp only [x1_needs_0, x1_needs_1, x1_needs_2, x1_needs_5, x1_needs_6, x1_needs_7, x1_needs_10, x1_needs_11, x1_needs_12, x1_needs_48, x1_needs_49, x1_needs_50, x1_needs_53, x1_needs_54, x1_needs_55, x1_needs_56, x1_needs_57, x1_needs_58, x1_needs_59, x1_needs_62, x1_needs_63, x1_needs_64, x1_needs_65, x1_needs_66, x1_needs_69, x1_needs_70, x1_needs_71, x1_needs_73, x1_needs_74, x1_needs_75, x1_needs_76, x1_needs_77, x1_needs_78, x1_needs_79, x1_needs_80, x1_needs_81, x1_needs_82, x1_needs_83, x1_needs_84, x1_needs_85, x1_needs_88, x1_needs_89, x1_needs_90, x1_needs_93, x1_needs_96, x1_needs_97, x1_needs_98, x1_needs_99, x1_needs_100, x1_needs_101, x1_needs_104, x1_needs_105, x1_needs_106, x1_needs_109, x1_needs_110, x1_needs_113, x1_needs_114, x1_needs_115, x1_needs_116, i_ald, i_cS, i_cV, i_get, i_goto, i_iadd, i_iald, i_ic, i_idiv, i_if_ne, i_ild, i_irem, i_iret, i_ist, i_isub, i_sw, oc_8, fv_8_0, fv_8_1, fv_8_2, fv_8_3, fv_8_4, fv_8_5, fv_8_6, ly_8_6, fv_8_7, ly_8_7, fv_8_8, ly_8_8, rd_9, al_9, rd_10, al_10, rd_11, al_11, rd_12, al_12, rd_13, al_13, rd_14, al_14, lck_0, lck_i, lck_r, lck_n, lck_l, csum_0, csum_i, csum_r, csum_l, pops_0, pops_s, psh_n, psh_s, List.getElem?_cons_zero, List.getElem?_cons_succ, List.set_cons_zero, List.set_cons_succ, true_and, and_true, Nat.reduceAdd, Nat.reduceLeDiff, v4, v8, S1_riteAt, S1_thoseIn, SJ6_bitCount, GB_1, GB_8, List.forall_mem_cons, List.not_mem_nil, ix]
    simp only [needG, ix] at hQ
    simp only [vg, ix, Nat.reduceAdd] at hQ h2 ⊢
    grind
def S1_pays : Sp := fun av h Q => match av with | [.ref b, .int i] => GB b ∧ (0 ≤ i ∧ i < 8) ∧ Q (some (.int (payG (vg h b) (ix i)))) h | _ => False
theorem rn1_pays {h : Hp} {Q : Po} {b : Nat} {i : Int32} (hS : S1_pays [.ref b, .int i] h Q) : Rn (T1_pays Q) (0, [some (.ref b), some (.int i), none], [], h) := by
  obtain ⟨hb, hi, hQ⟩ := hS
  rcases hb with rfl | rfl
  · refine Rn_in C1_pays 90 ?_
    simp only [x1_pays_0, x1_pays_1, x1_pays_4, x1_pays_5, x1_pays_6, x1_pays_7, x1_pays_8, x1_pays_11, x1_pays_12, x1_pays_13, x1_pays_48, x1_pays_49, x1_pays_50, x1_pays_51, x1_pays_52, x1_pays_53, x1_pays_54, x1_pays_55, x1_pays_56, x1_pays_57, x1_pays_58, x1_pays_59, x1_pays_60, x1_pays_61, x1_pays_62, x1_pays_63, x1_pays_64, x1_pays_65, x1_pays_66, x1_pays_67, x1_pays_68, x1_pays_69, x1_pays_70, x1_pays_71, i_ald, i_get, i_iadd, i_iald, i_ic, i_ild, i_imul, i_iret, i_ist, i_isub, i_sw, oc_1, fv_1_0, fv_1_1, fv_1_2, fv_1_3, fv_1_4, fv_1_5, fv_1_6, ly_1_6, fv_1_7, ly_1_7, fv_1_8, ly_1_8, rd_2, al_2, rd_3, al_3, rd_4, al_4, rd_5, al_5, rd_6, al_6, rd_7, al_7, lck_0, lck_i, lck_r, lck_n, lck_l, csum_0, csum_i, csum_r, csum_l, pops_0, pops_s, psh_n, psh_s, List.getElem?_cons_zero, List.getElem?_cons_succ, List.set_cons_zero, List.set_cons_succ, true_and, and_true, Nat.reduceAdd, Nat.reduceLeDiff, v4, v8, List.forall_mem_cons, List.not_mem_nil, ix]
    simp only [payG, ix, vg, Nat.reduceAdd] at hQ
    grind
  · refine Rn_in C1_pays 90 ?_
    simp only [x1_pays_0, x1_pays_1, x1_pays_4, x1_pays_5, x1_pays_6, x1_pays_7, x1_pays_8, x1_pays_11, x1_pays_12, x1_pays_13, x1_pays_48, x1_pays_49, x1_pays_50, x1_pays_51, x1_pays_52, x1_pays_53, x1_pays_54, x1_pays_55, x1_pays_56, x1_pays_57, x1_pays_58, x1_pays_59, x1_pays_60, x1_pays_61, x1_pays_62, x1_pays_63, x1_pays_64, x1_pays_65, x1_pays_66, x1_pays_67, x1_pays_68, x1_pays_69, x1_pays_70, x1_pays_71, i_ald, i_get, i_iadd, i_iald, i_ic, i_ild, i_imul, i_iret, i_ist, i_isub, i_sw, oc_8, fv_8_0, fv_8_1, fv_8_2, fv_8_3, fv_8_4, fv_8_5, fv_8_6, ly_8_6, fv_8_7, ly_8_7, fv_8_8, ly_8_8, rd_9, al_9, rd_10, al_10, rd_11, al_11, rd_12, al_12, rd_13, al_13, rd_14, al_14, lck_0, lck_i, lck_r, lck_n, lck_l, csum_0, csum_i, csum_r, csum_l, pops_0, pops_s, psh_n, psh_s, List.getElem?_cons_zero, List.getElem?_cons_succ, List.set_cons_zero, List.set_cons_succ, true_and, and_true, Nat.reduceAdd, Nat.reduceLeDiff, v4, v8, List.forall_mem_cons, List.not_mem_nil, ix]
    simp only [payG, ix, vg, Nat.reduceAdd] at hQ
    grind
def S1_gains : Sp := fun av h Q => match av with | [.ref b, .int i] => GB b ∧ (0 ≤ i ∧ i < 8) ∧ Q (some (.int (gainG (vg h b) (ix i)))) h | _ => False
theorem rn1_gains {h : Hp} {Q : Po} {b : Nat} {i : Int32} (hS : S1_gains [.ref b, .int i] h Q) : Rn (T1_gains Q) (0, [some (.ref b), some (.int i), none], [], h) := by
  obtain ⟨hb, hi, hQ⟩ := hS
  rcases hb with rfl | rfl
  · refine Rn_in C1_gains 90 ?_
    simp only [x1_gains_0, x1_gains_1, x1_gains_4, x1_gains_5, x1_gains_6, x1_gains_7, x1_gains_8, x1_gains_11, x1_gains_12, x1_gains_13, x1_gains_44, x1_gains_45, x1_gains_46, x1_gains_47, x1_gains_48, x1_gains_49, x1_gains_50, x1_gains_51, x1_gains_52, x1_gains_53, x1_gains_54, x1_gains_55, x1_gains_56, x1_gains_59, x1_gains_60, x1_gains_61, x1_gains_62, x1_gains_63, x1_gains_64, x1_gains_65, x1_gains_66, x1_gains_67, x1_gains_68, i_ald, i_get, i_iadd, i_iald, i_ic, i_ild, i_imul, i_iret, i_ist, i_isub, i_sw, oc_1, fv_1_0, fv_1_1, fv_1_2, fv_1_3, fv_1_4, fv_1_5, fv_1_6, ly_1_6, fv_1_7, ly_1_7, fv_1_8, ly_1_8, rd_2, al_2, rd_3, al_3, rd_4, al_4, rd_5, al_5, rd_6, al_6, rd_7, al_7, lck_0, lck_i, lck_r, lck_n, lck_l, csum_0, csum_i, csum_r, csum_l, pops_0, pops_s, psh_n, psh_s, List.getElem?_cons_zero, List.getElem?_cons_succ, List.set_cons_zero, List.set_cons_succ, true_and, and_true, Nat.reduceAdd, Nat.reduceLeDiff, v4, v8, List.forall_mem_cons, List.not_mem_nil, ix]
    simp only [gainG, ix, vg, Nat.reduceAdd] at hQ
    grind
  · refine Rn_in C1_gains 90 ?_
    simp only [x1_gains_0, x1_gains_1, x1_gains_4, x1_gains_5, x1_gains_6, x1_gains_7, x1_gains_8, x1_gains_11, x1_gains_12, x1_gains_13, x1_gains_44, x1_gains_45, x1_gains_46, x1_gains_47, x1_gains_48, x1_gains_49, x1_gains_50, x1_gains_51, x1_gains_52, x1_gains_53, x1_gains_54, x1_gains_55, x1_gains_56, x1_gains_59, x1_gains_60, x1_gains_61, x1_gains_62, x1_gains_63, x1_gains_64, x1_gains_65, x1_gains_66, x1_gains_67, x1_gains_68, i_ald, i_get, i_iadd, i_iald, i_ic, i_ild, i_imul, i_iret, i_ist, i_isub, i_sw, oc_8, fv_8_0, fv_8_1, fv_8_2, fv_8_3, fv_8_4, fv_8_5, fv_8_6, ly_8_6, fv_8_7, ly_8_7, fv_8_8, ly_8_8, rd_9, al_9, rd_10, al_10, rd_11, al_11, rd_12, al_12, rd_13, al_13, rd_14, al_14, lck_0, lck_i, lck_r, lck_n, lck_l, csum_0, csum_i, csum_r, csum_l, pops_0, pops_s, psh_n, psh_s, List.getElem?_cons_zero, List.getElem?_cons_succ, List.set_cons_zero, List.set_cons_succ, true_and, and_true, Nat.reduceAdd, Nat.reduceLeDiff, v4, v8, List.forall_mem_cons, List.not_mem_nil, ix]
    simp only [gainG, ix, vg, Nat.reduceAdd] at hQ
    grind
