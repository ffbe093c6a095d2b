/-! the class Gaol: changing -/
theorem pg_up (h : Hp) (b j k : Nat) (G : GG) (x : Int32) : pg h b (up2 G j k x) = up2 (pg h b G) (b + j) k x := (up2_pg h b j k G x).symm
theorem vg_up (h : Hp) (b j k : Nat) (x : Int32) : vg (up2 h (b + j) k x) b = up2 (vg h b) j k x := by
  rw [up2_vg, vg_pg]
theorem vu_1_0 (h : Hp) (k : Nat) (x : Int32) : vg (up2 h 1 k x) 1 = up2 (vg h 1) 0 k x := vg_up h 1 0 k x
theorem vu_1_1 (h : Hp) (k : Nat) (x : Int32) : vg (up2 h 2 k x) 1 = up2 (vg h 1) 1 k x := vg_up h 1 1 k x
theorem vu_1_2 (h : Hp) (k : Nat) (x : Int32) : vg (up2 h 3 k x) 1 = up2 (vg h 1) 2 k x := vg_up h 1 2 k x
theorem vu_1_3 (h : Hp) (k : Nat) (x : Int32) : vg (up2 h 4 k x) 1 = up2 (vg h 1) 3 k x := vg_up h 1 3 k x
theorem vu_1_4 (h : Hp) (k : Nat) (x : Int32) : vg (up2 h 5 k x) 1 = up2 (vg h 1) 4 k x := vg_up h 1 4 k x
theorem vu_1_5 (h : Hp) (k : Nat) (x : Int32) : vg (up2 h 6 k x) 1 = up2 (vg h 1) 5 k x := vg_up h 1 5 k x
theorem vu_1_6 (h : Hp) (k : Nat) (x : Int32) : vg (up2 h 7 k x) 1 = up2 (vg h 1) 6 k x := vg_up h 1 6 k x
theorem vu_8_0 (h : Hp) (k : Nat) (x : Int32) : vg (up2 h 8 k x) 8 = up2 (vg h 8) 0 k x := vg_up h 8 0 k x
theorem vu_8_1 (h : Hp) (k : Nat) (x : Int32) : vg (up2 h 9 k x) 8 = up2 (vg h 8) 1 k x := vg_up h 8 1 k x
theorem vu_8_2 (h : Hp) (k : Nat) (x : Int32) : vg (up2 h 10 k x) 8 = up2 (vg h 8) 2 k x := vg_up h 8 2 k x
theorem vu_8_3 (h : Hp) (k : Nat) (x : Int32) : vg (up2 h 11 k x) 8 = up2 (vg h 8) 3 k x := vg_up h 8 3 k x
theorem vu_8_4 (h : Hp) (k : Nat) (x : Int32) : vg (up2 h 12 k x) 8 = up2 (vg h 8) 4 k x := vg_up h 8 4 k x
theorem vu_8_5 (h : Hp) (k : Nat) (x : Int32) : vg (up2 h 13 k x) 8 = up2 (vg h 8) 5 k x := vg_up h 8 5 k x
theorem vu_8_6 (h : Hp) (k : Nat) (x : Int32) : vg (up2 h 14 k x) 8 = up2 (vg h 8) 6 k x := vg_up h 8 6 k x
theorem pay_5 (G : GG) (k i : Nat) (x : Int32) : payG (up2 G 5 k x) i = payG G i := by simp [payG, up2]
theorem ix1 : Int32.toNatClampNeg 1 = 1 := by decide
theorem ix0 : Int32.toNatClampNeg 0 = 0 := by decide
theorem ix2 : Int32.toNatClampNeg 2 = 2 := by decide
theorem ix3 : Int32.toNatClampNeg 3 = 3 := by decide
theorem occN_1 (G : GG) : occN G 1 = occG G := rfl
def S1_draw : Sp := fun av h Q => match av with | [.ref b] => GB b ∧ Q (some (.int (drawV (drawZ (h b 8))))) (up2 h b 8 (drawZ (h b 8))) | _ => False
theorem rn1_draw {h : Hp} {Q : Po} {b : Nat} (hS : S1_draw [.ref b] h Q) : Rn (T1_draw Q) (0, [some (.ref b)], [], h) := by
  obtain ⟨hb, hQ⟩ := hS
  rcases hb with rfl | rfl
  · refine Rn_in C1_draw 60 ?_
    simp only [x1_draw_0, x1_draw_1, x1_draw_2, x1_draw_5, x1_draw_7, x1_draw_8, x1_draw_11, x1_draw_12, x1_draw_15, x1_draw_16, x1_draw_19, x1_draw_21, x1_draw_22, i_ald, i_get, i_iadd, i_ic, i_imul, i_iret, i_iushr, i_put, oc_1, fv_1_0, fv_1_1, fv_1_2, fv_1_3, fv_1_4, fv_1_5, fv_1_6, ly_1_6, fv_1_7, ly_1_7, fv_1_8, ly_1_8, rd_2, al_2, rd_3, al_3, rd_4, al_4, rd_5, al_5, rd_6, al_6, rd_7, al_7, lck_0, lck_i, lck_r, lck_n, lck_l, csum_0, csum_i, csum_r, csum_l, pops_0, pops_s, psh_n, psh_s, List.getElem?_cons_zero, List.getElem?_cons_succ, List.set_cons_zero, List.set_cons_succ, true_and, and_true, Nat.reduceAdd, Nat.reduceLeDiff, up2_at, if_true]
    exact hQ
  · refine Rn_in C1_draw 60 ?_
    simp only [x1_draw_0, x1_draw_1, x1_draw_2, x1_draw_5, x1_draw_7, x1_draw_8, x1_draw_11, x1_draw_12, x1_draw_15, x1_draw_16, x1_draw_19, x1_draw_21, x1_draw_22, i_ald, i_get, i_iadd, i_ic, i_imul, i_iret, i_iushr, i_put, oc_8, fv_8_0, fv_8_1, fv_8_2, fv_8_3, fv_8_4, fv_8_5, fv_8_6, ly_8_6, fv_8_7, ly_8_7, fv_8_8, ly_8_8, rd_9, al_9, rd_10, al_10, rd_11, al_11, rd_12, al_12, rd_13, al_13, rd_14, al_14, lck_0, lck_i, lck_r, lck_n, lck_l, csum_0, csum_i, csum_r, csum_l, pops_0, pops_s, psh_n, psh_s, List.getElem?_cons_zero, List.getElem?_cons_succ, List.set_cons_zero, List.set_cons_succ, true_and, and_true, Nat.reduceAdd, Nat.reduceLeDiff, up2_at, if_true]
    exact hQ
def S1_takeTurn : Sp := fun av h Q => match av with | [.ref b, .int i] => GB b ∧ (0 ≤ i ∧ i < 8) ∧ (0 ≤ h b 6 ∧ h b 6 ≤ 8) ∧ Q none (pg h b (turnG (vg h b) (ix i))) | _ => False
theorem rn1_takeTurn {h : Hp} {Q : Po} {b : Nat} {i : Int32} (hS : S1_takeTurn [.ref b, .int i] h Q) : Rn (T1_takeTurn Q S1_isHeld S1_needs S1_pays S5_heldGrace S1_gains) (0, [some (.ref b), some (.int i)], [], h) := by
  obtain ⟨hb, hi, hc, hQ⟩ := hS
  rcases hb with rfl | rfl
  · refine Rn_in C1_takeTurn 90 ?_
    simp only [x1_takeTurn_0, x1_takeTurn_1, x1_takeTurn_2, x1_takeTurn_5, x1_takeTurn_8, x1_takeTurn_9, x1_takeTurn_12, x1_takeTurn_13, x1_takeTurn_14, x1_takeTurn_15, x1_takeTurn_16, x1_takeTurn_19, x1_takeTurn_22, x1_takeTurn_23, x1_takeTurn_26, x1_takeTurn_27, x1_takeTurn_28, x1_takeTurn_29, x1_takeTurn_30, x1_takeTurn_31, x1_takeTurn_32, x1_takeTurn_33, x1_takeTurn_36, x1_takeTurn_37, x1_takeTurn_38, x1_takeTurn_41, x1_takeTurn_42, x1_takeTurn_43, x1_takeTurn_44, x1_takeTurn_45, x1_takeTurn_48, x1_takeTurn_49, x1_takeTurn_52, x1_takeTurn_53, x1_takeTurn_56, x1_takeTurn_57, x1_takeTurn_60, x1_takeTurn_61, x1_takeTurn_62, x1_takeTurn_65, x1_takeTurn_66, x1_takeTurn_67, x1_takeTurn_68, x1_takeTurn_69, x1_takeTurn_72, x1_takeTurn_73, x1_takeTurn_76, x1_takeTurn_77, i_ald, i_cS, i_cV, i_dup2, i_get, i_goto, i_iadd, i_iald, i_iast, i_ic, i_ic_lt, i_if_ne, i_ild, i_isub, i_vret, oc_1, fv_1_0, fv_1_1, fv_1_2, fv_1_3, fv_1_4, fv_1_5, fv_1_6, ly_1_6, fv_1_7, ly_1_7, fv_1_8, ly_1_8, rd_2, al_2, rd_3, al_3, rd_4, al_4, rd_5, al_5, rd_6, al_6, rd_7, al_7, lck_0, lck_i, lck_r, lck_n, lck_l, csum_0, csum_i, csum_r, csum_l, pops_0, pops_s, psh_n, psh_s, List.getElem?_cons_zero, List.getElem?_cons_succ, List.set_cons_zero, List.set_cons_succ, true_and, and_true, Nat.reduceAdd, Nat.reduceLeDiff, v8, S1_isHeld, S1_needs, S1_pays, S5_heldGrace, S1_gains, GB_1, GB_8, vu_1_5, pay_5, up2_at, Nat.reduceEqDiff, if_false]
    by_cases hh : heldB (vg h 1) (ix i) = 0 ∧ needG (vg h 1) (ix i) ≤ vg h 1 4 (ix i)
    · rw [turnG, if_pos hh] at hQ
      simp only [pg_up, pg_vg, Nat.reduceAdd] at hQ
      simp only [vg, Nat.reduceAdd] at hh hQ
      grind
    · rw [turnG, if_neg hh] at hQ
      simp only [pg_up, pg_vg, Nat.reduceAdd] at hQ
      simp only [vg, Nat.reduceAdd] at hh hQ
      grind
  · refine Rn_in C1_takeTurn 90 ?_
    simp only [x1_takeTurn_0, x1_takeTurn_1, x1_takeTurn_2, x1_takeTurn_5, x1_takeTurn_8, x1_takeTurn_9, x1_takeTurn_12, x1_takeTurn_13, x1_takeTurn_14, x1_takeTurn_15, x1_takeTurn_16, x1_takeTurn_19, x1_takeTurn_22, x1_takeTurn_23, x1_takeTurn_26, x1_takeTurn_27, x1_takeTurn_28, x1_takeTurn_29, x1_takeTurn_30, x1_takeTurn_31, x1_takeTurn_32, x1_takeTurn_33, x1_takeTurn_36, x1_takeTurn_37, x1_takeTurn_38, x1_takeTurn_41, x1_takeTurn_42, x1_takeTurn_43, x1_takeTurn_44, x1_takeTurn_45, x1_takeTurn_48, x1_takeTurn_49, x1_takeTurn_52, x1_takeTurn_53, x1_takeTurn_56, x1_takeTurn_57, x1_takeTurn_60, x1_takeTurn_61, x1_takeTurn_62, x1_takeTurn_65, x1_takeTurn_66, x1_takeTurn_67, x1_takeTurn_68, x1_takeTurn_69, x1_takeTurn_72, x1_takeTurn_73, x1_takeTurn_76, x1_takeTurn_77, i_ald, i_cS, i_cV, i_dup2, i_get, i_goto, i_iadd, i_iald, i_iast, i_ic, i_ic_lt, i_if_ne, i_ild, i_isub, i_vret, oc_8, fv_8_0, fv_8_1, fv_8_2, fv_8_3, fv_8_4, fv_8_5, fv_8_6, ly_8_6, fv_8_7, ly_8_7, fv_8_8, ly_8_8, rd_9, al_9, rd_10, al_10, rd_11, al_11, rd_12, al_12, rd_13, al_13, rd_14, al_14, lck_0, lck_i, lck_r, lck_n, lck_l, csum_0, csum_i, csum_r, csum_l, pops_0, pops_s, psh_n, psh_s, List.getElem?_cons_zero, List.getElem?_cons_succ, List.set_cons_zero, List.set_cons_succ, true_and, and_true, Nat.reduceAdd, Nat.reduceLeDiff, v8, S1_isHeld, S1_needs, S1_pays, S5_heldGrace, S1_gains, GB_1, GB_8, vu_8_5, pay_5, up2_at, Nat.reduceEqDiff, if_false]
    by_cases hh : heldB (vg h 8) (ix i) = 0 ∧ needG (vg h 8) (ix i) ≤ vg h 8 4 (ix i)
    · rw [turnG, if_pos hh] at hQ
      simp only [pg_up, pg_vg, Nat.reduceAdd] at hQ
      simp only [vg, Nat.reduceAdd] at hh hQ
      grind
    · rw [turnG, if_neg hh] at hQ
      simp only [pg_up, pg_vg, Nat.reduceAdd] at hQ
      simp only [vg, Nat.reduceAdd] at hh hQ
      grind
def S1_passOccasions : Sp := fun av h Q => match av with | [.ref b, .int n] => GB b ∧ 0 ≤ n ∧ (0 ≤ h b 6 ∧ h b 6 ≤ 8) ∧ Q none (pg h b (occN (vg h b) (ix n))) | _ => False
theorem pg_0 (h : Hp) (b k : Nat) (G : GG) : pg h b G b k = G 0 k := by
  simp [pg]
theorem lp1_passI {h : Hp} {Q : Po} {b : Nat} (hb : GB b) {n : Nat} (hn8 : n ≤ 8) {N t : Int32} {G : GG} (hn : G 0 6 = nI n) (next : Rn (T1_passOccasions Q S1_isOut S1_takeTurn) (2, [some (.ref b), some (.int N), some (.int (t + 1)), some (.int (nI n))], [], pg h b (occG G))) : ∀ d j, d + j = n → Rn (T1_passOccasions Q S1_isOut S1_takeTurn) (9, [some (.ref b), some (.int N), some (.int t), some (.int (nI j))], [], pg h b (stepG G j))
  | 0, j, e => by
    have e : j = n := by omega
    subst e
    have hc : stepG G j 0 6 = nI j := by rw [step_0]; exact hn
    have hnG : nG G = j := by rw [show nG G = ix (G 0 6) from rfl, hn, ix_nI (by omega)]
    have hoc : occG G = up2 (stepG G j) 0 7 (stepG G j 0 7 + 1) := by unfold occG; rw [hnG]
    rw [hoc, pg_up] at next
    rcases hb with rfl | rfl
    · refine Rn_go C1_passOccasions 60 ?_
      simp only [x1_passOccasions_0, x1_passOccasions_1, k1_passOccasions_2, t1_passOccasions_2, x1_passOccasions_3, x1_passOccasions_4, x1_passOccasions_7, x1_passOccasions_8, k1_passOccasions_9, t1_passOccasions_9, x1_passOccasions_10, x1_passOccasions_11, x1_passOccasions_14, x1_passOccasions_17, x1_passOccasions_18, x1_passOccasions_19, x1_passOccasions_22, x1_passOccasions_25, x1_passOccasions_26, x1_passOccasions_27, x1_passOccasions_30, x1_passOccasions_33, x1_passOccasions_36, x1_passOccasions_37, x1_passOccasions_38, x1_passOccasions_41, x1_passOccasions_42, x1_passOccasions_43, x1_passOccasions_46, x1_passOccasions_49, x1_passOccasions_52, i_ald, i_cV, i_dup, i_get, i_goto, i_iadd, i_ic, i_ic_ge, i_if_ne, i_ild, i_inc, i_ist, i_put, i_vret, oc_1, fv_1_0, fv_1_1, fv_1_2, fv_1_3, fv_1_4, fv_1_5, fv_1_6, ly_1_6, fv_1_7, ly_1_7, fv_1_8, ly_1_8, rd_2, al_2, rd_3, al_3, rd_4, al_4, rd_5, al_5, rd_6, al_6, rd_7, al_7, lck_0, lck_i, lck_r, lck_n, lck_l, csum_0, csum_i, csum_r, csum_l, pops_0, pops_s, psh_n, psh_s, List.getElem?_cons_zero, List.getElem?_cons_succ, List.set_cons_zero, List.set_cons_succ, true_and, and_true, Nat.reduceAdd, Nat.reduceLeDiff, v8, S1_isOut, S1_takeTurn, pg_0, hc]
      exact ⟨fun _ => next, fun c => absurd (Int32.le_refl _) c⟩
    · refine Rn_go C1_passOccasions 60 ?_
      simp only [x1_passOccasions_0, x1_passOccasions_1, k1_passOccasions_2, t1_passOccasions_2, x1_passOccasions_3, x1_passOccasions_4, x1_passOccasions_7, x1_passOccasions_8, k1_passOccasions_9, t1_passOccasions_9, x1_passOccasions_10, x1_passOccasions_11, x1_passOccasions_14, x1_passOccasions_17, x1_passOccasions_18, x1_passOccasions_19, x1_passOccasions_22, x1_passOccasions_25, x1_passOccasions_26, x1_passOccasions_27, x1_passOccasions_30, x1_passOccasions_33, x1_passOccasions_36, x1_passOccasions_37, x1_passOccasions_38, x1_passOccasions_41, x1_passOccasions_42, x1_passOccasions_43, x1_passOccasions_46, x1_passOccasions_49, x1_passOccasions_52, i_ald, i_cV, i_dup, i_get, i_goto, i_iadd, i_ic, i_ic_ge, i_if_ne, i_ild, i_inc, i_ist, i_put, i_vret, oc_8, fv_8_0, fv_8_1, fv_8_2, fv_8_3, fv_8_4, fv_8_5, fv_8_6, ly_8_6, fv_8_7, ly_8_7, fv_8_8, ly_8_8, rd_9, al_9, rd_10, al_10, rd_11, al_11, rd_12, al_12, rd_13, al_13, rd_14, al_14, lck_0, lck_i, lck_r, lck_n, lck_l, csum_0, csum_i, csum_r, csum_l, pops_0, pops_s, psh_n, psh_s, List.getElem?_cons_zero, List.getElem?_cons_succ, List.set_cons_zero, List.set_cons_succ, true_and, and_true, Nat.reduceAdd, Nat.reduceLeDiff, v8, S1_isOut, S1_takeTurn, pg_0, hc]
      exact ⟨fun _ => next, fun c => absurd (Int32.le_refl _) c⟩
  | d + 1, j, e => by
    have ih := lp1_passI hb hn8 hn next d (j + 1) (by omega)
    rw [← nI_1] at ih
    have hc : stepG G j 0 6 = nI n := by rw [step_0]; exact hn
    have hj := nlt8 (j := j) (by omega)
    have hlt : ¬ nI n ≤ nI j := nI_ge (by omega) (by omega)
    have hx : ix (nI j) = j := ix_nI (by omega)
    have hx2 : (nI j).toNatClampNeg = j := ix_nI (by omega)
    have h8 : 0 ≤ nI n ∧ nI n ≤ 8 := ⟨nI_pos' (by omega), nI_le (b := 8) (by omega) (by decide)⟩
    rcases hb with rfl | rfl
    · refine Rn_go C1_passOccasions 60 ?_
      simp only [x1_passOccasions_0, x1_passOccasions_1, k1_passOccasions_2, t1_passOccasions_2, x1_passOccasions_3, x1_passOccasions_4, x1_passOccasions_7, x1_passOccasions_8, k1_passOccasions_9, t1_passOccasions_9, x1_passOccasions_10, x1_passOccasions_11, x1_passOccasions_14, x1_passOccasions_17, x1_passOccasions_18, x1_passOccasions_19, x1_passOccasions_22, x1_passOccasions_25, x1_passOccasions_26, x1_passOccasions_27, x1_passOccasions_30, x1_passOccasions_33, x1_passOccasions_36, x1_passOccasions_37, x1_passOccasions_38, x1_passOccasions_41, x1_passOccasions_42, x1_passOccasions_43, x1_passOccasions_46, x1_passOccasions_49, x1_passOccasions_52, i_ald, i_cV, i_dup, i_get, i_goto, i_iadd, i_ic, i_ic_ge, i_if_ne, i_ild, i_inc, i_ist, i_put, i_vret, oc_1, fv_1_0, fv_1_1, fv_1_2, fv_1_3, fv_1_4, fv_1_5, fv_1_6, ly_1_6, fv_1_7, ly_1_7, fv_1_8, ly_1_8, rd_2, al_2, rd_3, al_3, rd_4, al_4, rd_5, al_5, rd_6, al_6, rd_7, al_7, lck_0, lck_i, lck_r, lck_n, lck_l, csum_0, csum_i, csum_r, csum_l, pops_0, pops_s, psh_n, psh_s, List.getElem?_cons_zero, List.getElem?_cons_succ, List.set_cons_zero, List.set_cons_succ, true_and, and_true, Nat.reduceAdd, Nat.reduceLeDiff, v8, S1_isOut, S1_takeTurn, pg_0, hc, GB_1, GB_8, vg_pg, pg_pg, outB_0, ix, hx2]
      refine ⟨fun c => absurd c hlt, fun _ => ⟨hj, fun c => ?_, fun c => ⟨hj, h8, ?_⟩⟩⟩
      · rw [show stepG G (j + 1) = stepG G j from by rw [stepG, if_pos (Classical.not_not.mp c)]] at ih
        exact ih
      · rw [show stepG G (j + 1) = turnG (stepG G j) j from by rw [stepG, if_neg c]] at ih
        exact ih
    · refine Rn_go C1_passOccasions 60 ?_
      simp only [x1_passOccasions_0, x1_passOccasions_1, k1_passOccasions_2, t1_passOccasions_2, x1_passOccasions_3, x1_passOccasions_4, x1_passOccasions_7, x1_passOccasions_8, k1_passOccasions_9, t1_passOccasions_9, x1_passOccasions_10, x1_passOccasions_11, x1_passOccasions_14, x1_passOccasions_17, x1_passOccasions_18, x1_passOccasions_19, x1_passOccasions_22, x1_passOccasions_25, x1_passOccasions_26, x1_passOccasions_27, x1_passOccasions_30, x1_passOccasions_33, x1_passOccasions_36, x1_passOccasions_37, x1_passOccasions_38, x1_passOccasions_41, x1_passOccasions_42, x1_passOccasions_43, x1_passOccasions_46, x1_passOccasions_49, x1_passOccasions_52, i_ald, i_cV, i_dup, i_get, i_goto, i_iadd, i_ic, i_ic_ge, i_if_ne, i_ild, i_inc, i_ist, i_put, i_vret, oc_8, fv_8_0, fv_8_1, fv_8_2, fv_8_3, fv_8_4, fv_8_5, fv_8_6, ly_8_6, fv_8_7, ly_8_7, fv_8_8, ly_8_8, rd_9, al_9, rd_10, al_10, rd_11, al_11, rd_12, al_12, rd_13, al_13, rd_14, al_14, lck_0, lck_i, lck_r, lck_n, lck_l, csum_0, csum_i, csum_r, csum_l, pops_0, pops_s, psh_n, psh_s, List.getElem?_cons_zero, List.getElem?_cons_succ, List.set_cons_zero, List.set_cons_succ, true_and, and_true, Nat.reduceAdd, Nat.reduceLeDiff, v8, S1_isOut, S1_takeTurn, pg_0, hc, GB_1, GB_8, vg_pg, pg_pg, outB_0, ix, hx2]
      refine ⟨fun c => absurd c hlt, fun _ => ⟨hj, fun c => ?_, fun c => ⟨hj, h8, ?_⟩⟩⟩
      · rw [show stepG G (j + 1) = stepG G j from by rw [stepG, if_pos (Classical.not_not.mp c)]] at ih
        exact ih
      · rw [show stepG G (j + 1) = turnG (stepG G j) j from by rw [stepG, if_neg c]] at ih
        exact ih
theorem lp1_passO {h : Hp} {Q : Po} {b : Nat} (hb : GB b) {n m : Nat} (hn : h b 6 = nI n) (hn8 : n ≤ 8) (hm : m < 2 ^ 31) (hQ : Q none (pg h b (occN (vg h b) m))) : ∀ d t, d + t = m → ∀ y : Option Value, Rn (T1_passOccasions Q S1_isOut S1_takeTurn) (2, [some (.ref b), some (.int (nI m)), some (.int (nI t)), y], [], pg h b (occN (vg h b) t))
  | 0, t, e, y => by
    have e : t = m := by omega
    subst e
    refine Rn_go C1_passOccasions 60 ?_
    simp only [x1_passOccasions_0, x1_passOccasions_1, k1_passOccasions_2, t1_passOccasions_2, x1_passOccasions_3, x1_passOccasions_4, x1_passOccasions_7, x1_passOccasions_8, k1_passOccasions_9, t1_passOccasions_9, x1_passOccasions_10, x1_passOccasions_11, x1_passOccasions_14, x1_passOccasions_17, x1_passOccasions_18, x1_passOccasions_19, x1_passOccasions_22, x1_passOccasions_25, x1_passOccasions_26, x1_passOccasions_27, x1_passOccasions_30, x1_passOccasions_33, x1_passOccasions_36, x1_passOccasions_37, x1_passOccasions_38, x1_passOccasions_41, x1_passOccasions_42, x1_passOccasions_43, x1_passOccasions_46, x1_passOccasions_49, x1_passOccasions_52, i_ald, i_cV, i_dup, i_get, i_goto, i_iadd, i_ic, i_ic_ge, i_if_ne, i_ild, i_inc, i_ist, i_put, i_vret, oc_1, fv_1_0, fv_1_1, fv_1_2, fv_1_3, fv_1_4, fv_1_5, fv_1_6, ly_1_6, fv_1_7, ly_1_7, fv_1_8, ly_1_8, rd_2, al_2, rd_3, al_3, rd_4, al_4, rd_5, al_5, rd_6, al_6, rd_7, al_7, lck_0, lck_i, lck_r, lck_n, lck_l, csum_0, csum_i, csum_r, csum_l, pops_0, pops_s, psh_n, psh_s, List.getElem?_cons_zero, List.getElem?_cons_succ, List.set_cons_zero, List.set_cons_succ, true_and, and_true, Nat.reduceAdd, Nat.reduceLeDiff]
    exact ⟨fun _ => hQ, fun c => absurd (Int32.le_refl _) c⟩
  | d + 1, t, e, y => by
    have ih := lp1_passO hb hn hn8 hm hQ d (t + 1) (by omega)
    rw [← nI_1] at ih
    have hlt : ¬ nI m ≤ nI t := nI_ge (by omega) (by omega)
    have hG : occN (vg h b) t 0 6 = nI n := by
      rw [occN_6]
      show h (b + 0) 6 = nI n
      exact hn
    refine Rn_go C1_passOccasions 60 ?_
    have key := lp1_passI (Q := Q) (h := h) hb hn8 (N := nI m) (t := nI t) hG (ih (some (.int (nI n)))) n 0 (by omega)
    simp only [x1_passOccasions_0, x1_passOccasions_1, k1_passOccasions_2, t1_passOccasions_2, x1_passOccasions_3, x1_passOccasions_4, x1_passOccasions_7, x1_passOccasions_8, k1_passOccasions_9, t1_passOccasions_9, x1_passOccasions_10, x1_passOccasions_11, x1_passOccasions_14, x1_passOccasions_17, x1_passOccasions_18, x1_passOccasions_19, x1_passOccasions_22, x1_passOccasions_25, x1_passOccasions_26, x1_passOccasions_27, x1_passOccasions_30, x1_passOccasions_33, x1_passOccasions_36, x1_passOccasions_37, x1_passOccasions_38, x1_passOccasions_41, x1_passOccasions_42, x1_passOccasions_43, x1_passOccasions_46, x1_passOccasions_49, x1_passOccasions_52, i_ald, i_cV, i_dup, i_get, i_goto, i_iadd, i_ic, i_ic_ge, i_if_ne, i_ild, i_inc, i_ist, i_put, i_vret, oc_1, fv_1_0, fv_1_1, fv_1_2, fv_1_3, fv_1_4, fv_1_5, fv_1_6, ly_1_6, fv_1_7, ly_1_7, fv_1_8, ly_1_8, rd_2, al_2, rd_3, al_3, rd_4, al_4, rd_5, al_5, rd_6, al_6, rd_7, al_7, lck_0, lck_i, lck_r, lck_n, lck_l, csum_0, csum_i, csum_r, csum_l, pops_0, pops_s, psh_n, psh_s, List.getElem?_cons_zero, List.getElem?_cons_succ, List.set_cons_zero, List.set_cons_succ, true_and, and_true, Nat.reduceAdd, Nat.reduceLeDiff]
    exact ⟨fun c => absurd c hlt, fun _ => key⟩
theorem rn1_passOccasions {h : Hp} {Q : Po} {b : Nat} {n : Int32} (hS : S1_passOccasions [.ref b, .int n] h Q) : Rn (T1_passOccasions Q S1_isOut S1_takeTurn) (0, [some (.ref b), some (.int n), none, none], [], h) := by
  obtain ⟨hb, h0, hc, hQ⟩ := hS
  obtain ⟨m, n8, hn, hi⟩ := cntN hc.1 hc.2
  have hm : nI (ix n) = n := nI_ix h0
  have hm2 : ix n < 2 ^ 31 := by
    obtain ⟨j, a, b⟩ := nI_of (x := n) (Int32.not_lt.mpr h0)
    rw [b, ix_nI a]; exact a
  have := lp1_passO hb hn n8 hm2 hQ (ix n) 0 (by omega) none
  rw [hm, show pg h b (occN (vg h b) 0) = h from pg_vg h b] at this
  refine Rn_in C1_passOccasions 60 ?_
  simp only [x1_passOccasions_0, x1_passOccasions_1, k1_passOccasions_2, t1_passOccasions_2, x1_passOccasions_3, x1_passOccasions_4, x1_passOccasions_7, x1_passOccasions_8, k1_passOccasions_9, t1_passOccasions_9, x1_passOccasions_10, x1_passOccasions_11, x1_passOccasions_14, x1_passOccasions_17, x1_passOccasions_18, x1_passOccasions_19, x1_passOccasions_22, x1_passOccasions_25, x1_passOccasions_26, x1_passOccasions_27, x1_passOccasions_30, x1_passOccasions_33, x1_passOccasions_36, x1_passOccasions_37, x1_passOccasions_38, x1_passOccasions_41, x1_passOccasions_42, x1_passOccasions_43, x1_passOccasions_46, x1_passOccasions_49, x1_passOccasions_52, i_ald, i_cV, i_dup, i_get, i_goto, i_iadd, i_ic, i_ic_ge, i_if_ne, i_ild, i_inc, i_ist, i_put, i_vret, oc_1, fv_1_0, fv_1_1, fv_1_2, fv_1_3, fv_1_4, fv_1_5, fv_1_6, ly_1_6, fv_1_7, ly_1_7, fv_1_8, ly_1_8, rd_2, al_2, rd_3, al_3, rd_4, al_4, rd_5, al_5, rd_6, al_6, rd_7, al_7, lck_0, lck_i, lck_r, lck_n, lck_l, csum_0, csum_i, csum_r, csum_l, pops_0, pops_s, psh_n, psh_s, List.getElem?_cons_zero, List.getElem?_cons_succ, List.set_cons_zero, List.set_cons_succ, true_and, and_true, Nat.reduceAdd, Nat.reduceLeDiff]
  exact this
