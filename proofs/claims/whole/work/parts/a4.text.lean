/-! the reference begins, reads; gaol of both -/
def zs (s : Nat → Int32) (j k : Nat) : Int32 := if k < j then 0 else s k
def bgB (s : Nat → Int32) (z : Int32) : Nat → Nat → Int32
  | 0 => upd (upd (upd (upd (upd (zs s 47) 2 z) 3 2) 4 3) 5 2) 6 20
  | j + 1 => upd (bgB s z j) (7 + j) 10
theorem zs_up (s : Nat → Int32) (j : Nat) : upd (zs s j) j 0 = zs s (j + 1) := by
  funext k; simp only [upd, zs]; grind
def S6_begins : Sp := fun av h Q => match av with | [.ref m] => m = 41 ∧ Q none (upA h 42 (bgB (h 42) (h 42 2) 8)) | _ => False
theorem ixs : Int32.toNatClampNeg 2 = 2 ∧ Int32.toNatClampNeg 3 = 3 ∧ Int32.toNatClampNeg 4 = 4 ∧ Int32.toNatClampNeg 5 = 5 ∧ Int32.toNatClampNeg 6 = 6 := by decide
theorem lp6_bgB {h : Hp} {Q : Po} {z : Int32} (hQ : Q none (upA h 42 (bgB (h 42) z 8))) : ∀ d j, d + j = 8 → Rn (T6_begins Q) (67, [some (.ref 41), some (.int z), some (.int (nI j))], [], upA h 42 (bgB (h 42) z j))
  | 0, j, e => by
    have e : j = 8 := by omega
    subst e
    have c : (8 : Int32) ≤ nI 8 := by decide
    refine Rn_go C6_begins 60 ?_
    simp only [x6_begins_0, x6_begins_1, x6_begins_4, x6_begins_5, x6_begins_6, x6_begins_7, x6_begins_8, k6_begins_9, t6_begins_9, x6_begins_10, x6_begins_12, x6_begins_15, x6_begins_16, x6_begins_19, x6_begins_20, x6_begins_21, x6_begins_22, x6_begins_25, x6_begins_28, x6_begins_29, x6_begins_32, x6_begins_33, x6_begins_34, x6_begins_35, x6_begins_36, x6_begins_39, x6_begins_40, x6_begins_41, x6_begins_42, x6_begins_43, x6_begins_46, x6_begins_47, x6_begins_48, x6_begins_49, x6_begins_50, x6_begins_53, x6_begins_54, x6_begins_55, x6_begins_56, x6_begins_57, x6_begins_60, x6_begins_62, x6_begins_64, x6_begins_65, x6_begins_66, k6_begins_67, t6_begins_67, x6_begins_68, x6_begins_70, x6_begins_73, x6_begins_74, x6_begins_77, x6_begins_79, x6_begins_80, x6_begins_81, x6_begins_83, x6_begins_84, x6_begins_87, x6_begins_90, i_ald, i_get, i_goto, i_iadd, i_iald, i_iast, i_ic, i_ic_ge, i_ild, i_inc, i_ist, i_vret, oc_41, fv_41_0, fv_41_1, fv_41_2, fv_41_3, fv_41_4, ly_41_4, fv_41_5, fv_41_6, ly_41_6, fv_41_7, ly_41_7, fv_41_8, ly_41_8, fv_41_9, ly_41_9, fv_41_10, ly_41_10, fv_41_11, ly_41_11, fv_41_12, fv_41_13, fv_41_14, ly_41_14, fv_41_15, fv_41_16, fv_41_17, fv_41_18, fv_41_19, fv_41_20, fv_41_21, fv_41_22, ly_41_22, fv_41_23, ly_41_23, fv_41_24, ly_41_24, fv_41_25, ly_41_25, fv_41_26, ly_41_26, rd_42, al_42, rd_43, al_43, rd_44, al_44, rd_45, al_45, rd_46, al_46, rd_47, al_47, rd_48, al_48, rd_49, al_49, rd_50, al_50, rd_51, al_51, rd_52, al_52, rd_53, al_53, rd_54, al_54, rd_55, al_55, lck_0, lck_i, lck_r, lck_n, lck_l, csum_0, csum_i, csum_r, csum_l, pops_0, pops_s, psh_n, psh_s, List.getElem?_cons_zero, List.getElem?_cons_succ, List.set_cons_zero, List.set_cons_succ, true_and, and_true, Nat.reduceAdd, Nat.reduceLeDiff, c, nn, false_implies, true_implies, implies_true, and_true, true_and, not_true_eq_false, not_false_eq_true, eq_self]
    exact hQ
  | d + 1, j, e => by
    have ih := lp6_bgB hQ d (j + 1) (by omega)
    rw [← nI_1] at ih
    simp only [bgB] at ih
    have hj := nlt8 (j := j) (by omega)
    have c : ¬ 8 ≤ nI j := Int32.not_le.mpr hj.2
    have r7 := rt_ix hj
    have r72 := r7.2
    rw [show ix (nI j) = j from ix_nI (by omega)] at r72
    refine Rn_go C6_begins 60 ?_
    simp only [x6_begins_0, x6_begins_1, x6_begins_4, x6_begins_5, x6_begins_6, x6_begins_7, x6_begins_8, k6_begins_9, t6_begins_9, x6_begins_10, x6_begins_12, x6_begins_15, x6_begins_16, x6_begins_19, x6_begins_20, x6_begins_21, x6_begins_22, x6_begins_25, x6_begins_28, x6_begins_29, x6_begins_32, x6_begins_33, x6_begins_34, x6_begins_35, x6_begins_36, x6_begins_39, x6_begins_40, x6_begins_41, x6_begins_42, x6_begins_43, x6_begins_46, x6_begins_47, x6_begins_48, x6_begins_49, x6_begins_50, x6_begins_53, x6_begins_54, x6_begins_55, x6_begins_56, x6_begins_57, x6_begins_60, x6_begins_62, x6_begins_64, x6_begins_65, x6_begins_66, k6_begins_67, t6_begins_67, x6_begins_68, x6_begins_70, x6_begins_73, x6_begins_74, x6_begins_77, x6_begins_79, x6_begins_80, x6_begins_81, x6_begins_83, x6_begins_84, x6_begins_87, x6_begins_90, i_ald, i_get, i_goto, i_iadd, i_iald, i_iast, i_ic, i_ic_ge, i_ild, i_inc, i_ist, i_vret, oc_41, fv_41_0, fv_41_1, fv_41_2, fv_41_3, fv_41_4, ly_41_4, fv_41_5, fv_41_6, ly_41_6, fv_41_7, ly_41_7, fv_41_8, ly_41_8, fv_41_9, ly_41_9, fv_41_10, ly_41_10, fv_41_11, ly_41_11, fv_41_12, fv_41_13, fv_41_14, ly_41_14, fv_41_15, fv_41_16, fv_41_17, fv_41_18, fv_41_19, fv_41_20, fv_41_21, fv_41_22, ly_41_22, fv_41_23, ly_41_23, fv_41_24, ly_41_24, fv_41_25, ly_41_25, fv_41_26, ly_41_26, rd_42, al_42, rd_43, al_43, rd_44, al_44, rd_45, al_45, rd_46, al_46, rd_47, al_47, rd_48, al_48, rd_49, al_49, rd_50, al_50, rd_51, al_51, rd_52, al_52, rd_53, al_53, rd_54, al_54, rd_55, al_55, lck_0, lck_i, lck_r, lck_n, lck_l, csum_0, csum_i, csum_r, csum_l, pops_0, pops_s, psh_n, psh_s, List.getElem?_cons_zero, List.getElem?_cons_succ, List.set_cons_zero, List.set_cons_succ, true_and, and_true, Nat.reduceAdd, Nat.reduceLeDiff, c, v47, r7.1, r72, up42b, upA_42, upA_same, nn, false_implies, true_implies, implies_true, and_true, true_and, not_true_eq_false, not_false_eq_true, eq_self]
    exact ih
theorem lp6_bgA {h : Hp} {Q : Po} {z : Int32} (nx : Rn (T6_begins Q) (67, [some (.ref 41), some (.int z), some (.int 0)], [], upA h 42 (bgB (h 42) z 0))) : ∀ d j, d + j = 47 → Rn (T6_begins Q) (9, [some (.ref 41), some (.int z), some (.int (nI j))], [], upA h 42 (zs (h 42) j))
  | 0, j, e => by
    have e : j = 47 := by omega
    subst e
    simp only [bgB] at nx
    have c : (47 : Int32) ≤ nI 47 := by decide
    refine Rn_go C6_begins 60 ?_
    simp only [x6_begins_0, x6_begins_1, x6_begins_4, x6_begins_5, x6_begins_6, x6_begins_7, x6_begins_8, k6_begins_9, t6_begins_9, x6_begins_10, x6_begins_12, x6_begins_15, x6_begins_16, x6_begins_19, x6_begins_20, x6_begins_21, x6_begins_22, x6_begins_25, x6_begins_28, x6_begins_29, x6_begins_32, x6_begins_33, x6_begins_34, x6_begins_35, x6_begins_36, x6_begins_39, x6_begins_40, x6_begins_41, x6_begins_42, x6_begins_43, x6_begins_46, x6_begins_47, x6_begins_48, x6_begins_49, x6_begins_50, x6_begins_53, x6_begins_54, x6_begins_55, x6_begins_56, x6_begins_57, x6_begins_60, x6_begins_62, x6_begins_64, x6_begins_65, x6_begins_66, k6_begins_67, t6_begins_67, x6_begins_68, x6_begins_70, x6_begins_73, x6_begins_74, x6_begins_77, x6_begins_79, x6_begins_80, x6_begins_81, x6_begins_83, x6_begins_84, x6_begins_87, x6_begins_90, i_ald, i_get, i_goto, i_iadd, i_iald, i_iast, i_ic, i_ic_ge, i_ild, i_inc, i_ist, i_vret, oc_41, fv_41_0, fv_41_1, fv_41_2, fv_41_3, fv_41_4, ly_41_4, fv_41_5, fv_41_6, ly_41_6, fv_41_7, ly_41_7, fv_41_8, ly_41_8, fv_41_9, ly_41_9, fv_41_10, ly_41_10, fv_41_11, ly_41_11, fv_41_12, fv_41_13, fv_41_14, ly_41_14, fv_41_15, fv_41_16, fv_41_17, fv_41_18, fv_41_19, fv_41_20, fv_41_21, fv_41_22, ly_41_22, fv_41_23, ly_41_23, fv_41_24, ly_41_24, fv_41_25, ly_41_25, fv_41_26, ly_41_26, rd_42, al_42, rd_43, al_43, rd_44, al_44, rd_45, al_45, rd_46, al_46, rd_47, al_47, rd_48, al_48, rd_49, al_49, rd_50, al_50, rd_51, al_51, rd_52, al_52, rd_53, al_53, rd_54, al_54, rd_55, al_55, lck_0, lck_i, lck_r, lck_n, lck_l, csum_0, csum_i, csum_r, csum_l, pops_0, pops_s, psh_n, psh_s, List.getElem?_cons_zero, List.getElem?_cons_succ, List.set_cons_zero, List.set_cons_succ, true_and, and_true, Nat.reduceAdd, Nat.reduceLeDiff, c, v47, w47, ixs, up42b, upA_42, upA_same, nn, false_implies, true_implies, implies_true, and_true, true_and, not_true_eq_false, not_false_eq_true, eq_self]
    exact nx
  | d + 1, j, e => by
    have ih := lp6_bgA nx d (j + 1) (by omega)
    rw [← nI_1, ← zs_up] at ih
    have hj : 0 ≤ nI j ∧ nI j < 47 := ⟨nI_pos' (by omega), nI_lt (b := 47) (by omega) (by decide)⟩
    have c : ¬ 47 ≤ nI j := Int32.not_le.mpr hj.2
    have hx : (nI j).toNatClampNeg = j := ix_nI (by omega)
    refine Rn_go C6_begins 60 ?_
    simp only [x6_begins_0, x6_begins_1, x6_begins_4, x6_begins_5, x6_begins_6, x6_begins_7, x6_begins_8, k6_begins_9, t6_begins_9, x6_begins_10, x6_begins_12, x6_begins_15, x6_begins_16, x6_begins_19, x6_begins_20, x6_begins_21, x6_begins_22, x6_begins_25, x6_begins_28, x6_begins_29, x6_begins_32, x6_begins_33, x6_begins_34, x6_begins_35, x6_begins_36, x6_begins_39, x6_begins_40, x6_begins_41, x6_begins_42, x6_begins_43, x6_begins_46, x6_begins_47, x6_begins_48, x6_begins_49, x6_begins_50, x6_begins_53, x6_begins_54, x6_begins_55, x6_begins_56, x6_begins_57, x6_begins_60, x6_begins_62, x6_begins_64, x6_begins_65, x6_begins_66, k6_begins_67, t6_begins_67, x6_begins_68, x6_begins_70, x6_begins_73, x6_begins_74, x6_begins_77, x6_begins_79, x6_begins_80, x6_begins_81, x6_begins_83, x6_begins_84, x6_begins_87, x6_begins_90, i_ald, i_get, i_goto, i_iadd, i_iald, i_iast, i_ic, i_ic_ge, i_ild, i_inc, i_ist, i_vret, oc_41, fv_41_0, fv_41_1, fv_41_2, fv_41_3, fv_41_4, ly_41_4, fv_41_5, fv_41_6, ly_41_6, fv_41_7, ly_41_7, fv_41_8, ly_41_8, fv_41_9, ly_41_9, fv_41_10, ly_41_10, fv_41_11, ly_41_11, fv_41_12, fv_41_13, fv_41_14, ly_41_14, fv_41_15, fv_41_16, fv_41_17, fv_41_18, fv_41_19, fv_41_20, fv_41_21, fv_41_22, ly_41_22, fv_41_23, ly_41_23, fv_41_24, ly_41_24, fv_41_25, ly_41_25, fv_41_26, ly_41_26, rd_42, al_42, rd_43, al_43, rd_44, al_44, rd_45, al_45, rd_46, al_46, rd_47, al_47, rd_48, al_48, rd_49, al_49, rd_50, al_50, rd_51, al_51, rd_52, al_52, rd_53, al_53, rd_54, al_54, rd_55, al_55, lck_0, lck_i, lck_r, lck_n, lck_l, csum_0, csum_i, csum_r, csum_l, pops_0, pops_s, psh_n, psh_s, List.getElem?_cons_zero, List.getElem?_cons_succ, List.set_cons_zero, List.set_cons_succ, true_and, and_true, Nat.reduceAdd, Nat.reduceLeDiff, c, v47, hj, hx, up42b, upA_42, upA_same, nn, false_implies, true_implies, implies_true, and_true, true_and, not_true_eq_false, not_false_eq_true, eq_self]
    exact ih
theorem rn6_begins {h : Hp} {Q : Po} {m : Nat} (hS : S6_begins [.ref m] h Q) : Rn (T6_begins Q) (0, [some (.ref m), none, none], [], h) := by
  obtain ⟨rfl, hQ⟩ := hS
  have n0 := lp6_bgB hQ 8 0 (by omega)
  have nx := lp6_bgA n0 47 0 (by omega)
  have e : upA h 42 (zs (h 42) 0) = h := by
    funext p k
    simp only [upA, zs]
    grind
  rw [e] at nx
  refine Rn_in C6_begins 60 ?_
  simp only [x6_begins_0, x6_begins_1, x6_begins_4, x6_begins_5, x6_begins_6, x6_begins_7, x6_begins_8, k6_begins_9, t6_begins_9, x6_begins_10, x6_begins_12, x6_begins_15, x6_begins_16, x6_begins_19, x6_begins_20, x6_begins_21, x6_begins_22, x6_begins_25, x6_begins_28, x6_begins_29, x6_begins_32, x6_begins_33, x6_begins_34, x6_begins_35, x6_begins_36, x6_begins_39, x6_begins_40, x6_begins_41, x6_begins_42, x6_begins_43, x6_begins_46, x6_begins_47, x6_begins_48, x6_begins_49, x6_begins_50, x6_begins_53, x6_begins_54, x6_begins_55, x6_begins_56, x6_begins_57, x6_begins_60, x6_begins_62, x6_begins_64, x6_begins_65, x6_begins_66, k6_begins_67, t6_begins_67, x6_begins_68, x6_begins_70, x6_begins_73, x6_begins_74, x6_begins_77, x6_begins_79, x6_begins_80, x6_begins_81, x6_begins_83, x6_begins_84, x6_begins_87, x6_begins_90, i_ald, i_get, i_goto, i_iadd, i_iald, i_iast, i_ic, i_ic_ge, i_ild, i_inc, i_ist, i_vret, oc_41, fv_41_0, fv_41_1, fv_41_2, fv_41_3, fv_41_4, ly_41_4, fv_41_5, fv_41_6, ly_41_6, fv_41_7, ly_41_7, fv_41_8, ly_41_8, fv_41_9, ly_41_9, fv_41_10, ly_41_10, fv_41_11, ly_41_11, fv_41_12, fv_41_13, fv_41_14, ly_41_14, fv_41_15, fv_41_16, fv_41_17, fv_41_18, fv_41_19, fv_41_20, fv_41_21, fv_41_22, ly_41_22, fv_41_23, ly_41_23, fv_41_24, ly_41_24, fv_41_25, ly_41_25, fv_41_26, ly_41_26, rd_42, al_42, rd_43, al_43, rd_44, al_44, rd_45, al_45, rd_46, al_46, rd_47, al_47, rd_48, al_48, rd_49, al_49, rd_50, al_50, rd_51, al_51, rd_52, al_52, rd_53, al_53, rd_54, al_54, rd_55, al_55, lck_0, lck_i, lck_r, lck_n, lck_l, csum_0, csum_i, csum_r, csum_l, pops_0, pops_s, psh_n, psh_s, List.getElem?_cons_zero, List.getElem?_cons_succ, List.set_cons_zero, List.set_cons_succ, true_and, and_true, Nat.reduceAdd, Nat.reduceLeDiff, v47, w47, ixs]
  exact nx
theorem bg_eq (s : Nat → Int32) (z : Int32) (D : GG) : Geq (zG z (bfG D)) (mv (bgB s z 8)) := by
  have e6 : zG z (bfG D) 0 6 = 0 := by simp [zG, bfG, up2]
  have hn : nG (zG z (bfG D)) = 0 := by show ix (zG z (bfG D) 0 6) = 0; rw [e6]; rfl
  refine ⟨⟨?_, ?_, ?_⟩, fun k hk => ?_, fun k hk => ?_, fun i hi => ?_⟩
  · rw [e6, mv_06]; simp [bgB, upd, zs]
  · rw [mv_07]; simp [zG, bfG, up2, bgB, upd, zs]
  · rw [mv_08]; simp [zG, up2, bgB, upd]
  · rcases (show k = 0 ∨ k = 1 ∨ k = 2 ∨ k = 3 by omega) with rfl | rfl | rfl | rfl
    all_goals simp [zG, bfG, bfR, up2, upA, cpy_at, tbF, mv, bgB, upd]
  · rw [mv_2 _ hk]
    rcases (show k = 0 ∨ k = 1 ∨ k = 2 ∨ k = 3 ∨ k = 4 ∨ k = 5 ∨ k = 6 ∨ k = 7 by omega) with rfl | rfl | rfl | rfl | rfl | rfl | rfl | rfl
    all_goals simp [zG, bfG, bfR, up2, bgB, upd]
  · rw [hn] at hi
    omega
theorem bf_inv (D : GG) : InvG (bfG D) := by
  have e6 : bfG D 0 6 = 0 := by simp [bfG, up2]
  have hn : nG (bfG D) = 0 := by show ix (bfG D 0 6) = 0; rw [e6]; rfl
  refine ⟨⟨by rw [e6]; decide, fun i hi => by rw [hn] at hi; omega⟩, ?_, fun i hi => by rw [hn] at hi; omega⟩
  have : bfG D 1 3 = 20 := by simp [bfG, bfR, up2, upA, cpy_at, tbF]
  rw [this]; decide
theorem bfR_hi (D : GG) {j : Nat} (hj : 6 < j) : ∀ i, bfR D i j = D j
  | 0 => upA_ne (by omega)
  | i + 1 => by rw [bfR, up2_ne (by omega), bfR_hi D hj i]
theorem bf_hi (D : GG) {j : Nat} (hj : 6 < j) : bfG D j = D j := by
  unfold bfG
  rw [up2_ne (by omega), up2_ne (by omega), bfR_hi D hj]
/-! the reference's loop -/
def mRun (n : Nat) (t : Nat → Int32) (h : Hp) (z : Int32) (Q : Po) (x : Sum Nat GG) : Prop := match x with
  | .inl q => ∀ s, Q (some (.int (-100 - nI (st n t q)))) (upA (up2 (MK n t h s q 1) 41 6 0) 42 (cp47 (h 45) s))
  | .inr G => ∀ s p, Geq (zG z G) (mv s) → Q (some (.int (s 0))) (up2 (up2 (MK n t h s p 0) 41 6 0) 41 14 0)
section M6S
variable (n : Nat) (t : Nat → Int32) (h : Hp) (s : Nat → Int32) (p : Nat) (w x : Int32)
theorem M6_11 : up2 (MK n t h s p w) 41 6 x 41 11 = w := by simp [up2, MK, upA]
theorem M6_8 : up2 (MK n t h s p w) 41 6 x 41 8 = nI (st n t p) := by simp [up2, MK, upA]
theorem M6_45 : up2 (MK n t h s p w) 41 6 x 45 = h 45 := by rw [up2_ne (by decide), MK_n _ _ _ _ _ _ (by decide) (by decide)]
theorem M6_42 : up2 (MK n t h s p w) 41 6 x 42 = s := by rw [up2_ne (by decide), MK_42]
end M6S
theorem uA_41 (h : Hp) (f : Nat → Int32) : upA h 42 f 41 = h 41 := upA_ne (by decide)
theorem u14_42 (h : Hp) (x : Int32) : up2 h 41 14 x 42 = h 42 := up2_ne (by decide)
theorem lp6_gaolW {n : Nat} {t : Nat → Int32} {h : Hp} {Q : Po} {z : Int32} {s : Nat → Int32} {q : Nat} (hQ : mRun n t h z Q (.inl q)) : Rn (T6_gaol Q S6_copyRow S6_begins S6_nextToken S6_itemHere) (29, [some (.ref 41)], [], MK n t h s q 1) := by
  have hF := hQ s
  refine Rn_go C6_gaol 60 ?_
  simp only [x6_gaol_0, x6_gaol_1, x6_gaol_4, x6_gaol_5, x6_gaol_8, x6_gaol_11, x6_gaol_12, x6_gaol_15, x6_gaol_16, x6_gaol_17, x6_gaol_20, x6_gaol_21, x6_gaol_22, x6_gaol_25, x6_gaol_26, k6_gaol_29, t6_gaol_29, x6_gaol_30, x6_gaol_33, x6_gaol_36, x6_gaol_37, x6_gaol_40, x6_gaol_43, x6_gaol_44, x6_gaol_47, x6_gaol_50, x6_gaol_51, x6_gaol_52, x6_gaol_55, x6_gaol_56, x6_gaol_59, x6_gaol_62, x6_gaol_63, x6_gaol_66, x6_gaol_67, x6_gaol_70, x6_gaol_73, x6_gaol_75, x6_gaol_76, x6_gaol_79, x6_gaol_80, x6_gaol_81, x6_gaol_82, x6_gaol_83, x6_gaol_86, x6_gaol_87, x6_gaol_90, x6_gaol_91, x6_gaol_92, i_ald, i_cS, i_cV, i_get, i_goto, i_iald, i_ic, i_if_eq, i_if_ne, i_iret, i_isub, i_put, i_putz, oc_41, fv_41_0, fv_41_1, fv_41_2, fv_41_3, fv_41_4, ly_41_4, fv_41_5, fv_41_6, ly_41_6, fv_41_7, ly_41_7, fv_41_8, ly_41_8, fv_41_9, ly_41_9, fv_41_10, ly_41_10, fv_41_11, ly_41_11, fv_41_12, fv_41_13, fv_41_14, ly_41_14, fv_41_15, fv_41_16, fv_41_17, fv_41_18, fv_41_19, fv_41_20, fv_41_21, fv_41_22, ly_41_22, fv_41_23, ly_41_23, fv_41_24, ly_41_24, fv_41_25, ly_41_25, fv_41_26, ly_41_26, rd_42, al_42, rd_43, al_43, rd_44, al_44, rd_45, al_45, rd_46, al_46, rd_47, al_47, rd_48, al_48, rd_49, al_49, rd_50, al_50, rd_51, al_51, rd_52, al_52, rd_53, al_53, rd_54, al_54, rd_55, al_55, lck_0, lck_i, lck_r, lck_n, lck_l, csum_0, csum_i, csum_r, csum_l, pops_0, pops_s, psh_n, psh_s, List.getElem?_cons_zero, List.getElem?_cons_succ, List.set_cons_zero, List.set_cons_succ, true_and, and_true, Nat.reduceAdd, Nat.reduceLeDiff, S6_copyRow, RW_d, MK_11, M6_11, M6_8, M6_45, M6_42, uA_41, ne_1_0, nn, false_implies, true_implies, implies_true, and_true, true_and, not_true_eq_false, not_false_eq_true, eq_self]
  exact hF
theorem lp6_gaolE {n : Nat} {t : Nat → Int32} {h : Hp} {Q : Po} {z : Int32} {s : Nat → Int32} {p : Nat} {G : GG} (k : kd n t (st n t p) = 0) (hg : Geq (zG z G) (mv s)) (hQ : mRun n t h z Q (.inr G)) : Rn (T6_gaol Q S6_copyRow S6_begins S6_nextToken S6_itemHere) (29, [some (.ref 41)], [], MK n t h s p 0) := by
  have k0 : nI (kd n t (st n t p)) = 0 := by rw [k]; rfl
  have hF := hQ s p hg
  refine Rn_go C6_gaol 60 ?_
  simp only [x6_gaol_0, x6_gaol_1, x6_gaol_4, x6_gaol_5, x6_gaol_8, x6_gaol_11, x6_gaol_12, x6_gaol_15, x6_gaol_16, x6_gaol_17, x6_gaol_20, x6_gaol_21, x6_gaol_22, x6_gaol_25, x6_gaol_26, k6_gaol_29, t6_gaol_29, x6_gaol_30, x6_gaol_33, x6_gaol_36, x6_gaol_37, x6_gaol_40, x6_gaol_43, x6_gaol_44, x6_gaol_47, x6_gaol_50, x6_gaol_51, x6_gaol_52, x6_gaol_55, x6_gaol_56, x6_gaol_59, x6_gaol_62, x6_gaol_63, x6_gaol_66, x6_gaol_67, x6_gaol_70, x6_gaol_73, x6_gaol_75, x6_gaol_76, x6_gaol_79, x6_gaol_80, x6_gaol_81, x6_gaol_82, x6_gaol_83, x6_gaol_86, x6_gaol_87, x6_gaol_90, x6_gaol_91, x6_gaol_92, i_ald, i_cS, i_cV, i_get, i_goto, i_iald, i_ic, i_if_eq, i_if_ne, i_iret, i_isub, i_put, i_putz, oc_41, fv_41_0, fv_41_1, fv_41_2, fv_41_3, fv_41_4, ly_41_4, fv_41_5, fv_41_6, ly_41_6, fv_41_7, ly_41_7, fv_41_8, ly_41_8, fv_41_9, ly_41_9, fv_41_10, ly_41_10, fv_41_11, ly_41_11, fv_41_12, fv_41_13, fv_41_14, ly_41_14, fv_41_15, fv_41_16, fv_41_17, fv_41_18, fv_41_19, fv_41_20, fv_41_21, fv_41_22, ly_41_22, fv_41_23, ly_41_23, fv_41_24, ly_41_24, fv_41_25, ly_41_25, fv_41_26, ly_41_26, rd_42, al_42, rd_43, al_43, rd_44, al_44, rd_45, al_45, rd_46, al_46, rd_47, al_47, rd_48, al_48, rd_49, al_49, rd_50, al_50, rd_51, al_51, rd_52, al_52, rd_53, al_53, rd_54, al_54, rd_55, al_55, lck_0, lck_i, lck_r, lck_n, lck_l, csum_0, csum_i, csum_r, csum_l, pops_0, pops_s, psh_n, psh_s, List.getElem?_cons_zero, List.getElem?_cons_succ, List.set_cons_zero, List.set_cons_succ, true_and, and_true, Nat.reduceAdd, Nat.reduceLeDiff, MK_11, MK_7, k0, M6_11, M6_42, u14_42, v47, w47, ix0, nn, false_implies, true_implies, implies_true, and_true, true_and, not_true_eq_false, not_false_eq_true, eq_self]
  exact hF
theorem lp6_gaol {n : Nat} {t : Nat → Int32} {h : Hp} {Q : Po} {z : Int32} (hc : MCt n t h) : ∀ d p G s, n ≤ d + p → p ≤ n → InvG G → Geq (zG z G) (mv s) → mRun n t h z Q (run n t d p G) → Rn (T6_gaol Q S6_copyRow S6_begins S6_nextToken S6_itemHere) (29, [some (.ref 41)], [], MK n t h s p 0)
  | 0, p, G, s, e, hp, hI, hg, hQ => lp6_gaolE (kd_end t (by omega) hp) hg hQ
  | d + 1, p, G, s, e, hp, hI, hg, hQ => by
    rw [run] at hQ
    by_cases k : kd n t (st n t p) = 0
    · rw [if_pos k] at hQ
      exact lp6_gaolE k hg hQ
    · rw [if_neg k] at hQ
      have k0 : ¬ nI (kd n t (st n t p)) = 0 := by
        intro q
        have := kdE n t (st n t p) 0 (by decide)
        exact k (by rw [← this]; exact q)
      have ok := itm_ok (dmy_8 G) hp hI k
      refine Rn_go C6_gaol 60 ?_
      simp only [x6_gaol_0, x6_gaol_1, x6_gaol_4, x6_gaol_5, x6_gaol_8, x6_gaol_11, x6_gaol_12, x6_gaol_15, x6_gaol_16, x6_gaol_17, x6_gaol_20, x6_gaol_21, x6_gaol_22, x6_gaol_25, x6_gaol_26, k6_gaol_29, t6_gaol_29, x6_gaol_30, x6_gaol_33, x6_gaol_36, x6_gaol_37, x6_gaol_40, x6_gaol_43, x6_gaol_44, x6_gaol_47, x6_gaol_50, x6_gaol_51, x6_gaol_52, x6_gaol_55, x6_gaol_56, x6_gaol_59, x6_gaol_62, x6_gaol_63, x6_gaol_66, x6_gaol_67, x6_gaol_70, x6_gaol_73, x6_gaol_75, x6_gaol_76, x6_gaol_79, x6_gaol_80, x6_gaol_81, x6_gaol_82, x6_gaol_83, x6_gaol_86, x6_gaol_87, x6_gaol_90, x6_gaol_91, x6_gaol_92, i_ald, i_cS, i_cV, i_get, i_goto, i_iald, i_ic, i_if_eq, i_if_ne, i_iret, i_isub, i_put, i_putz, oc_41, fv_41_0, fv_41_1, fv_41_2, fv_41_3, fv_41_4, ly_41_4, fv_41_5, fv_41_6, ly_41_6, fv_41_7, ly_41_7, fv_41_8, ly_41_8, fv_41_9, ly_41_9, fv_41_10, ly_41_10, fv_41_11, ly_41_11, fv_41_12, fv_41_13, fv_41_14, ly_41_14, fv_41_15, fv_41_16, fv_41_17, fv_41_18, fv_41_19, fv_41_20, fv_41_21, fv_41_22, ly_41_22, fv_41_23, ly_41_23, fv_41_24, ly_41_24, fv_41_25, ly_41_25, fv_41_26, ly_41_26, rd_42, al_42, rd_43, al_43, rd_44, al_44, rd_45, al_45, rd_46, al_46, rd_47, al_47, rd_48, al_48, rd_49, al_49, rd_50, al_50, rd_51, al_51, rd_52, al_52, rd_53, al_53, rd_54, al_54, rd_55, al_55, lck_0, lck_i, lck_r, lck_n, lck_l, csum_0, csum_i, csum_r, csum_l, pops_0, pops_s, psh_n, psh_s, List.getElem?_cons_zero, List.getElem?_cons_succ, List.set_cons_zero, List.set_cons_succ, true_and, and_true, Nat.reduceAdd, Nat.reduceLeDiff, MK_11, MK_7, k0, nn, false_implies, true_implies, implies_true, and_true, true_and, not_true_eq_false, not_false_eq_true, eq_self]
      refine ⟨rfl, n, t, h, s, p, z, G, rfl, ⟨hc, hp, hI, hg⟩, ?_⟩
      revert hQ ok
      rcases itm n t p G with q | ⟨e2, H⟩
      · intro hQ ok s2
        exact lp6_gaolW hQ
      · intro hQ ok s2 hg2
        obtain ⟨⟨o1, o2⟩, o3, o4⟩ := ok
        exact lp6_gaol hc d e2 H s2 (by omega) o2 o3 hg2 hQ
def S6_gaol : Sp := fun av h Q => match av with | [.ref m] => Rn (T6_gaol Q S6_copyRow S6_begins S6_nextToken S6_itemHere) (0, [some (.ref m)], [], h) | _ => False
theorem rn6_gaol {h : Hp} {Q : Po} {m : Nat} (hS : S6_gaol [.ref m] h Q) : Rn (T6_gaol Q S6_copyRow S6_begins S6_nextToken S6_itemHere) (0, [some (.ref m)], [], h) := hS
theorem gaolM {n : Nat} {t : Nat → Int32} {h : Hp} {Q : Po} (D : GG) (hc : MCt n t h) (hQ : mRun n t (upA h 45 (cp47 (h 42) (h 45))) (h 42 2) Q (run n t n 0 (bfG D))) : S6_gaol [.ref 41] h Q := by
  have c2 : MCt n t (upA h 45 (cp47 (h 42) (h 45))) := by
    unfold MCt
    rw [upA_ne (by decide), upA_ne (by decide)]
    exact hc
  have nx := lp6_gaol (z := h 42 2) c2 n 0 (bfG D) (bgB (h 42) (h 42 2) 8) (by omega) (by omega) (bf_inv D) (bg_eq _ _ _) hQ
  have e42 : upA h 45 (cp47 (h 42) (h 45)) 42 = h 42 := upA_ne (by decide)
  have e6 : up2 (up2 (upA (upA h 45 (cp47 (h 42) (h 45))) 42 (bgB (h 42) (h 42 2) 8)) 41 9 0) 41 11 0 41 6 = nI n := by
    simp [up2, upA, hc.1]
  have e9 : up2 (up2 (upA (upA h 45 (cp47 (h 42) (h 45))) 42 (bgB (h 42) (h 42 2) 8)) 41 9 0) 41 11 0 41 9 = 0 := by
    simp [up2]
  have e46 : up2 (up2 (upA (upA h 45 (cp47 (h 42) (h 45))) 42 (bgB (h 42) (h 42 2) 8)) 41 9 0) 41 11 0 46 = h 46 := by
    rw [up2_ne (by decide), up2_ne (by decide), upA_ne (by decide), upA_ne (by decide)]
  have hn := hc.2.1
  have xn : ix (nI n) = n := ix_nI (by omega)
  have ag : ∀ k, k < n → h 46 k = t k := fun k hk => (hc.2.2 k hk).1
  have tp : TPm (up2 (up2 (upA (upA h 45 (cp47 (h 42) (h 45))) 42 (bgB (h 42) (h 42 2) 8)) 41 9 0) 41 11 0) := by
    unfold TPm
    rw [e6, e9, e46, xn]
    exact ⟨⟨nI_pos' (by omega), nI_le (b := 200) hn (by decide)⟩, ⟨by decide, nI_pos' (by omega)⟩, fun k hk => by rw [ag k hk]; exact (hc.2.2 k hk).2⟩
  have es : stm (up2 (up2 (upA (upA h 45 (cp47 (h 42) (h 45))) 42 (bgB (h 42) (h 42 2) 8)) 41 9 0) 41 11 0) = MK n t (upA h 45 (cp47 (h 42) (h 45))) (bgB (h 42) (h 42 2) 8) 0 0 := by
    unfold stm
    rw [e6, e9, e46, xn, show ix 0 = 0 from rfl, st_c ag, kd_c ag, nx_c ag, vlM_c ag (st_le t (by omega))]
    unfold TM MK
    funext c b
    simp only [up2, upA]
    grind
  show Rn _ _
  refine Rn_in C6_gaol 60 ?_
  simp only [x6_gaol_0, x6_gaol_1, x6_gaol_4, x6_gaol_5, x6_gaol_8, x6_gaol_11, x6_gaol_12, x6_gaol_15, x6_gaol_16, x6_gaol_17, x6_gaol_20, x6_gaol_21, x6_gaol_22, x6_gaol_25, x6_gaol_26, k6_gaol_29, t6_gaol_29, x6_gaol_30, x6_gaol_33, x6_gaol_36, x6_gaol_37, x6_gaol_40, x6_gaol_43, x6_gaol_44, x6_gaol_47, x6_gaol_50, x6_gaol_51, x6_gaol_52, x6_gaol_55, x6_gaol_56, x6_gaol_59, x6_gaol_62, x6_gaol_63, x6_gaol_66, x6_gaol_67, x6_gaol_70, x6_gaol_73, x6_gaol_75, x6_gaol_76, x6_gaol_79, x6_gaol_80, x6_gaol_81, x6_gaol_82, x6_gaol_83, x6_gaol_86, x6_gaol_87, x6_gaol_90, x6_gaol_91, x6_gaol_92, i_ald, i_cS, i_cV, i_get, i_goto, i_iald, i_ic, i_if_eq, i_if_ne, i_iret, i_isub, i_put, i_putz, oc_41, fv_41_0, fv_41_1, fv_41_2, fv_41_3, fv_41_4, ly_41_4, fv_41_5, fv_41_6, ly_41_6, fv_41_7, ly_41_7, fv_41_8, ly_41_8, fv_41_9, ly_41_9, fv_41_10, ly_41_10, fv_41_11, ly_41_11, fv_41_12, fv_41_13, fv_41_14, ly_41_14, fv_41_15, fv_41_16, fv_41_17, fv_41_18, fv_41_19, fv_41_20, fv_41_21, fv_41_22, ly_41_22, fv_41_23, ly_41_23, fv_41_24, ly_41_24, fv_41_25, ly_41_25, fv_41_26, ly_41_26, rd_42, al_42, rd_43, al_43, rd_44, al_44, rd_45, al_45, rd_46, al_46, rd_47, al_47, rd_48, al_48, rd_49, al_49, rd_50, al_50, rd_51, al_51, rd_52, al_52, rd_53, al_53, rd_54, al_54, rd_55, al_55, lck_0, lck_i, lck_r, lck_n, lck_l, csum_0, csum_i, csum_r, csum_l, pops_0, pops_s, psh_n, psh_s, List.getElem?_cons_zero, List.getElem?_cons_succ, List.set_cons_zero, List.set_cons_succ, true_and, and_true, Nat.reduceAdd, Nat.reduceLeDiff, S6_copyRow, S6_begins, S6_nextToken, RW_c, e42, tp, es, l01_0, true_or, nn, false_implies, true_implies, implies_true, and_true, true_and, not_true_eq_false, not_false_eq_true, eq_self]
  exact nx
