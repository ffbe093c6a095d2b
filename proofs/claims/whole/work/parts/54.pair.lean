/-! pairs: one more inmate, gaols kept, numbers of all sorts, rings -/
theorem RG_s {h g : Hp} (r : RG h) (a : ∀ p, 1 ≤ p → p ≤ 7 → g p = h p) (b : g 42 = h 42) : RG g := by
  have e : ∀ j, j ≤ 6 → vg g 1 j = vg h 1 j := fun j hj => by
    funext k; simp only [vg]; rw [a (1 + j) (by omega) (by omega)]
  have e2 : Geq (vg g 1) (vg h 1) := by
    unfold Geq
    rw [e 0 (by omega), e 1 (by omega), e 2 (by omega), e 3 (by omega), e 4 (by omega), e 5 (by omega), e 6 (by omega)]
    exact ⟨⟨rfl, rfl, rfl⟩, fun _ _ => rfl, fun _ _ => rfl, fun _ _ => ⟨rfl, rfl, rfl, rfl⟩⟩
  unfold RG
  rw [b]
  exact ⟨e2.trans r.1, InvG_c e2.symm r.2⟩
theorem RK_s {h g : Hp} (r : RK h) (a : ∀ p, 15 ≤ p → p ≤ 21 → g p = h p) (b : g 43 = h 43) (c : g 0 3 = h 0 3) (d : g 41 4 = h 41 4) : RK g := by
  have e : ∀ j, j ≤ 6 → vg g 15 j = vg h 15 j := fun j hj => by
    funext k; simp only [vg]; rw [a (15 + j) (by omega) (by omega)]
  have e2 : Geq (vg g 15) (vg h 15) := by
    unfold Geq
    rw [e 0 (by omega), e 1 (by omega), e 2 (by omega), e 3 (by omega), e 4 (by omega), e 5 (by omega), e 6 (by omega)]
    exact ⟨⟨rfl, rfl, rfl⟩, fun _ _ => rfl, fun _ _ => rfl, fun _ _ => ⟨rfl, rfl, rfl, rfl⟩⟩
  unfold RK
  rw [b, c, d]
  exact ⟨r.1, r.2.1, fun z => ⟨e2.trans (r.2.2 z).1, InvG_c e2.symm (r.2.2 z).2⟩⟩
theorem RT_s {h g : Hp} (r : RT h) (a : g 22 1 = h 22 1) (b : g 41 6 = h 41 6) (c : g 23 = h 23) (d : g 46 = h 46) : RT g := by
  unfold RT; rw [a, b, c, d]; exact r
theorem RW2_s {h g : Hp} (r : RW2 h) (a : g 0 6 = h 0 6) (b : g 41 14 = h 41 14) (c : g 24 = h 24) (d : g 48 = h 48) : RW2 g := by
  unfold RW2; rw [a, b, c, d]; exact r
theorem RS_s {h g : Hp} (r : RS h) (a : ∀ p, 26 ≤ p → p ≤ 33 → g p = h p) (b : g 49 = h 49) (c : g 50 = h 50) (d : g 51 = h 51) : RS g := by
  intro t ht
  rw [a (26 + t) (by omega) (by omega), a (30 + t) (by omega) (by omega), b, c, d]
  exact r t ht
theorem RH_s {h g : Hp} (r : RH h) (a : ∀ p, 35 ≤ p → p ≤ 38 → g p = h p) (b : g 52 = h 52) (c : g 53 = h 53) (d : g 54 = h 54) : RH g := by
  intro t ht
  rw [a (35 + t) (by omega) (by omega), b, c, d]
  exact r t ht
theorem RD_s {h g : Hp} (r : RD h) (a : g 39 1 = h 39 1) (b : g 41 22 = h 41 22) (c : g 40 = h 40) (d : g 55 = h 55) : RD g := by
  unfold RD; rw [a, b, c, d]; exact r
theorem cpG_i {D S : GG} (hI : InvG S) : Geq (cpG D S) S ∧ InvG (cpG D S) := by
  have e := cpG_c D S (nG_8 hI.1)
  exact ⟨e, InvG_c e.symm hI⟩
theorem mv_47 {s t : Nat → Int32} (e : ∀ k, k < 47 → s k = t k) : Geq (mv s) (mv t) → True := fun _ => trivial
theorem mv_cp {f g : Nat → Int32} (h8 : nG (mv f) ≤ 8) : Geq (mv f) (mv (cp47 f g)) := by
  refine ⟨⟨?_, ?_, ?_⟩, fun k hk => ?_, fun k hk => ?_, fun i hi => ?_⟩
  · simp [mv, cp47]
  · simp [mv, cp47]
  · simp [mv, cp47]
  · simp only [mv, cp47]; simp [hk]; intro; omega
  · simp only [mv, cp47]; simp [hk]; intro; omega
  · have : i < 8 := by omega
    simp only [mv_3, mv_4, mv_5, mv_6, cp47]
    rw [if_pos (by omega), if_pos (by omega), if_pos (by omega), if_pos (by omega)]
    exact ⟨rfl, rfl, rfl, rfl⟩
def S5_keep : Sp := fun av h Q => match av with | [.ref x] => Rn (T5_keep Q S1_copy) (0, [some (.ref x)], [], h) | _ => False
theorem rn5_keep {h : Hp} {Q : Po} {x : Nat} (hS : S5_keep [.ref x] h Q) : Rn (T5_keep Q S1_copy) (0, [some (.ref x)], [], h) := hS
def S6_keep : Sp := fun av h Q => match av with | [.ref x] => Rn (T6_keep Q) (0, [some (.ref x), none], [], h) | _ => False
theorem rn6_keep {h : Hp} {Q : Po} {x : Nat} (hS : S6_keep [.ref x] h Q) : Rn (T6_keep Q) (0, [some (.ref x), none], [], h) := hS
def S5_again : Sp := fun av h Q => match av with | [.ref x] => Rn (T5_again Q S1_copy) (0, [some (.ref x)], [], h) | _ => False
theorem rn5_again {h : Hp} {Q : Po} {x : Nat} (hS : S5_again [.ref x] h Q) : Rn (T5_again Q S1_copy) (0, [some (.ref x)], [], h) := hS
def S6_again : Sp := fun av h Q => match av with | [.ref x] => Rn (T6_again Q) (0, [some (.ref x), none], [], h) | _ => False
theorem rn6_again {h : Hp} {Q : Po} {x : Nat} (hS : S6_again [.ref x] h Q) : Rn (T6_again Q) (0, [some (.ref x), none], [], h) := hS
theorem lp6_keep {h : Hp} {Q : Po} (hQ : Q (some (.int 1)) (up2 (upA h 43 (cp47 (h 42) (h 43))) 41 4 1)) : ∀ d j, d + j = 47 → Rn (T6_keep Q) (2, [some (.ref 41), some (.int (nI j))], [], upA h 43 (cpj (h 42) (h 43) j))
  | 0, j, e => by
    have e : j = 47 := by omega
    subst e
    refine Rn_go C6_keep 60 ?_
    simp only [x6_keep_0, x6_keep_1, k6_keep_2, t6_keep_2, x6_keep_3, x6_keep_5, x6_keep_8, x6_keep_9, x6_keep_12, x6_keep_13, x6_keep_14, x6_keep_17, x6_keep_18, x6_keep_19, x6_keep_20, x6_keep_23, x6_keep_26, x6_keep_27, x6_keep_28, x6_keep_31, x6_keep_32, i_ald, i_get, i_goto, i_iald, i_iast, i_ic, i_ic_ge, i_ild, i_inc, i_iret, i_ist, i_putz, oc_41, fv_41_0, fv_41_1, fv_41_2, fv_41_3, fv_41_4, ly_41_4, fv_41_5, fv_41_6, ly_41_6, fv_41_7, ly_41_7, fv_41_8, ly_41_8, fv_41_9, ly_41_9, fv_41_10, ly_41_10, fv_41_11, ly_41_11, fv_41_12, fv_41_13, fv_41_14, ly_41_14, fv_41_15, fv_41_16, fv_41_17, fv_41_18, fv_41_19, fv_41_20, fv_41_21, fv_41_22, ly_41_22, fv_41_23, ly_41_23, fv_41_24, ly_41_24, fv_41_25, ly_41_25, fv_41_26, ly_41_26, rd_42, al_42, rd_43, al_43, rd_44, al_44, rd_45, al_45, rd_46, al_46, rd_47, al_47, rd_48, al_48, rd_49, al_49, rd_50, al_50, rd_51, al_51, rd_52, al_52, rd_53, al_53, rd_54, al_54, rd_55, al_55, lck_0, lck_i, lck_r, lck_n, lck_l, csum_0, csum_i, csum_r, csum_l, pops_0, pops_s, psh_n, psh_s, List.getElem?_cons_zero, List.getElem?_cons_succ, List.set_cons_zero, List.set_cons_succ, true_and, and_true, Nat.reduceAdd, Nat.reduceLeDiff, l01_1, or_true]
    exact ⟨fun _ => hQ, fun c => absurd (by decide) c⟩
  | d + 1, j, e => by
    have ih := lp6_keep hQ d (j + 1) (by omega)
    rw [← nI_1] at ih
    have hj : 0 ≤ nI j ∧ nI j < 47 := ⟨nI_pos' (by omega), nI_lt (b := 47) (by omega) (by decide)⟩
    have hlt : ¬ 47 ≤ nI j := Int32.not_le.mpr hj.2
    have hx : (nI j).toNatClampNeg = j := ix_nI (by omega)
    rw [← cpj_up h (by decide)] at ih
    refine Rn_go C6_keep 60 ?_
    simp only [x6_keep_0, x6_keep_1, k6_keep_2, t6_keep_2, x6_keep_3, x6_keep_5, x6_keep_8, x6_keep_9, x6_keep_12, x6_keep_13, x6_keep_14, x6_keep_17, x6_keep_18, x6_keep_19, x6_keep_20, x6_keep_23, x6_keep_26, x6_keep_27, x6_keep_28, x6_keep_31, x6_keep_32, i_ald, i_get, i_goto, i_iald, i_iast, i_ic, i_ic_ge, i_ild, i_inc, i_iret, i_ist, i_putz, oc_41, fv_41_0, fv_41_1, fv_41_2, fv_41_3, fv_41_4, ly_41_4, fv_41_5, fv_41_6, ly_41_6, fv_41_7, ly_41_7, fv_41_8, ly_41_8, fv_41_9, ly_41_9, fv_41_10, ly_41_10, fv_41_11, ly_41_11, fv_41_12, fv_41_13, fv_41_14, ly_41_14, fv_41_15, fv_41_16, fv_41_17, fv_41_18, fv_41_19, fv_41_20, fv_41_21, fv_41_22, ly_41_22, fv_41_23, ly_41_23, fv_41_24, ly_41_24, fv_41_25, ly_41_25, fv_41_26, ly_41_26, rd_42, al_42, rd_43, al_43, rd_44, al_44, rd_45, al_45, rd_46, al_46, rd_47, al_47, rd_48, al_48, rd_49, al_49, rd_50, al_50, rd_51, al_51, rd_52, al_52, rd_53, al_53, rd_54, al_54, rd_55, al_55, lck_0, lck_i, lck_r, lck_n, lck_l, csum_0, csum_i, csum_r, csum_l, pops_0, pops_s, psh_n, psh_s, List.getElem?_cons_zero, List.getElem?_cons_succ, List.set_cons_zero, List.set_cons_succ, true_and, and_true, Nat.reduceAdd, Nat.reduceLeDiff, v47, hx]
    exact ⟨fun c => absurd c hlt, fun _ => ⟨hj, hj, ih⟩⟩
theorem cpj_0 (h : Hp) (f t : Nat) : upA h t (cpj (h f) (h t) 0) = h := by
  funext p k
  simp only [upA, cpj]
  grind
theorem lp6_again {h : Hp} {Q : Po} (hQ : Q (some (.int (cp47 (h 43) (h 42) 0))) (upA h 42 (cp47 (h 43) (h 42)))) : ∀ d j, d + j = 47 → Rn (T6_again Q) (12, [some (.ref 41), some (.int (nI j))], [], upA h 42 (cpj (h 43) (h 42) j))
  | 0, j, e => by
    have e : j = 47 := by omega
    subst e
    refine Rn_go C6_again 60 ?_
    simp only [x6_again_0, x6_again_1, x6_again_4, x6_again_7, x6_again_9, x6_again_10, x6_again_11, k6_again_12, t6_again_12, x6_again_13, x6_again_15, x6_again_18, x6_again_19, x6_again_22, x6_again_23, x6_again_24, x6_again_27, x6_again_28, x6_again_29, x6_again_30, x6_again_33, x6_again_36, x6_again_37, x6_again_40, x6_again_41, x6_again_42, i_ald, i_get, i_goto, i_iald, i_iast, i_ic, i_ic_ge, i_if_ne, i_ild, i_inc, i_iret, i_ist, oc_41, fv_41_0, fv_41_1, fv_41_2, fv_41_3, fv_41_4, ly_41_4, fv_41_5, fv_41_6, ly_41_6, fv_41_7, ly_41_7, fv_41_8, ly_41_8, fv_41_9, ly_41_9, fv_41_10, ly_41_10, fv_41_11, ly_41_11, fv_41_12, fv_41_13, fv_41_14, ly_41_14, fv_41_15, fv_41_16, fv_41_17, fv_41_18, fv_41_19, fv_41_20, fv_41_21, fv_41_22, ly_41_22, fv_41_23, ly_41_23, fv_41_24, ly_41_24, fv_41_25, ly_41_25, fv_41_26, ly_41_26, rd_42, al_42, rd_43, al_43, rd_44, al_44, rd_45, al_45, rd_46, al_46, rd_47, al_47, rd_48, al_48, rd_49, al_49, rd_50, al_50, rd_51, al_51, rd_52, al_52, rd_53, al_53, rd_54, al_54, rd_55, al_55, lck_0, lck_i, lck_r, lck_n, lck_l, csum_0, csum_i, csum_r, csum_l, pops_0, pops_s, psh_n, psh_s, List.getElem?_cons_zero, List.getElem?_cons_succ, List.set_cons_zero, List.set_cons_succ, true_and, and_true, Nat.reduceAdd, Nat.reduceLeDiff, v47, w47, ix0, upA_42]
    exact ⟨fun _ => hQ, fun c => absurd (by decide) c⟩
  | d + 1, j, e => by
    have ih := lp6_again hQ d (j + 1) (by omega)
    rw [← nI_1] at ih
    have hj : 0 ≤ nI j ∧ nI j < 47 := ⟨nI_pos' (by omega), nI_lt (b := 47) (by omega) (by decide)⟩
    have hlt : ¬ 47 ≤ nI j := Int32.not_le.mpr hj.2
    have hx : (nI j).toNatClampNeg = j := ix_nI (by omega)
    rw [← cpj_up h (by decide)] at ih
    refine Rn_go C6_again 60 ?_
    simp only [x6_again_0, x6_again_1, x6_again_4, x6_again_7, x6_again_9, x6_again_10, x6_again_11, k6_again_12, t6_again_12, x6_again_13, x6_again_15, x6_again_18, x6_again_19, x6_again_22, x6_again_23, x6_again_24, x6_again_27, x6_again_28, x6_again_29, x6_again_30, x6_again_33, x6_again_36, x6_again_37, x6_again_40, x6_again_41, x6_again_42, i_ald, i_get, i_goto, i_iald, i_iast, i_ic, i_ic_ge, i_if_ne, i_ild, i_inc, i_iret, i_ist, oc_41, fv_41_0, fv_41_1, fv_41_2, fv_41_3, fv_41_4, ly_41_4, fv_41_5, fv_41_6, ly_41_6, fv_41_7, ly_41_7, fv_41_8, ly_41_8, fv_41_9, ly_41_9, fv_41_10, ly_41_10, fv_41_11, ly_41_11, fv_41_12, fv_41_13, fv_41_14, ly_41_14, fv_41_15, fv_41_16, fv_41_17, fv_41_18, fv_41_19, fv_41_20, fv_41_21, fv_41_22, ly_41_22, fv_41_23, ly_41_23, fv_41_24, ly_41_24, fv_41_25, ly_41_25, fv_41_26, ly_41_26, rd_42, al_42, rd_43, al_43, rd_44, al_44, rd_45, al_45, rd_46, al_46, rd_47, al_47, rd_48, al_48, rd_49, al_49, rd_50, al_50, rd_51, al_51, rd_52, al_52, rd_53, al_53, rd_54, al_54, rd_55, al_55, lck_0, lck_i, lck_r, lck_n, lck_l, csum_0, csum_i, csum_r, csum_l, pops_0, pops_s, psh_n, psh_s, List.getElem?_cons_zero, List.getElem?_cons_succ, List.set_cons_zero, List.set_cons_succ, true_and, and_true, Nat.reduceAdd, Nat.reduceLeDiff, v47, hx]
    exact ⟨fun c => absurd c hlt, fun _ => ⟨hj, hj, ih⟩⟩
theorem pg15_p {h : Hp} {D S : GG} {p : Nat} (hD : D = vg h 15) (hp : p < 15 ∨ 21 < p) : pg h 15 (cpG D S) p = h p := by
  funext k
  simp only [pg]
  split
  · rfl
  · rw [cpG_hi _ _ (by omega), hD]
    simp only [vg]
    rw [Nat.add_sub_cancel' (by omega)]
theorem pg1_p {h : Hp} {D S : GG} {p : Nat} (hD : D = vg h 1) (hp : p < 1 ∨ 7 < p) : pg h 1 (cpG D S) p = h p := by
  funext k
  simp only [pg]
  split
  · rfl
  · rw [cpG_hi _ _ (by omega), hD]
    simp only [vg]
    rw [Nat.add_sub_cancel' (by omega)]
theorem pr_keep {h : Hp} (r : Rel h)  : S5_keep [.ref 0] h (fun rv h1 => S6_keep [.ref 41] h1 (fun rw h2 => rw = rv ∧ Rel h2)) := by
  obtain ⟨rg, rk, rt, rw2, rs, rh, rd⟩ := r
  have hI := rg.2
  obtain ⟨eC, iC⟩ := cpG_i (D := vg h 15) hI
  have hp : ∀ p, (p < 15 ∨ 21 < p) → pg h 15 (cpG (vg h 15) (vg h 1)) p = h p := fun p hp => pg15_p rfl hp
  have e8 : nG (mv (h 42)) ≤ 8 := nG_8 (InvR_c rg.1 hI.1)
  have fin : S6_keep [.ref 41] (up2 (pg h 15 (cpG (vg h 15) (vg h 1))) 0 3 1) (fun rw h2 => rw = some (.int 1) ∧ Rel h2) := by
    refine Rn_in C6_keep 60 ?_
    simp only [x6_keep_0, x6_keep_1, k6_keep_2, t6_keep_2, x6_keep_3, x6_keep_5, x6_keep_8, x6_keep_9, x6_keep_12, x6_keep_13, x6_keep_14, x6_keep_17, x6_keep_18, x6_keep_19, x6_keep_20, x6_keep_23, x6_keep_26, x6_keep_27, x6_keep_28, x6_keep_31, x6_keep_32, i_ald, i_get, i_goto, i_iald, i_iast, i_ic, i_ic_ge, i_ild, i_inc, i_iret, i_ist, i_putz, oc_41, fv_41_0, fv_41_1, fv_41_2, fv_41_3, fv_41_4, ly_41_4, fv_41_5, fv_41_6, ly_41_6, fv_41_7, ly_41_7, fv_41_8, ly_41_8, fv_41_9, ly_41_9, fv_41_10, ly_41_10, fv_41_11, ly_41_11, fv_41_12, fv_41_13, fv_41_14, ly_41_14, fv_41_15, fv_41_16, fv_41_17, fv_41_18, fv_41_19, fv_41_20, fv_41_21, fv_41_22, ly_41_22, fv_41_23, ly_41_23, fv_41_24, ly_41_24, fv_41_25, ly_41_25, fv_41_26, ly_41_26, rd_42, al_42, rd_43, al_43, rd_44, al_44, rd_45, al_45, rd_46, al_46, rd_47, al_47, rd_48, al_48, rd_49, al_49, rd_50, al_50, rd_51, al_51, rd_52, al_52, rd_53, al_53, rd_54, al_54, rd_55, al_55, lck_0, lck_i, lck_r, lck_n, lck_l, csum_0, csum_i, csum_r, csum_l, pops_0, pops_s, psh_n, psh_s, List.getElem?_cons_zero, List.getElem?_cons_succ, List.set_cons_zero, List.set_cons_succ, true_and, and_true, Nat.reduceAdd, Nat.reduceLeDiff]
    have := lp6_keep (h := up2 (pg h 15 (cpG (vg h 15) (vg h 1))) 0 3 1) (Q := fun rw h2 => rw = some (.int 1) ∧ Rel h2) ?_ 47 0 (by omega)
    · rw [cpj_0] at this
      exact this
    · refine ⟨rfl, ?_⟩
      have q : ∀ p, p ≠ 0 → p ≠ 41 → p ≠ 43 → (p < 15 ∨ 21 < p) → up2 (upA (up2 (pg h 15 (cpG (vg h 15) (vg h 1))) 0 3 1) 43 (cp47 (up2 (pg h 15 (cpG (vg h 15) (vg h 1))) 0 3 1 42) (up2 (pg h 15 (cpG (vg h 15) (vg h 1))) 0 3 1 43))) 41 4 1 p = h p := fun p h0 h41 h43 h15 => by
        rw [up2_ne h41, upA_ne h43, up2_ne h0, hp p h15]
      have q0 : ∀ k, k ≠ 3 → up2 (upA (up2 (pg h 15 (cpG (vg h 15) (vg h 1))) 0 3 1) 43 (cp47 (up2 (pg h 15 (cpG (vg h 15) (vg h 1))) 0 3 1 42) (up2 (pg h 15 (cpG (vg h 15) (vg h 1))) 0 3 1 43))) 41 4 1 0 k = h 0 k := fun k hk => by
        rw [up2_ne (by decide), upA_ne (by decide), up2_self, upd, if_neg hk, hp 0 (by omega)]
      have q41 : ∀ k, k ≠ 4 → up2 (upA (up2 (pg h 15 (cpG (vg h 15) (vg h 1))) 0 3 1) 43 (cp47 (up2 (pg h 15 (cpG (vg h 15) (vg h 1))) 0 3 1 42) (up2 (pg h 15 (cpG (vg h 15) (vg h 1))) 0 3 1 43))) 41 4 1 41 k = h 41 k := fun k hk => by
        rw [up2_self, upd, if_neg hk, upA_ne (by decide), up2_ne (by decide), hp 41 (by omega)]
      refine ⟨RG_s rg (fun p a b => q p (by omega) (by omega) (by omega) (by omega)) (q 42 (by omega) (by omega) (by omega) (by omega)), ?_, RT_s rt (by rw [q 22 (by omega) (by omega) (by omega) (by omega)]) (q41 6 (by omega)) (q 23 (by omega) (by omega) (by omega) (by omega)) (q 46 (by omega) (by omega) (by omega) (by omega)), RW2_s rw2 (q0 6 (by omega)) (q41 14 (by omega)) (q 24 (by omega) (by omega) (by omega) (by omega)) (q 48 (by omega) (by omega) (by omega) (by omega)), RS_s rs (fun p a b => q p (by omega) (by omega) (by omega) (by omega)) (q 49 (by omega) (by omega) (by omega) (by omega)) (q 50 (by omega) (by omega) (by omega) (by omega)) (q 51 (by omega) (by omega) (by omega) (by omega)), RH_s rh (fun p a b => q p (by omega) (by omega) (by omega) (by omega)) (q 52 (by omega) (by omega) (by omega) (by omega)) (q 53 (by omega) (by omega) (by omega) (by omega)) (q 54 (by omega) (by omega) (by omega) (by omega)), RD_s rd (by rw [q 39 (by omega) (by omega) (by omega) (by omega)]) (q41 22 (by omega)) (q 40 (by omega) (by omega) (by omega) (by omega)) (q 55 (by omega) (by omega) (by omega) (by omega))⟩
      refine ⟨by simp [up2, upA], Or.inr (by simp [up2, upA]), fun _ => ?_⟩
      have e43 : up2 (upA (up2 (pg h 15 (cpG (vg h 15) (vg h 1))) 0 3 1) 43 (cp47 (up2 (pg h 15 (cpG (vg h 15) (vg h 1))) 0 3 1 42) (up2 (pg h 15 (cpG (vg h 15) (vg h 1))) 0 3 1 43))) 41 4 1 43 = cp47 (h 42) (h 43) := by
        rw [up2_ne (by decide), upA_self, up2_ne (by decide), up2_ne (by decide), hp 42 (by omega), hp 43 (by omega)]
      have e15 : Geq (vg (up2 (upA (up2 (pg h 15 (cpG (vg h 15) (vg h 1))) 0 3 1) 43 (cp47 (up2 (pg h 15 (cpG (vg h 15) (vg h 1))) 0 3 1 42) (up2 (pg h 15 (cpG (vg h 15) (vg h 1))) 0 3 1 43))) 41 4 1) 15) (cpG (vg h 15) (vg h 1)) := by
        have e : ∀ j, j ≤ 6 → vg (up2 (upA (up2 (pg h 15 (cpG (vg h 15) (vg h 1))) 0 3 1) 43 (cp47 (up2 (pg h 15 (cpG (vg h 15) (vg h 1))) 0 3 1 42) (up2 (pg h 15 (cpG (vg h 15) (vg h 1))) 0 3 1 43))) 41 4 1) 15 j = cpG (vg h 15) (vg h 1) j := fun j hj => by
          rw [vg_fn, up2_ne (by omega), upA_ne (by omega), up2_ne (by omega), pg_ge]
        unfold Geq
        rw [e 0 (by omega), e 1 (by omega), e 2 (by omega), e 3 (by omega), e 4 (by omega), e 5 (by omega), e 6 (by omega)]
        exact ⟨⟨rfl, rfl, rfl⟩, fun _ _ => rfl, fun _ _ => rfl, fun _ _ => ⟨rfl, rfl, rfl, rfl⟩⟩
      rw [e43]
      exact ⟨e15.trans (eC.trans (rg.1.trans (mv_cp e8))), InvG_c e15.symm iC⟩
  refine Rn_in C5_keep 60 ?_
  simp only [x5_keep_0, x5_keep_1, x5_keep_4, x5_keep_5, x5_keep_8, x5_keep_11, x5_keep_12, x5_keep_13, x5_keep_16, x5_keep_17, i_ald, i_cV, i_get, i_ic, i_iret, i_putz, oc_0, fv_0_0, fv_0_1, fv_0_2, fv_0_3, ly_0_3, fv_0_4, fv_0_5, fv_0_6, ly_0_6, fv_0_7, fv_0_8, fv_0_9, oc_1, fv_1_0, fv_1_1, fv_1_2, fv_1_3, fv_1_4, fv_1_5, fv_1_6, ly_1_6, fv_1_7, ly_1_7, fv_1_8, ly_1_8, rd_2, al_2, rd_3, al_3, rd_4, al_4, rd_5, al_5, rd_6, al_6, rd_7, al_7, oc_8, fv_8_0, fv_8_1, fv_8_2, fv_8_3, fv_8_4, fv_8_5, fv_8_6, ly_8_6, fv_8_7, ly_8_7, fv_8_8, ly_8_8, rd_9, al_9, rd_10, al_10, rd_11, al_11, rd_12, al_12, rd_13, al_13, rd_14, al_14, oc_15, fv_15_0, fv_15_1, fv_15_2, fv_15_3, fv_15_4, fv_15_5, fv_15_6, ly_15_6, fv_15_7, ly_15_7, fv_15_8, ly_15_8, rd_16, al_16, rd_17, al_17, rd_18, al_18, rd_19, al_19, rd_20, al_20, rd_21, al_21, lck_0, lck_i, lck_r, lck_n, lck_l, csum_0, csum_i, csum_r, csum_l, pops_0, pops_s, psh_n, psh_s, List.getElem?_cons_zero, List.getElem?_cons_succ, List.set_cons_zero, List.set_cons_succ, true_and, and_true, Nat.reduceAdd, Nat.reduceLeDiff, S1_copy, CP_15, l01_1, or_true]
  exact fin
theorem pr_again {h : Hp} (r : Rel h)  : S5_again [.ref 0] h (fun rv h1 => S6_again [.ref 41] h1 (fun rw h2 => rw = rv ∧ Rel h2)) := by
  have r0 := r
  obtain ⟨rg, rk, rt, rw2, rs, rh, rd⟩ := r
  by_cases c : h 0 3 = 0
  · have c2 : h 41 4 = 0 := by rw [← rk.1]; exact c
    refine Rn_in C5_again 60 ?_
    simp only [x5_again_0, x5_again_1, x5_again_4, x5_again_7, x5_again_9, x5_again_10, x5_again_11, x5_again_14, x5_again_15, x5_again_18, x5_again_21, x5_again_22, x5_again_25, x5_again_28, i_ald, i_cV, i_get, i_ic, i_if_ne, i_iret, oc_0, fv_0_0, fv_0_1, fv_0_2, fv_0_3, ly_0_3, fv_0_4, fv_0_5, fv_0_6, ly_0_6, fv_0_7, fv_0_8, fv_0_9, oc_1, fv_1_0, fv_1_1, fv_1_2, fv_1_3, fv_1_4, fv_1_5, fv_1_6, ly_1_6, fv_1_7, ly_1_7, fv_1_8, ly_1_8, rd_2, al_2, rd_3, al_3, rd_4, al_4, rd_5, al_5, rd_6, al_6, rd_7, al_7, oc_8, fv_8_0, fv_8_1, fv_8_2, fv_8_3, fv_8_4, fv_8_5, fv_8_6, ly_8_6, fv_8_7, ly_8_7, fv_8_8, ly_8_8, rd_9, al_9, rd_10, al_10, rd_11, al_11, rd_12, al_12, rd_13, al_13, rd_14, al_14, oc_15, fv_15_0, fv_15_1, fv_15_2, fv_15_3, fv_15_4, fv_15_5, fv_15_6, ly_15_6, fv_15_7, ly_15_7, fv_15_8, ly_15_8, rd_16, al_16, rd_17, al_17, rd_18, al_18, rd_19, al_19, rd_20, al_20, rd_21, al_21, lck_0, lck_i, lck_r, lck_n, lck_l, csum_0, csum_i, csum_r, csum_l, pops_0, pops_s, psh_n, psh_s, List.getElem?_cons_zero, List.getElem?_cons_succ, List.set_cons_zero, List.set_cons_succ, true_and, and_true, Nat.reduceAdd, Nat.reduceLeDiff, S1_copy, c, nn, false_implies, true_implies, implies_true, and_true, true_and, not_true_eq_false, not_false_eq_true, eq_self]
    refine Rn_in C6_again 60 ?_
    simp only [x6_again_0, x6_again_1, x6_again_4, x6_again_7, x6_again_9, x6_again_10, x6_again_11, k6_again_12, t6_again_12, x6_again_13, x6_again_15, x6_again_18, x6_again_19, x6_again_22, x6_again_23, x6_again_24, x6_again_27, x6_again_28, x6_again_29, x6_again_30, x6_again_33, x6_again_36, x6_again_37, x6_again_40, x6_again_41, x6_again_42, i_ald, i_get, i_goto, i_iald, i_iast, i_ic, i_ic_ge, i_if_ne, i_ild, i_inc, i_iret, i_ist, oc_41, fv_41_0, fv_41_1, fv_41_2, fv_41_3, fv_41_4, ly_41_4, fv_41_5, fv_41_6, ly_41_6, fv_41_7, ly_41_7, fv_41_8, ly_41_8, fv_41_9, ly_41_9, fv_41_10, ly_41_10, fv_41_11, ly_41_11, fv_41_12, fv_41_13, fv_41_14, ly_41_14, fv_41_15, fv_41_16, fv_41_17, fv_41_18, fv_41_19, fv_41_20, fv_41_21, fv_41_22, ly_41_22, fv_41_23, ly_41_23, fv_41_24, ly_41_24, fv_41_25, ly_41_25, fv_41_26, ly_41_26, rd_42, al_42, rd_43, al_43, rd_44, al_44, rd_45, al_45, rd_46, al_46, rd_47, al_47, rd_48, al_48, rd_49, al_49, rd_50, al_50, rd_51, al_51, rd_52, al_52, rd_53, al_53, rd_54, al_54, rd_55, al_55, lck_0, lck_i, lck_r, lck_n, lck_l, csum_0, csum_i, csum_r, csum_l, pops_0, pops_s, psh_n, psh_s, List.getElem?_cons_zero, List.getElem?_cons_succ, List.set_cons_zero, List.set_cons_succ, true_and, and_true, Nat.reduceAdd, Nat.reduceLeDiff, c2, nn, false_implies, true_implies, implies_true, and_true, true_and, not_true_eq_false, not_false_eq_true, eq_self]
    exact r0
  · have c1 : h 0 3 = 1 := by rcases rk.2.1 with a | a; exact absurd a c; exact a
    have c2 : ¬ h 41 4 = 0 := by rw [← rk.1]; exact c
    obtain ⟨k1, k2⟩ := rk.2.2 c1
    obtain ⟨eC, iC⟩ := cpG_i (D := vg h 1) k2
    have hp : ∀ p, (p < 1 ∨ 7 < p) → pg h 1 (cpG (vg h 1) (vg h 15)) p = h p := fun p hp => pg1_p rfl hp
    have e8 : nG (mv (h 43)) ≤ 8 := nG_8 (InvR_c k1 k2.1)
    refine Rn_in C5_again 60 ?_
    simp only [x5_again_0, x5_again_1, x5_again_4, x5_again_7, x5_again_9, x5_again_10, x5_again_11, x5_again_14, x5_again_15, x5_again_18, x5_again_21, x5_again_22, x5_again_25, x5_again_28, i_ald, i_cV, i_get, i_ic, i_if_ne, i_iret, oc_0, fv_0_0, fv_0_1, fv_0_2, fv_0_3, ly_0_3, fv_0_4, fv_0_5, fv_0_6, ly_0_6, fv_0_7, fv_0_8, fv_0_9, oc_1, fv_1_0, fv_1_1, fv_1_2, fv_1_3, fv_1_4, fv_1_5, fv_1_6, ly_1_6, fv_1_7, ly_1_7, fv_1_8, ly_1_8, rd_2, al_2, rd_3, al_3, rd_4, al_4, rd_5, al_5, rd_6, al_6, rd_7, al_7, oc_8, fv_8_0, fv_8_1, fv_8_2, fv_8_3, fv_8_4, fv_8_5, fv_8_6, ly_8_6, fv_8_7, ly_8_7, fv_8_8, ly_8_8, rd_9, al_9, rd_10, al_10, rd_11, al_11, rd_12, al_12, rd_13, al_13, rd_14, al_14, oc_15, fv_15_0, fv_15_1, fv_15_2, fv_15_3, fv_15_4, fv_15_5, fv_15_6, ly_15_6, fv_15_7, ly_15_7, fv_15_8, ly_15_8, rd_16, al_16, rd_17, al_17, rd_18, al_18, rd_19, al_19, rd_20, al_20, rd_21, al_21, lck_0, lck_i, lck_r, lck_n, lck_l, csum_0, csum_i, csum_r, csum_l, pops_0, pops_s, psh_n, psh_s, List.getElem?_cons_zero, List.getElem?_cons_succ, List.set_cons_zero, List.set_cons_succ, true_and, and_true, Nat.reduceAdd, Nat.reduceLeDiff, S1_copy, CP_115, c, pg1_0, cpG_6, nn, false_implies, true_implies, implies_true, and_true, true_and, not_true_eq_false, not_false_eq_true, eq_self]
    refine Rn_in C6_again 60 ?_
    have p41 : pg h 1 (cpG (vg h 1) (vg h 15)) 41 = h 41 := hp 41 (by decide)
    simp only [x6_again_0, x6_again_1, x6_again_4, x6_again_7, x6_again_9, x6_again_10, x6_again_11, k6_again_12, t6_again_12, x6_again_13, x6_again_15, x6_again_18, x6_again_19, x6_again_22, x6_again_23, x6_again_24, x6_again_27, x6_again_28, x6_again_29, x6_again_30, x6_again_33, x6_again_36, x6_again_37, x6_again_40, x6_again_41, x6_again_42, i_ald, i_get, i_goto, i_iald, i_iast, i_ic, i_ic_ge, i_if_ne, i_ild, i_inc, i_iret, i_ist, oc_41, fv_41_0, fv_41_1, fv_41_2, fv_41_3, fv_41_4, ly_41_4, fv_41_5, fv_41_6, ly_41_6, fv_41_7, ly_41_7, fv_41_8, ly_41_8, fv_41_9, ly_41_9, fv_41_10, ly_41_10, fv_41_11, ly_41_11, fv_41_12, fv_41_13, fv_41_14, ly_41_14, fv_41_15, fv_41_16, fv_41_17, fv_41_18, fv_41_19, fv_41_20, fv_41_21, fv_41_22, ly_41_22, fv_41_23, ly_41_23, fv_41_24, ly_41_24, fv_41_25, ly_41_25, fv_41_26, ly_41_26, rd_42, al_42, rd_43, al_43, rd_44, al_44, rd_45, al_45, rd_46, al_46, rd_47, al_47, rd_48, al_48, rd_49, al_49, rd_50, al_50, rd_51, al_51, rd_52, al_52, rd_53, al_53, rd_54, al_54, rd_55, al_55, lck_0, lck_i, lck_r, lck_n, lck_l, csum_0, csum_i, csum_r, csum_l, pops_0, pops_s, psh_n, psh_s, List.getElem?_cons_zero, List.getElem?_cons_succ, List.set_cons_zero, List.set_cons_succ, true_and, and_true, Nat.reduceAdd, Nat.reduceLeDiff, p41, c2, nn, false_implies, true_implies, implies_true, and_true, true_and, not_true_eq_false, not_false_eq_true, eq_self]
    have := lp6_again (h := pg h 1 (cpG (vg h 1) (vg h 15))) (Q := fun rw h2 => rw = some (.int (vg h 15 0 6)) ∧ Rel h2) ?_ 47 0 (by omega)
    · rw [cpj_0] at this
      exact this
    · rw [hp 42 (by omega), hp 43 (by omega)]
      refine ⟨by rw [k1.1.1]; rfl, Rel_now r0 (fun p hp2 => ?_) ?_⟩
      · rw [upA_ne (fun e => hp2 (by rw [e]; exact sc42)), hp p (by unfold scr at hp2; omega)]
      · have := RG_occ (h := h) (G := cpG (vg h 1) (vg h 15)) (s := cp47 (h 43) (h 42)) iC (eC.trans (k1.trans (mv_cp e8)))
        exact this
