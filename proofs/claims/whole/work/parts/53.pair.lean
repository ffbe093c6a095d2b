/-! pairs: tries -/
theorem fstT_le (G : GG) (i : Nat) (room : Int32) : ∀ d t, fstT G i room d t ≤ t + d
  | 0, t => Nat.le_refl _
  | d + 1, t => by
    simp only [fstT]
    split
    · omega
    · have := fstT_le G i room d (t + 1)
      omega
theorem vg_F8 {h h1 : Hp} (f : Fr8 h h1) : Geq (vg h1 1) (vg h 1) := by
  have e : ∀ j, j ≤ 6 → vg h1 1 j = vg h 1 j := fun j hj => by
    funext k; simp only [vg]; rw [f (1 + j) (by omega)]
  unfold Geq
  rw [e 0 (by omega), e 1 (by omega), e 2 (by omega), e 3 (by omega), e 4 (by omega), e 5 (by omega), e 6 (by omega)]
  exact ⟨⟨rfl, rfl, rfl⟩, fun _ _ => rfl, fun _ _ => rfl, fun _ _ => ⟨rfl, rfl, rfl, rfl⟩⟩
/-- the copy that is tried -/
theorem cp8 (h : Hp) (hI : InvR (vg h 1)) : Geq (cpG (vg h 8) (vg h 1)) (vg h 1) ∧ InvR (cpG (vg h 8) (vg h 1)) := by
  have e := cpG_c (vg h 8) (vg h 1) (nG_8 hI)
  exact ⟨e, InvR_c e.symm hI⟩
theorem ix60 : Int32.toNatClampNeg 60 = 60 := by decide
def S5_timeNow : Sp := fun av h Q => match av with | [.ref x, .int i] => x = 0 ∧ InvR (vg h 1) ∧ (0 ≤ i ∧ i < h 1 6) ∧ ∀ h1, Fr8 h h1 → Q (some (.int (nI (fstT (vg h 1) (ix i) 8 61 0)))) h1 | _ => False
theorem tmR (G : GG) (i : Nat) (room : Int32) : (if fstT G i room 61 0 ≤ 60 then nI (fstT G i room 61 0) else 61) = nI (fstT G i room 61 0) := by
  have := fstT_le G i room 61 0
  split
  · rfl
  · rw [show fstT G i room 61 0 = 61 by omega]; rfl
theorem rn5_timeNow {h : Hp} {Q : Po} {x : Nat} {i : Int32} (hS : S5_timeNow [.ref x, .int i] h Q) : Rn (T5_timeNow Q S1_copy S1_timeTo) (0, [some (.ref x), some (.int i)], [], h) := by
  obtain ⟨rfl, hI, hi, hQ⟩ := hS
  obtain ⟨eC, iC⟩ := cp8 h hI
  have i8 : 0 ≤ i ∧ i < 8 := ⟨hi.1, Int32.lt_of_lt_of_le hi.2 hI.1.2⟩
  have hn : ix i < nG (cpG (vg h 8) (vg h 1)) := by rw [Geq_n eC]; exact ix_n hI hi.1 hi.2
  have e1 := fstT_c eC iC hn 8 61 0
  have c8 : 0 ≤ cpG (vg h 8) (vg h 1) 0 6 ∧ cpG (vg h 8) (vg h 1) 0 6 ≤ 8 := iC.1
  refine Rn_in C5_timeNow 60 ?_
  simp only [x5_timeNow_0, x5_timeNow_1, x5_timeNow_4, x5_timeNow_5, x5_timeNow_8, x5_timeNow_11, x5_timeNow_12, x5_timeNow_15, x5_timeNow_16, x5_timeNow_18, x5_timeNow_20, x5_timeNow_23, i_ald, i_cV, i_get, i_ic, i_ild, i_iret, oc_0, fv_0_0, fv_0_1, fv_0_2, fv_0_3, ly_0_3, fv_0_4, fv_0_5, fv_0_6, ly_0_6, fv_0_7, fv_0_8, fv_0_9, oc_1, fv_1_0, fv_1_1, fv_1_2, fv_1_3, fv_1_4, fv_1_5, fv_1_6, ly_1_6, fv_1_7, ly_1_7, fv_1_8, ly_1_8, rd_2, al_2, rd_3, al_3, rd_4, al_4, rd_5, al_5, rd_6, al_6, rd_7, al_7, oc_8, fv_8_0, fv_8_1, fv_8_2, fv_8_3, fv_8_4, fv_8_5, fv_8_6, ly_8_6, fv_8_7, ly_8_7, fv_8_8, ly_8_8, rd_9, al_9, rd_10, al_10, rd_11, al_11, rd_12, al_12, rd_13, al_13, rd_14, al_14, lck_0, lck_i, lck_r, lck_n, lck_l, csum_0, csum_i, csum_r, csum_l, pops_0, pops_s, psh_n, psh_s, List.getElem?_cons_zero, List.getElem?_cons_succ, List.set_cons_zero, List.set_cons_succ, true_and, and_true, Nat.reduceAdd, Nat.reduceLeDiff, S1_copy, S1_timeTo, CP_81, GB_8, pg8_0, vg_pg, pg_pg, ix60, ix, Nat.reduceAdd, tmR, e1]
  exact ⟨i8, c8, by decide, hQ _ (Fr8_occ h _ _)⟩
def S5_leaves : Sp := fun av h Q => match av with | [.ref x, .int o] => wpn (T5_leaves Q S1_has S5_timeNow S5_noneIfLate) C5_leaves 250 (fun _ => False) (0, [some (.ref x), some (.int o)], [], h) | _ => False
theorem rn5_leaves {h : Hp} {Q : Po} {x : Nat} {o : Int32} (hS : S5_leaves [.ref x, .int o] h Q) : Rn (T5_leaves Q S1_has S5_timeNow S5_noneIfLate) (0, [some (.ref x), some (.int o)], [], h) := Rn_wp (C := C5_leaves) (K := fun _ => False) (fun _ h => False.elim h) 250 _ hS
def S6_leaves : Sp := fun av h Q => match av with | [.ref x, .int o] => wpn (T6_leaves Q S6_isOne S6_passesBy S6_orNone) C6_leaves 250 (fun _ => False) (0, [some (.ref x), some (.int o)], [], h) | _ => False
theorem rn6_leaves {h : Hp} {Q : Po} {x : Nat} {o : Int32} (hS : S6_leaves [.ref x, .int o] h Q) : Rn (T6_leaves Q S6_isOne S6_passesBy S6_orNone) (0, [some (.ref x), some (.int o)], [], h) := Rn_wp (C := C6_leaves) (K := fun _ => False) (fun _ h => False.elim h) 250 _ hS
def S5_passes : Sp := fun av h Q => match av with | [.ref x, .int o, .int a] => wpn (T5_passes Q S1_has S5_isRoomOrOut S1_copy S1_timeTo S5_noneIfLate) C5_passes 250 (fun _ => False) (0, [some (.ref x), some (.int o), some (.int a)], [], h) | _ => False
theorem rn5_passes {h : Hp} {Q : Po} {x : Nat} {o : Int32} {a : Int32} (hS : S5_passes [.ref x, .int o, .int a] h Q) : Rn (T5_passes Q S1_has S5_isRoomOrOut S1_copy S1_timeTo S5_noneIfLate) (0, [some (.ref x), some (.int o), some (.int a)], [], h) := Rn_wp (C := C5_passes) (K := fun _ => False) (fun _ h => False.elim h) 250 _ hS
def S6_passes : Sp := fun av h Q => match av with | [.ref x, .int o, .int a] => wpn (T6_passes Q S6_isOne S6_isIn S6_passesBy S6_orNone) C6_passes 250 (fun _ => False) (0, [some (.ref x), some (.int o), some (.int a)], [], h) | _ => False
theorem rn6_passes {h : Hp} {Q : Po} {x : Nat} {o : Int32} {a : Int32} (hS : S6_passes [.ref x, .int o, .int a] h Q) : Rn (T6_passes Q S6_isOne S6_isIn S6_passesBy S6_orNone) (0, [some (.ref x), some (.int o), some (.int a)], [], h) := Rn_wp (C := C6_passes) (K := fun _ => False) (fun _ h => False.elim h) 250 _ hS
def S5_where : Sp := fun av h Q => match av with | [.ref x, .int o, .int n] => wpn (T5_where Q S1_has S5_isWithin S1_copy S1_passOccasions) C5_where 250 (fun _ => False) (0, [some (.ref x), some (.int o), some (.int n)], [], h) | _ => False
theorem rn5_where {h : Hp} {Q : Po} {x : Nat} {o : Int32} {n : Int32} (hS : S5_where [.ref x, .int o, .int n] h Q) : Rn (T5_where Q S1_has S5_isWithin S1_copy S1_passOccasions) (0, [some (.ref x), some (.int o), some (.int n)], [], h) := Rn_wp (C := C5_where) (K := fun _ => False) (fun _ h => False.elim h) 250 _ hS
def S6_where : Sp := fun av h Q => match av with | [.ref x, .int o, .int n] => wpn (T6_where Q S6_isOne S6_isIn S6_copyRow S6_goesOnMany S6_its) C6_where 250 (fun _ => False) (0, [some (.ref x), some (.int o), some (.int n), none], [], h) | _ => False
theorem rn6_where {h : Hp} {Q : Po} {x : Nat} {o : Int32} {n : Int32} (hS : S6_where [.ref x, .int o, .int n] h Q) : Rn (T6_where Q S6_isOne S6_isIn S6_copyRow S6_goesOnMany S6_its) (0, [some (.ref x), some (.int o), some (.int n), none], [], h) := Rn_wp (C := C6_where) (K := fun _ => False) (fun _ h => False.elim h) 250 _ hS
theorem orN (t : Nat) (ht : t ≤ 61) : (if 60 < nI t then (-3 : Int32) else nI t) = (if nI t = 61 then -3 else nI t) := by
  by_cases c : t = 61
  · subst c; rfl
  · have a : ¬ 60 < nI t := fun q => by
      have := (nI_ltI (a := 60) (b := t) (by decide) (by omega)).mp q
      omega
    have b : ¬ nI t = 61 := fun q => c ((nI_eq (b := 61) (by omega) (by decide)).mp q)
    rw [if_neg a, if_neg b]
theorem pr_leaves {h : Hp} (r : Rel h) (o : Int32) : S5_leaves [.ref 0, .int o] h (fun rv h1 => S6_leaves [.ref 41, .int o] h1 (fun rw h2 => rw = rv ∧ Rel h2)) := by
  obtain ⟨g0, g1, g2, g3, g4⟩ := raw r
  by_cases c : 0 ≤ o ∧ o < h 1 6
  · obtain ⟨o8, hn, q1, q2, q3, q4⟩ := g4 o c.1 c.2
    have hI := r.1.2.1
    have key : ∀ h1, Fr8 h h1 → S6_leaves [.ref 41, .int o] h1 (fun rw h2 => rw = some (.int (if nI (fstT (vg h 1) (ix o) 8 61 0) = 61 then -3 else nI (fstT (vg h 1) (ix o) 8 61 0))) ∧ Rel h2) := by
      intro h1 f
      have r1 := Rel_8 r f
      have e42 : h1 42 = h 42 := f 42 (by omega)
      have iM := InvR_c r.1.1 hI
      have c2 : 0 ≤ o ∧ o < h 42 0 := by rw [← g0.1]; exact c
      have e1 := fstT_c r.1.1 hI hn 8 61 0
      have := fstT_le (vg h 1) (ix o) 8 61 0
      simp only [x6_leaves_0, x6_leaves_1, x6_leaves_2, x6_leaves_5, x6_leaves_8, x6_leaves_9, x6_leaves_10, x6_leaves_12, x6_leaves_14, x6_leaves_17, x6_leaves_20, x6_leaves_23, x6_leaves_24, i_ald, i_cS, i_cV, i_goto, i_ic, i_if_eq, i_ild, i_iret, oc_41, fv_41_0, fv_41_1, fv_41_2, fv_41_3, fv_41_4, ly_41_4, fv_41_5, fv_41_6, ly_41_6, fv_41_7, ly_41_7, fv_41_8, ly_41_8, fv_41_9, ly_41_9, fv_41_10, ly_41_10, fv_41_11, ly_41_11, fv_41_12, fv_41_13, fv_41_14, ly_41_14, fv_41_15, fv_41_16, fv_41_17, fv_41_18, fv_41_19, fv_41_20, fv_41_21, fv_41_22, ly_41_22, fv_41_23, ly_41_23, fv_41_24, ly_41_24, fv_41_25, ly_41_25, fv_41_26, ly_41_26, rd_42, al_42, rd_43, al_43, rd_44, al_44, rd_45, al_45, rd_46, al_46, rd_47, al_47, rd_48, al_48, rd_49, al_49, rd_50, al_50, rd_51, al_51, rd_52, al_52, rd_53, al_53, rd_54, al_54, rd_55, al_55, lck_0, lck_i, lck_r, lck_n, lck_l, csum_0, csum_i, csum_r, csum_l, pops_0, pops_s, psh_n, psh_s, List.getElem?_cons_zero, List.getElem?_cons_succ, List.set_cons_zero, List.set_cons_succ, true_and, and_true, Nat.reduceAdd, Nat.reduceLeDiff, S6_leaves, S6_isOne, S6_passesBy, S6_orNone, hsB_0, e42, c2, o8, iM, nn, ix60, ix, Nat.reduceAdd, false_implies, true_implies, implies_true, and_true, true_and, not_true_eq_false, not_false_eq_true]
      refine ⟨by decide, fun a => ?_⟩
      rw [orN _ (by rw [show (60 : Nat) + 1 = 61 from rfl, ← e1]; omega)]
      sorry
    simp only [x5_leaves_0, x5_leaves_1, x5_leaves_4, x5_leaves_5, x5_leaves_8, x5_leaves_11, x5_leaves_12, x5_leaves_13, x5_leaves_14, x5_leaves_15, x5_leaves_18, x5_leaves_21, i_ald, i_cS, i_cV, i_get, i_ic, i_if_ne, i_ild, i_iret, oc_0, fv_0_0, fv_0_1, fv_0_2, fv_0_3, ly_0_3, fv_0_4, fv_0_5, fv_0_6, ly_0_6, fv_0_7, fv_0_8, fv_0_9, oc_1, fv_1_0, fv_1_1, fv_1_2, fv_1_3, fv_1_4, fv_1_5, fv_1_6, ly_1_6, fv_1_7, ly_1_7, fv_1_8, ly_1_8, rd_2, al_2, rd_3, al_3, rd_4, al_4, rd_5, al_5, rd_6, al_6, rd_7, al_7, lck_0, lck_i, lck_r, lck_n, lck_l, csum_0, csum_i, csum_r, csum_l, pops_0, pops_s, psh_n, psh_s, List.getElem?_cons_zero, List.getElem?_cons_succ, List.set_cons_zero, List.set_cons_succ, true_and, and_true, Nat.reduceAdd, Nat.reduceLeDiff, S5_leaves, S1_has, S5_timeNow, S5_noneIfLate, GB_1, b2_0, c, nn, hI, false_implies, true_implies, implies_true, and_true, true_and, not_true_eq_false, not_false_eq_true]
    exact fun h1 f => key h1 f
  · have c2 : ¬ (0 ≤ o ∧ o < h 42 0) := by rw [← g0.1]; exact c
    simp only [x5_leaves_0, x5_leaves_1, x5_leaves_4, x5_leaves_5, x5_leaves_8, x5_leaves_11, x5_leaves_12, x5_leaves_13, x5_leaves_14, x5_leaves_15, x5_leaves_18, x5_leaves_21, i_ald, i_cS, i_cV, i_get, i_ic, i_if_ne, i_ild, i_iret, oc_0, fv_0_0, fv_0_1, fv_0_2, fv_0_3, ly_0_3, fv_0_4, fv_0_5, fv_0_6, ly_0_6, fv_0_7, fv_0_8, fv_0_9, oc_1, fv_1_0, fv_1_1, fv_1_2, fv_1_3, fv_1_4, fv_1_5, fv_1_6, ly_1_6, fv_1_7, ly_1_7, fv_1_8, ly_1_8, rd_2, al_2, rd_3, al_3, rd_4, al_4, rd_5, al_5, rd_6, al_6, rd_7, al_7, x6_leaves_0, x6_leaves_1, x6_leaves_2, x6_leaves_5, x6_leaves_8, x6_leaves_9, x6_leaves_10, x6_leaves_12, x6_leaves_14, x6_leaves_17, x6_leaves_20, x6_leaves_23, x6_leaves_24, i_goto, i_if_eq, oc_41, fv_41_0, fv_41_1, fv_41_2, fv_41_3, fv_41_4, ly_41_4, fv_41_5, fv_41_6, ly_41_6, fv_41_7, ly_41_7, fv_41_8, ly_41_8, fv_41_9, ly_41_9, fv_41_10, ly_41_10, fv_41_11, ly_41_11, fv_41_12, fv_41_13, fv_41_14, ly_41_14, fv_41_15, fv_41_16, fv_41_17, fv_41_18, fv_41_19, fv_41_20, fv_41_21, fv_41_22, ly_41_22, fv_41_23, ly_41_23, fv_41_24, ly_41_24, fv_41_25, ly_41_25, fv_41_26, ly_41_26, rd_42, al_42, rd_43, al_43, rd_44, al_44, rd_45, al_45, rd_46, al_46, rd_47, al_47, rd_48, al_48, rd_49, al_49, rd_50, al_50, rd_51, al_51, rd_52, al_52, rd_53, al_53, rd_54, al_54, rd_55, al_55, lck_0, lck_i, lck_r, lck_n, lck_l, csum_0, csum_i, csum_r, csum_l, pops_0, pops_s, psh_n, psh_s, List.getElem?_cons_zero, List.getElem?_cons_succ, List.set_cons_zero, List.set_cons_succ, true_and, and_true, Nat.reduceAdd, Nat.reduceLeDiff, S5_leaves, S6_leaves, S1_has, S5_timeNow, S5_noneIfLate, S6_isOne, S6_passesBy, S6_orNone, GB_1, hsB_0, b2_0, c, c2, nn, false_implies, true_implies, implies_true, not_true_eq_false, not_false_eq_true]
    exact r
