/-! pairs: the time till all are out, luck -/
def emT (G : GG) : Nat → Nat → Nat
  | 0, t => t
  | d + 1, t => if outG (occN G t) = G 0 6 then t else emT G d (t + 1)
theorem emT_le (G : GG) : ∀ d t, emT G d t ≤ t + d
  | 0, t => Nat.le_refl _
  | d + 1, t => by
    simp only [emT]
    split
    · omega
    · have := emT_le G d (t + 1)
      omega
theorem emT_c {G H : GG} (h : Geq G H) (hi : InvR G) : ∀ d t, emT G d t = emT H d t
  | 0, _ => rfl
  | d + 1, t => by
    simp only [emT]
    rw [outG_c (occN_c h hi t), h.1.1, emT_c h hi d (t + 1)]
def emA (t : Nat) : Int32 := if t ≤ 60 then nI t else -3
def S5_empty : Sp := fun av h Q => match av with | [.ref x] => Rn (T5_empty Q S1_copy S1_countOut S1_passOccasions) (0, [some (.ref x), none], [], h) | _ => False
theorem rn5_empty {h : Hp} {Q : Po} {x : Nat} (hS : S5_empty [.ref x] h Q) : Rn (T5_empty Q S1_copy S1_countOut S1_passOccasions) (0, [some (.ref x), none], [], h) := hS
def S6_empty : Sp := fun av h Q => match av with | [.ref x] => Rn (T6_empty Q S6_copyRow S6_thoseIn S6_size S6_goesOn S6_orNone) (0, [some (.ref x), none], [], h) | _ => False
theorem rn6_empty {h : Hp} {Q : Po} {x : Nat} (hS : S6_empty [.ref x] h Q) : Rn (T6_empty Q S6_copyRow S6_thoseIn S6_size S6_goesOn S6_orNone) (0, [some (.ref x), none], [], h) := hS
theorem lp5_empty {h : Hp} {Q : Po} {G : GG} (hI : InvR G) : ∀ d t, d + t = 61 → Q (some (.int (emA (emT G d t)))) (pg h 8 (occN G (emT G d t))) → Rn (T5_empty Q S1_copy S1_countOut S1_passOccasions) (13, [some (.ref 0), some (.int (nI t))], [], pg h 8 (occN G t))
  | 0, t, e, hQ => by
    have e : t = 61 := by omega
    subst e
    refine Rn_go C5_empty 60 ?_
    simp only [x5_empty_0, x5_empty_1, x5_empty_4, x5_empty_5, x5_empty_8, x5_empty_11, x5_empty_12, k5_empty_13, t5_empty_13, x5_empty_14, x5_empty_16, x5_empty_19, x5_empty_20, x5_empty_23, x5_empty_26, x5_empty_27, x5_empty_30, x5_empty_33, x5_empty_36, x5_empty_37, x5_empty_38, x5_empty_39, x5_empty_42, x5_empty_43, x5_empty_46, x5_empty_49, x5_empty_52, x5_empty_54, i_ald, i_cV, i_get, i_goto, i_ic, i_ic_gt, i_ic_ne, i_ild, i_inc, i_iret, i_ist, oc_0, fv_0_0, fv_0_1, fv_0_2, fv_0_3, ly_0_3, fv_0_4, fv_0_5, fv_0_6, ly_0_6, fv_0_7, fv_0_8, fv_0_9, oc_1, fv_1_0, fv_1_1, fv_1_2, fv_1_3, fv_1_4, fv_1_5, fv_1_6, ly_1_6, fv_1_7, ly_1_7, fv_1_8, ly_1_8, rd_2, al_2, rd_3, al_3, rd_4, al_4, rd_5, al_5, rd_6, al_6, rd_7, al_7, oc_8, fv_8_0, fv_8_1, fv_8_2, fv_8_3, fv_8_4, fv_8_5, fv_8_6, ly_8_6, fv_8_7, ly_8_7, fv_8_8, ly_8_8, rd_9, al_9, rd_10, al_10, rd_11, al_11, rd_12, al_12, rd_13, al_13, rd_14, al_14, lck_0, lck_i, lck_r, lck_n, lck_l, csum_0, csum_i, csum_r, csum_l, pops_0, pops_s, psh_n, psh_s, List.getElem?_cons_zero, List.getElem?_cons_succ, List.set_cons_zero, List.set_cons_succ, true_and, and_true, Nat.reduceAdd, Nat.reduceLeDiff]
    exact ⟨fun _ => hQ, fun c => absurd (by decide) c⟩
  | d + 1, t, e, hQ => by
    have hlt : ¬ 60 < nI t := (show ¬ nI 60 < nI t from nI_nlt (by omega) (by omega))
    have hG : occN G t 0 6 = G 0 6 := occN_6 _ _
    have hc : 0 ≤ G 0 6 ∧ G 0 6 ≤ 8 := hI.1
    by_cases c : outG (occN G t) = G 0 6
    · have e1 : emT G (d + 1) t = t := by rw [emT, if_pos c]
      rw [e1, emA, if_pos (by omega)] at hQ
      refine Rn_go C5_empty 60 ?_
      simp only [x5_empty_0, x5_empty_1, x5_empty_4, x5_empty_5, x5_empty_8, x5_empty_11, x5_empty_12, k5_empty_13, t5_empty_13, x5_empty_14, x5_empty_16, x5_empty_19, x5_empty_20, x5_empty_23, x5_empty_26, x5_empty_27, x5_empty_30, x5_empty_33, x5_empty_36, x5_empty_37, x5_empty_38, x5_empty_39, x5_empty_42, x5_empty_43, x5_empty_46, x5_empty_49, x5_empty_52, x5_empty_54, i_ald, i_cV, i_get, i_goto, i_ic, i_ic_gt, i_ic_ne, i_ild, i_inc, i_iret, i_ist, oc_0, fv_0_0, fv_0_1, fv_0_2, fv_0_3, ly_0_3, fv_0_4, fv_0_5, fv_0_6, ly_0_6, fv_0_7, fv_0_8, fv_0_9, oc_1, fv_1_0, fv_1_1, fv_1_2, fv_1_3, fv_1_4, fv_1_5, fv_1_6, ly_1_6, fv_1_7, ly_1_7, fv_1_8, ly_1_8, rd_2, al_2, rd_3, al_3, rd_4, al_4, rd_5, al_5, rd_6, al_6, rd_7, al_7, oc_8, fv_8_0, fv_8_1, fv_8_2, fv_8_3, fv_8_4, fv_8_5, fv_8_6, ly_8_6, fv_8_7, ly_8_7, fv_8_8, ly_8_8, rd_9, al_9, rd_10, al_10, rd_11, al_11, rd_12, al_12, rd_13, al_13, rd_14, al_14, lck_0, lck_i, lck_r, lck_n, lck_l, csum_0, csum_i, csum_r, csum_l, pops_0, pops_s, psh_n, psh_s, List.getElem?_cons_zero, List.getElem?_cons_succ, List.set_cons_zero, List.set_cons_succ, true_and, and_true, Nat.reduceAdd, Nat.reduceLeDiff, S1_countOut, S1_passOccasions, GB_8, pg8_0, hG, vg_pg, c]
      exact ⟨fun c => absurd c hlt, fun _ => ⟨hc, fun c => absurd trivial c, fun _ => hQ⟩⟩
    · have e1 : emT G (d + 1) t = emT G d (t + 1) := by rw [emT, if_neg c]
      rw [e1] at hQ
      have ih := lp5_empty hI d (t + 1) (by omega) hQ
      rw [← nI_1] at ih
      refine Rn_go C5_empty 60 ?_
      simp only [x5_empty_0, x5_empty_1, x5_empty_4, x5_empty_5, x5_empty_8, x5_empty_11, x5_empty_12, k5_empty_13, t5_empty_13, x5_empty_14, x5_empty_16, x5_empty_19, x5_empty_20, x5_empty_23, x5_empty_26, x5_empty_27, x5_empty_30, x5_empty_33, x5_empty_36, x5_empty_37, x5_empty_38, x5_empty_39, x5_empty_42, x5_empty_43, x5_empty_46, x5_empty_49, x5_empty_52, x5_empty_54, i_ald, i_cV, i_get, i_goto, i_ic, i_ic_gt, i_ic_ne, i_ild, i_inc, i_iret, i_ist, oc_0, fv_0_0, fv_0_1, fv_0_2, fv_0_3, ly_0_3, fv_0_4, fv_0_5, fv_0_6, ly_0_6, fv_0_7, fv_0_8, fv_0_9, oc_1, fv_1_0, fv_1_1, fv_1_2, fv_1_3, fv_1_4, fv_1_5, fv_1_6, ly_1_6, fv_1_7, ly_1_7, fv_1_8, ly_1_8, rd_2, al_2, rd_3, al_3, rd_4, al_4, rd_5, al_5, rd_6, al_6, rd_7, al_7, oc_8, fv_8_0, fv_8_1, fv_8_2, fv_8_3, fv_8_4, fv_8_5, fv_8_6, ly_8_6, fv_8_7, ly_8_7, fv_8_8, ly_8_8, rd_9, al_9, rd_10, al_10, rd_11, al_11, rd_12, al_12, rd_13, al_13, rd_14, al_14, lck_0, lck_i, lck_r, lck_n, lck_l, csum_0, csum_i, csum_r, csum_l, pops_0, pops_s, psh_n, psh_s, List.getElem?_cons_zero, List.getElem?_cons_succ, List.set_cons_zero, List.set_cons_succ, true_and, and_true, Nat.reduceAdd, Nat.reduceLeDiff, S1_countOut, S1_passOccasions, GB_8, pg8_0, hG, vg_pg, pg_pg, ix1, ix, occN_1]
      exact ⟨fun c => absurd c hlt, fun _ => ⟨hc, fun _ => ⟨by decide, hc, ih⟩, fun c2 => absurd c2 c⟩⟩
theorem emA_or {t : Nat} (ht : t ≤ 61) : (if 60 < nI t then (-3 : Int32) else nI t) = emA t := by
  unfold emA
  by_cases c : t = 61
  · subst c; rfl
  · rw [if_neg (show ¬ 60 < nI t from (show ¬ nI 60 < nI t from nI_nlt (by omega) (by omega))), if_pos (by omega)]
theorem lp6_empty {h : Hp} {Q : Po} (hI : InvR (mv (h 42))) : ∀ d t, d + t = 61 → (∀ a, Q (some (.int (emA (emT (mv (h 42)) d t)))) (upA h 44 a)) → ∀ s : Nat → Int32, mv s = occN (mv (h 42)) t → (∀ k, 47 ≤ k → s k = h 42 k) → Rn (T6_empty Q S6_copyRow S6_thoseIn S6_size S6_goesOn S6_orNone) (13, [some (.ref 41), some (.int (nI t))], [], upA (upA h 44 (cp47 (h 42) (h 44))) 42 s)
  | 0, t, e, hQ, s, hs, hh => by
    have e : t = 61 := by omega
    subst e
    have nx := hQ (cp47 (h 42) (h 44))
    have hb := back42 hh
    refine Rn_go C6_empty 60 ?_
    simp only [x6_empty_0, x6_empty_1, x6_empty_4, x6_empty_5, x6_empty_8, x6_empty_11, x6_empty_12, k6_empty_13, t6_empty_13, x6_empty_14, x6_empty_16, x6_empty_19, x6_empty_20, x6_empty_22, x6_empty_25, x6_empty_28, x6_empty_29, x6_empty_32, x6_empty_33, x6_empty_34, x6_empty_37, x6_empty_38, x6_empty_41, x6_empty_44, x6_empty_47, x6_empty_48, x6_empty_51, x6_empty_52, x6_empty_55, x6_empty_58, x6_empty_59, x6_empty_62, i_ald, i_cS, i_cV, i_get, i_goto, i_iald, i_ic, i_ic_ge, i_ic_gt, i_ild, i_inc, i_iret, i_ist, oc_41, fv_41_0, fv_41_1, fv_41_2, fv_41_3, fv_41_4, ly_41_4, fv_41_5, fv_41_6, ly_41_6, fv_41_7, ly_41_7, fv_41_8, ly_41_8, fv_41_9, ly_41_9, fv_41_10, ly_41_10, fv_41_11, ly_41_11, fv_41_12, fv_41_13, fv_41_14, ly_41_14, fv_41_15, fv_41_16, fv_41_17, fv_41_18, fv_41_19, fv_41_20, fv_41_21, fv_41_22, ly_41_22, fv_41_23, ly_41_23, fv_41_24, ly_41_24, fv_41_25, ly_41_25, fv_41_26, ly_41_26, rd_42, al_42, rd_43, al_43, rd_44, al_44, rd_45, al_45, rd_46, al_46, rd_47, al_47, rd_48, al_48, rd_49, al_49, rd_50, al_50, rd_51, al_51, rd_52, al_52, rd_53, al_53, rd_54, al_54, rd_55, al_55, lck_0, lck_i, lck_r, lck_n, lck_l, csum_0, csum_i, csum_r, csum_l, pops_0, pops_s, psh_n, psh_s, List.getElem?_cons_zero, List.getElem?_cons_succ, List.set_cons_zero, List.set_cons_succ, true_and, and_true, Nat.reduceAdd, Nat.reduceLeDiff, S6_copyRow, S6_orNone, RW_b, upA_44, upA_42, hb, upA_sw]
    exact ⟨fun _ => nx, fun c => absurd (by decide) c⟩
  | d + 1, t, e, hQ, s, hs, hh => by
    have hlt : ¬ 60 < nI t := (show ¬ nI 60 < nI t from nI_nlt (by omega) (by omega))
    have hb := back42 hh
    have hIt := inv_occN hI t
    have hle := out_le hIt
    have ec : occN (mv (h 42)) t 0 6 = h 42 0 := occN_6 _ _
    rw [ec] at hle
    have o1 : pc8 (thG (mv s) 8 (nG (mv s))) = outG (occN (mv (h 42)) t) := by rw [← hs]; rfl
    have n8 : nG (mv s) ≤ 8 := by rw [hs]; exact nG_8 hIt
    have t8 := thG_256 (mv s) 8 n8
    have s0 : s 0 = h 42 0 := by rw [← ec, ← hs]; rfl
    rw [← hs] at hIt
    have hc : 0 ≤ h 42 0 ∧ h 42 0 ≤ 8 := hI.1
    by_cases c : outG (occN (mv (h 42)) t) = mv (h 42) 0 6
    · have e1 : emT (mv (h 42)) (d + 1) t = t := by rw [emT, if_pos c]
      have nx := hQ (cp47 (h 42) (h 44))
      rw [e1, emA, if_pos (by omega)] at nx
      refine Rn_go C6_empty 60 ?_
      simp only [x6_empty_0, x6_empty_1, x6_empty_4, x6_empty_5, x6_empty_8, x6_empty_11, x6_empty_12, k6_empty_13, t6_empty_13, x6_empty_14, x6_empty_16, x6_empty_19, x6_empty_20, x6_empty_22, x6_empty_25, x6_empty_28, x6_empty_29, x6_empty_32, x6_empty_33, x6_empty_34, x6_empty_37, x6_empty_38, x6_empty_41, x6_empty_44, x6_empty_47, x6_empty_48, x6_empty_51, x6_empty_52, x6_empty_55, x6_empty_58, x6_empty_59, x6_empty_62, i_ald, i_cS, i_cV, i_get, i_goto, i_iald, i_ic, i_ic_ge, i_ic_gt, i_ild, i_inc, i_iret, i_ist, oc_41, fv_41_0, fv_41_1, fv_41_2, fv_41_3, fv_41_4, ly_41_4, fv_41_5, fv_41_6, ly_41_6, fv_41_7, ly_41_7, fv_41_8, ly_41_8, fv_41_9, ly_41_9, fv_41_10, ly_41_10, fv_41_11, ly_41_11, fv_41_12, fv_41_13, fv_41_14, ly_41_14, fv_41_15, fv_41_16, fv_41_17, fv_41_18, fv_41_19, fv_41_20, fv_41_21, fv_41_22, ly_41_22, fv_41_23, ly_41_23, fv_41_24, ly_41_24, fv_41_25, ly_41_25, fv_41_26, ly_41_26, rd_42, al_42, rd_43, al_43, rd_44, al_44, rd_45, al_45, rd_46, al_46, rd_47, al_47, rd_48, al_48, rd_49, al_49, rd_50, al_50, rd_51, al_51, rd_52, al_52, rd_53, al_53, rd_54, al_54, rd_55, al_55, lck_0, lck_i, lck_r, lck_n, lck_l, csum_0, csum_i, csum_r, csum_l, pops_0, pops_s, psh_n, psh_s, List.getElem?_cons_zero, List.getElem?_cons_succ, List.set_cons_zero, List.set_cons_succ, true_and, and_true, Nat.reduceAdd, Nat.reduceLeDiff, S6_copyRow, S6_thoseIn, S6_size, S6_goesOn, S6_orNone, RW_b, upA_44, upA_42, hb, upA_sw, v47, w47, ix0, s0, o1, hlt, if_false]
      exact ⟨fun c => c.elim, fun _ => ⟨hc, t8, fun _ => nx, fun c2 => absurd (by rw [c]; exact Int32.le_refl _) c2⟩⟩
    · have e1 : emT (mv (h 42)) (d + 1) t = emT (mv (h 42)) d (t + 1) := by rw [emT, if_neg c]
      rw [e1] at hQ
      have ih := fun s1 h1 h2 => lp6_empty hI d (t + 1) (by omega) hQ s1 h1 h2
      simp only [← nI_1] at ih
      have c2 : ¬ h 42 0 ≤ outG (occN (mv (h 42)) t) := fun q => c (Int32.le_antisymm hle q)
      refine Rn_go C6_empty 60 ?_
      simp only [x6_empty_0, x6_empty_1, x6_empty_4, x6_empty_5, x6_empty_8, x6_empty_11, x6_empty_12, k6_empty_13, t6_empty_13, x6_empty_14, x6_empty_16, x6_empty_19, x6_empty_20, x6_empty_22, x6_empty_25, x6_empty_28, x6_empty_29, x6_empty_32, x6_empty_33, x6_empty_34, x6_empty_37, x6_empty_38, x6_empty_41, x6_empty_44, x6_empty_47, x6_empty_48, x6_empty_51, x6_empty_52, x6_empty_55, x6_empty_58, x6_empty_59, x6_empty_62, i_ald, i_cS, i_cV, i_get, i_goto, i_iald, i_ic, i_ic_ge, i_ic_gt, i_ild, i_inc, i_iret, i_ist, oc_41, fv_41_0, fv_41_1, fv_41_2, fv_41_3, fv_41_4, ly_41_4, fv_41_5, fv_41_6, ly_41_6, fv_41_7, ly_41_7, fv_41_8, ly_41_8, fv_41_9, ly_41_9, fv_41_10, ly_41_10, fv_41_11, ly_41_11, fv_41_12, fv_41_13, fv_41_14, ly_41_14, fv_41_15, fv_41_16, fv_41_17, fv_41_18, fv_41_19, fv_41_20, fv_41_21, fv_41_22, ly_41_22, fv_41_23, ly_41_23, fv_41_24, ly_41_24, fv_41_25, ly_41_25, fv_41_26, ly_41_26, rd_42, al_42, rd_43, al_43, rd_44, al_44, rd_45, al_45, rd_46, al_46, rd_47, al_47, rd_48, al_48, rd_49, al_49, rd_50, al_50, rd_51, al_51, rd_52, al_52, rd_53, al_53, rd_54, al_54, rd_55, al_55, lck_0, lck_i, lck_r, lck_n, lck_l, csum_0, csum_i, csum_r, csum_l, pops_0, pops_s, psh_n, psh_s, List.getElem?_cons_zero, List.getElem?_cons_succ, List.set_cons_zero, List.set_cons_succ, true_and, and_true, Nat.reduceAdd, Nat.reduceLeDiff, S6_copyRow, S6_thoseIn, S6_size, S6_goesOn, S6_orNone, RW_b, upA_44, upA_42, hb, upA_sw, upA_same, v47, w47, ix0, s0, o1]
      refine ⟨fun c => absurd c hlt, fun _ => ⟨hc, t8, fun q => absurd q c2, fun _ => ⟨hIt, fun s1 x1 x2 => ?_⟩⟩⟩
      exact ih s1 (by rw [x1, hs, occN]) (fun k hk => by rw [x2 k hk]; exact hh k hk)
theorem upA_4442b (h : Hp) (f : Nat → Int32) : upA (upA h 44 f) 42 (h 42) = upA h 44 f := by
  funext a b; simp only [upA]; grind
theorem pr_empty {h : Hp} (r : Rel h)  : S5_empty [.ref 0] h (fun rv h1 => S6_empty [.ref 41] h1 (fun rw h2 => rw = rv ∧ Rel h2)) := by
  have hI := r.1.2.1
  have iM := InvR_c r.1.1 hI
  obtain ⟨eC, iC⟩ := cp8 h hI
  have e1 := emT_c (eC.trans r.1.1) iC 61 0
  have fin : ∀ t, S6_empty [.ref 41] (pg h 8 (occN (cpG (vg h 8) (vg h 1)) t)) (fun rw h2 => rw = some (.int (emA (emT (mv (h 42)) 61 0))) ∧ Rel h2) := by
    intro t
    have fr := Fr8_occ h (vg h 1) t
    have e42 : pg h 8 (occN (cpG (vg h 8) (vg h 1)) t) 42 = h 42 := fr 42 (by omega)
    have r1 := Rel_8 r fr
    have := lp6_empty (h := pg h 8 (occN (cpG (vg h 8) (vg h 1)) t)) (by rw [e42]; exact iM) (Q := fun rw h2 => rw = some (.int (emA (emT (mv (h 42)) 61 0))) ∧ Rel h2) 61 0 (by omega) (fun a => ⟨by rw [e42], Rel_44 r1 a⟩) _ rfl (fun _ _ => rfl)
    rw [upA_4442b] at this
    refine Rn_in C6_empty 60 ?_
    simp only [x6_empty_0, x6_empty_1, x6_empty_4, x6_empty_5, x6_empty_8, x6_empty_11, x6_empty_12, k6_empty_13, t6_empty_13, x6_empty_14, x6_empty_16, x6_empty_19, x6_empty_20, x6_empty_22, x6_empty_25, x6_empty_28, x6_empty_29, x6_empty_32, x6_empty_33, x6_empty_34, x6_empty_37, x6_empty_38, x6_empty_41, x6_empty_44, x6_empty_47, x6_empty_48, x6_empty_51, x6_empty_52, x6_empty_55, x6_empty_58, x6_empty_59, x6_empty_62, i_ald, i_cS, i_cV, i_get, i_goto, i_iald, i_ic, i_ic_ge, i_ic_gt, i_ild, i_inc, i_iret, i_ist, oc_41, fv_41_0, fv_41_1, fv_41_2, fv_41_3, fv_41_4, ly_41_4, fv_41_5, fv_41_6, ly_41_6, fv_41_7, ly_41_7, fv_41_8, ly_41_8, fv_41_9, ly_41_9, fv_41_10, ly_41_10, fv_41_11, ly_41_11, fv_41_12, fv_41_13, fv_41_14, ly_41_14, fv_41_15, fv_41_16, fv_41_17, fv_41_18, fv_41_19, fv_41_20, fv_41_21, fv_41_22, ly_41_22, fv_41_23, ly_41_23, fv_41_24, ly_41_24, fv_41_25, ly_41_25, fv_41_26, ly_41_26, rd_42, al_42, rd_43, al_43, rd_44, al_44, rd_45, al_45, rd_46, al_46, rd_47, al_47, rd_48, al_48, rd_49, al_49, rd_50, al_50, rd_51, al_51, rd_52, al_52, rd_53, al_53, rd_54, al_54, rd_55, al_55, lck_0, lck_i, lck_r, lck_n, lck_l, csum_0, csum_i, csum_r, csum_l, pops_0, pops_s, psh_n, psh_s, List.getElem?_cons_zero, List.getElem?_cons_succ, List.set_cons_zero, List.set_cons_succ, true_and, and_true, Nat.reduceAdd, Nat.reduceLeDiff, S6_copyRow, RW_a]
    exact this
  have := lp5_empty (h := h) iC (Q := fun rv h1 => S6_empty [.ref 41] h1 (fun rw h2 => rw = rv ∧ Rel h2)) 61 0 (by omega) (by rw [e1]; exact fin _)
  refine Rn_in C5_empty 60 ?_
  simp only [x5_empty_0, x5_empty_1, x5_empty_4, x5_empty_5, x5_empty_8, x5_empty_11, x5_empty_12, k5_empty_13, t5_empty_13, x5_empty_14, x5_empty_16, x5_empty_19, x5_empty_20, x5_empty_23, x5_empty_26, x5_empty_27, x5_empty_30, x5_empty_33, x5_empty_36, x5_empty_37, x5_empty_38, x5_empty_39, x5_empty_42, x5_empty_43, x5_empty_46, x5_empty_49, x5_empty_52, x5_empty_54, i_ald, i_cV, i_get, i_goto, i_ic, i_ic_gt, i_ic_ne, i_ild, i_inc, i_iret, i_ist, oc_0, fv_0_0, fv_0_1, fv_0_2, fv_0_3, ly_0_3, fv_0_4, fv_0_5, fv_0_6, ly_0_6, fv_0_7, fv_0_8, fv_0_9, oc_1, fv_1_0, fv_1_1, fv_1_2, fv_1_3, fv_1_4, fv_1_5, fv_1_6, ly_1_6, fv_1_7, ly_1_7, fv_1_8, ly_1_8, rd_2, al_2, rd_3, al_3, rd_4, al_4, rd_5, al_5, rd_6, al_6, rd_7, al_7, oc_8, fv_8_0, fv_8_1, fv_8_2, fv_8_3, fv_8_4, fv_8_5, fv_8_6, ly_8_6, fv_8_7, ly_8_7, fv_8_8, ly_8_8, rd_9, al_9, rd_10, al_10, rd_11, al_11, rd_12, al_12, rd_13, al_13, rd_14, al_14, lck_0, lck_i, lck_r, lck_n, lck_l, csum_0, csum_i, csum_r, csum_l, pops_0, pops_s, psh_n, psh_s, List.getElem?_cons_zero, List.getElem?_cons_succ, List.set_cons_zero, List.set_cons_succ, true_and, and_true, Nat.reduceAdd, Nat.reduceLeDiff, S1_copy, CP_81]
  exact this
/-! luck -/
def lkF (G : GG) (pl : Int32) : Nat → Int32 × Int32
  | 0 => (G 0 8, 0)
  | j + 1 => (drwG (up2 G 0 8 (lkF G pl j).1) 0 8, if pl < outG (drwG (up2 G 0 8 (lkF G pl j).1)) then (lkF G pl j).2 + 1 else (lkF G pl j).2)
theorem InvR_08 {G : GG} (h : InvR G) (z : Int32) : InvR (up2 G 0 8 z) := by
  refine ⟨by simp [up2]; exact h.1, fun i hi => ?_⟩
  rw [upd_count (by decide)] at hi
  simp [up2]
  exact h.2 i hi
theorem lkF_c {G H : GG} (h : Geq G H) (hi : InvR G) (pl : Int32) : ∀ j, lkF G pl j = lkF H pl j
  | 0 => by simp only [lkF]; rw [h.1.2.2]
  | j + 1 => by
    have g := drwG_c (Geq_up h 8 (lkF H pl j).1 (j := 0) (by decide)) (InvR_08 hi _)
    simp only [lkF]
    rw [lkF_c h hi pl j, g.1.2.2, outG_c g]
theorem snz_hi (G : GG) {j : Nat} (hj : 6 < j) : snzG G j = G j := by
  unfold snzG
  split
  · split
    · rw [up2_ne (by omega), up2_ne (by omega)]
    · rw [up2_ne (by omega)]
  · rfl
theorem drw_hi (G : GG) {j : Nat} (hj : 6 < j) : drwG G j = G j := by
  rw [drwG, occ_hi _ ⟨by omega, by omega, by omega⟩, snz_hi _ hj]
theorem drw_6 (G : GG) : drwG G 0 6 = G 0 6 := by
  rw [drwG, occ_6]
  unfold snzG
  split
  · split
    · rw [up2_ne (by omega), up2_at]; simp
    · rw [up2_at]; simp
  · rfl
theorem cpG_pg (D : GG) (h : Hp) (G : GG) : cpG D (vg (pg h 8 G) 1) = cpG D (vg h 1) := by
  have e : ∀ j, j ≤ 6 → vg (pg h 8 G) 1 j = vg h 1 j := fun j hj => by
    funext k; simp only [vg]; rw [pg_lt _ _ (by omega)]
  unfold cpG
  rw [e 0 (by omega), e 1 (by omega), e 2 (by omega), e 3 (by omega), e 4 (by omega), e 5 (by omega), e 6 (by omega)]
theorem up8_0 (h : Hp) (k : Nat) (G : GG) (x : Int32) : up2 (pg h 8 G) 8 k x = pg h 8 (up2 G 0 k x) := up2_pg h 8 0 k G x
theorem up8_1 (h : Hp) (k : Nat) (G : GG) (x : Int32) : up2 (pg h 8 G) 9 k x = pg h 8 (up2 G 1 k x) := up2_pg h 8 1 k G x
theorem up8_2 (h : Hp) (k : Nat) (G : GG) (x : Int32) : up2 (pg h 8 G) 10 k x = pg h 8 (up2 G 2 k x) := up2_pg h 8 2 k G x
theorem up8_3 (h : Hp) (k : Nat) (G : GG) (x : Int32) : up2 (pg h 8 G) 11 k x = pg h 8 (up2 G 3 k x) := up2_pg h 8 3 k G x
theorem up8_4 (h : Hp) (k : Nat) (G : GG) (x : Int32) : up2 (pg h 8 G) 12 k x = pg h 8 (up2 G 4 k x) := up2_pg h 8 4 k G x
theorem up8_5 (h : Hp) (k : Nat) (G : GG) (x : Int32) : up2 (pg h 8 G) 13 k x = pg h 8 (up2 G 5 k x) := up2_pg h 8 5 k G x
theorem up8_6 (h : Hp) (k : Nat) (G : GG) (x : Int32) : up2 (pg h 8 G) 14 k x = pg h 8 (up2 G 6 k x) := up2_pg h 8 6 k G x
theorem pg8_1 (h : Hp) (G : GG) : pg h 8 G 1 = h 1 := pg_lt h G (by omega)
/-- a cell area that only the tries use -/
def Hi8 (h : Hp) (G : GG) : Prop := ∀ j, 6 < j → G j = vg h 8 j
theorem Hi8_cp {h : Hp} (D S : GG) (hD : Hi8 h D) : Hi8 h (cpG D S) := fun j hj => by rw [cpG_hi _ _ hj, hD j hj]
theorem Hi8_0 (h : Hp) : Hi8 h (vg h 8) := fun _ _ => rfl
theorem Hi8_up {h : Hp} {G : GG} (hG : Hi8 h G) {a : Nat} (k : Nat) (v : Int32) (ha : a ≤ 6) : Hi8 h (up2 G a k v) := fun j hj => by rw [up2_ne (by omega), hG j hj]
theorem Hi8_occ {h : Hp} {G : GG} (hG : Hi8 h G) (n : Nat) : Hi8 h (occN G n) := fun j hj => by rw [occN_hi6 _ _ hj, hG j hj]
theorem Hi8_occ1 {h : Hp} {G : GG} (hG : Hi8 h G) : Hi8 h (occG G) := Hi8_occ hG 1
theorem Hi8_drw {h : Hp} {G : GG} (hG : Hi8 h G) : Hi8 h (drwG G) := fun j hj => by rw [drw_hi _ hj, hG j hj]
theorem Hi8_fr {h : Hp} {G : GG} (hG : Hi8 h G) : Fr8 h (pg h 8 G) := Fr8_pg hG
theorem cp8D {h : Hp} (D : GG) (hI : InvR (vg h 1)) : Geq (cpG D (vg h 1)) (vg h 1) ∧ InvR (cpG D (vg h 1)) := by
  have e := cpG_c D (vg h 1) (nG_8 hI)
  exact ⟨e, InvR_c e.symm hI⟩
def S5_luck : Sp := fun av h Q => match av with | [.ref x, .int n] => Rn (T5_luck Q S1_copy S1_passOccasions S1_countOut S1_passByDraws) (0, [some (.ref x), some (.int n), none, none, none, none], [], h) | _ => False
theorem rn5_luck {h : Hp} {Q : Po} {x : Nat} {n : Int32} (hS : S5_luck [.ref x, .int n] h Q) : Rn (T5_luck Q S1_copy S1_passOccasions S1_countOut S1_passByDraws) (0, [some (.ref x), some (.int n), none, none, none, none], [], h) := hS
def S6_luck : Sp := fun av h Q => match av with | [.ref x, .int n] => Rn (T6_luck Q S6_isIn S6_copyRow S6_goesOn S6_thoseIn S6_size S6_occasion) (0, [some (.ref x), some (.int n), none, none, none, none], [], h) | _ => False
theorem rn6_luck {h : Hp} {Q : Po} {x : Nat} {n : Int32} (hS : S6_luck [.ref x, .int n] h Q) : Rn (T6_luck Q S6_isIn S6_copyRow S6_goesOn S6_thoseIn S6_size S6_occasion) (0, [some (.ref x), some (.int n), none, none, none, none], [], h) := hS
theorem lp5_luck {h : Hp} {Q : Po} (hI : InvR (vg h 1)) {pl : Int32} {n : Nat} (hn : n ≤ 30) (hQ : ∀ h1, Fr8 h h1 → Q (some (.int (lkF (vg h 1) pl n).2)) h1) : ∀ d j, d + j = n → ∀ G, Hi8 h G → Rn (T5_luck Q S1_copy S1_passOccasions S1_countOut S1_passByDraws) (54, [some (.ref 0), some (.int (nI n)), some (.int pl), some (.int (lkF (vg h 1) pl j).2), some (.int (lkF (vg h 1) pl j).1), some (.int (nI j))], [], pg h 8 G)
  | 0, j, e, G, hG => by
    have e : j = n := by omega
    subst e
    have nx := hQ _ (Hi8_fr hG)
    refine Rn_go C5_luck 60 ?_
    simp only [x5_luck_0, x5_luck_1, x5_luck_2, x5_luck_5, x5_luck_6, x5_luck_8, x5_luck_11, x5_luck_12, x5_luck_13, x5_luck_14, x5_luck_17, x5_luck_18, x5_luck_21, x5_luck_24, x5_luck_25, x5_luck_28, x5_luck_29, x5_luck_32, x5_luck_33, x5_luck_36, x5_luck_39, x5_luck_40, x5_luck_41, x5_luck_42, x5_luck_43, x5_luck_46, x5_luck_49, x5_luck_51, x5_luck_52, k5_luck_54, t5_luck_54, x5_luck_56, x5_luck_57, x5_luck_60, x5_luck_61, x5_luck_64, x5_luck_65, x5_luck_68, x5_luck_71, x5_luck_72, x5_luck_75, x5_luck_77, x5_luck_80, x5_luck_81, x5_luck_84, x5_luck_87, x5_luck_88, x5_luck_91, x5_luck_94, x5_luck_96, x5_luck_97, x5_luck_100, x5_luck_103, x5_luck_104, x5_luck_107, x5_luck_110, x5_luck_113, x5_luck_116, x5_luck_117, i_ald, i_cV, i_get, i_goto, i_ic, i_ic_ge, i_ic_le, i_ic_lt, i_ild, i_inc, i_iret, i_ist, i_put, oc_0, fv_0_0, fv_0_1, fv_0_2, fv_0_3, ly_0_3, fv_0_4, fv_0_5, fv_0_6, ly_0_6, fv_0_7, fv_0_8, fv_0_9, oc_1, fv_1_0, fv_1_1, fv_1_2, fv_1_3, fv_1_4, fv_1_5, fv_1_6, ly_1_6, fv_1_7, ly_1_7, fv_1_8, ly_1_8, rd_2, al_2, rd_3, al_3, rd_4, al_4, rd_5, al_5, rd_6, al_6, rd_7, al_7, oc_8, fv_8_0, fv_8_1, fv_8_2, fv_8_3, fv_8_4, fv_8_5, fv_8_6, ly_8_6, fv_8_7, ly_8_7, fv_8_8, ly_8_8, rd_9, al_9, rd_10, al_10, rd_11, al_11, rd_12, al_12, rd_13, al_13, rd_14, al_14, lck_0, lck_i, lck_r, lck_n, lck_l, csum_0, csum_i, csum_r, csum_l, pops_0, pops_s, psh_n, psh_s, List.getElem?_cons_zero, List.getElem?_cons_succ, List.set_cons_zero, List.set_cons_succ, true_and, and_true, Nat.reduceAdd, Nat.reduceLeDiff]
    exact ⟨fun _ => nx, fun c => absurd (Int32.le_refl _) c⟩
  | d + 1, j, e, G, hG => by
    have ih := lp5_luck hI hn hQ d (j + 1) (by omega)
    rw [← nI_1] at ih
    have hlt : ¬ nI n ≤ nI j := nI_ge (by omega) (by omega)
    obtain ⟨eC, iC⟩ := cp8D (h := h) G hI
    have g := drwG_c (Geq_up eC 8 (lkF (vg h 1) pl j).1 (j := 0) (by decide)) (InvR_08 iC _)
    have hD : Hi8 h (drwG (up2 (cpG G (vg h 1)) 0 8 (lkF (vg h 1) pl j).1)) := Hi8_drw (Hi8_up (Hi8_cp _ _ hG) _ _ (by decide))
    have nx := ih _ hD
    simp only [lkF] at nx
    have c8 : 0 ≤ cpG G (vg h 1) 0 6 ∧ cpG G (vg h 1) 0 6 ≤ 8 := iC.1
    have d8 : 0 ≤ drwG (up2 (cpG G (vg h 1)) 0 8 (lkF (vg h 1) pl j).1) 0 6 ∧ drwG (up2 (cpG G (vg h 1)) 0 8 (lkF (vg h 1) pl j).1) 0 6 ≤ 8 := by
      rw [drw_6]; simp [up2]; exact c8
    have u06 : ∀ z, up2 (cpG G (vg h 1)) 0 8 z 0 6 = cpG G (vg h 1) 0 6 := fun z => by simp [up2]
    have o1 := outG_c g
    have e8 := g.1.2.2
    rw [← o1, ← e8] at nx
    refine Rn_go C5_luck 60 ?_
    simp only [x5_luck_0, x5_luck_1, x5_luck_2, x5_luck_5, x5_luck_6, x5_luck_8, x5_luck_11, x5_luck_12, x5_luck_13, x5_luck_14, x5_luck_17, x5_luck_18, x5_luck_21, x5_luck_24, x5_luck_25, x5_luck_28, x5_luck_29, x5_luck_32, x5_luck_33, x5_luck_36, x5_luck_39, x5_luck_40, x5_luck_41, x5_luck_42, x5_luck_43, x5_luck_46, x5_luck_49, x5_luck_51, x5_luck_52, k5_luck_54, t5_luck_54, x5_luck_56, x5_luck_57, x5_luck_60, x5_luck_61, x5_luck_64, x5_luck_65, x5_luck_68, x5_luck_71, x5_luck_72, x5_luck_75, x5_luck_77, x5_luck_80, x5_luck_81, x5_luck_84, x5_luck_87, x5_luck_88, x5_luck_91, x5_luck_94, x5_luck_96, x5_luck_97, x5_luck_100, x5_luck_103, x5_luck_104, x5_luck_107, x5_luck_110, x5_luck_113, x5_luck_116, x5_luck_117, i_ald, i_cV, i_get, i_goto, i_ic, i_ic_ge, i_ic_le, i_ic_lt, i_ild, i_inc, i_iret, i_ist, i_put, oc_0, fv_0_0, fv_0_1, fv_0_2, fv_0_3, ly_0_3, fv_0_4, fv_0_5, fv_0_6, ly_0_6, fv_0_7, fv_0_8, fv_0_9, oc_1, fv_1_0, fv_1_1, fv_1_2, fv_1_3, fv_1_4, fv_1_5, fv_1_6, ly_1_6, fv_1_7, ly_1_7, fv_1_8, ly_1_8, rd_2, al_2, rd_3, al_3, rd_4, al_4, rd_5, al_5, rd_6, al_6, rd_7, al_7, oc_8, fv_8_0, fv_8_1, fv_8_2, fv_8_3, fv_8_4, fv_8_5, fv_8_6, ly_8_6, fv_8_7, ly_8_7, fv_8_8, ly_8_8, rd_9, al_9, rd_10, al_10, rd_11, al_11, rd_12, al_12, rd_13, al_13, rd_14, al_14, lck_0, lck_i, lck_r, lck_n, lck_l, csum_0, csum_i, csum_r, csum_l, pops_0, pops_s, psh_n, psh_s, List.getElem?_cons_zero, List.getElem?_cons_succ, List.set_cons_zero, List.set_cons_succ, true_and, and_true, Nat.reduceAdd, Nat.reduceLeDiff, S1_copy, S1_passByDraws, S1_countOut, CP_81, GB_8, cpG_pg, pg8_0, vg_pg, pg_pg, up8_0, u06]
    refine ⟨fun c => absurd c hlt, fun _ => ⟨c8, d8, fun c => ?_, fun c => ?_⟩⟩
    · rw [if_neg (Int32.not_lt.mpr c)] at nx
      exact nx
    · rw [if_pos (Int32.not_le.mp c)] at nx
      exact nx
theorem lp6_luck {h : Hp} {Q : Po} (hI : InvR (mv (h 42))) {pl : Int32} {n : Nat} (hn : n ≤ 30) (hQ : ∀ a, Q (some (.int (lkF (mv (h 42)) pl n).2)) (upA h 44 a)) : ∀ d j, d + j = n → ∀ s : Nat → Int32, (∀ k, 47 ≤ k → s k = h 42 k) → Rn (T6_luck Q S6_isIn S6_copyRow S6_goesOn S6_thoseIn S6_size S6_occasion) (52, [some (.ref 41), some (.int (nI n)), some (.int pl), some (.int (lkF (mv (h 42)) pl j).1), some (.int (lkF (mv (h 42)) pl j).2), some (.int (nI j))], [], upA (upA h 44 (cp47 (h 42) (h 44))) 42 s)
  | 0, j, e, s, hh => by
    have e : j = n := by omega
    subst e
    have nx := hQ (cp47 (h 42) (h 44))
    have hb := back42 hh
    refine Rn_go C6_luck 60 ?_
    simp only [x6_luck_0, x6_luck_1, x6_luck_2, x6_luck_3, x6_luck_6, x6_luck_9, x6_luck_12, x6_luck_13, x6_luck_14, x6_luck_15, x6_luck_18, x6_luck_19, x6_luck_22, x6_luck_25, x6_luck_26, x6_luck_29, x6_luck_30, x6_luck_32, x6_luck_35, x6_luck_38, x6_luck_39, x6_luck_40, x6_luck_43, x6_luck_44, x6_luck_45, x6_luck_46, x6_luck_47, x6_luck_49, x6_luck_50, k6_luck_52, t6_luck_52, x6_luck_54, x6_luck_55, x6_luck_58, x6_luck_59, x6_luck_62, x6_luck_63, x6_luck_66, x6_luck_69, x6_luck_70, x6_luck_73, x6_luck_74, x6_luck_75, x6_luck_76, x6_luck_78, x6_luck_79, x6_luck_82, x6_luck_83, x6_luck_86, x6_luck_87, x6_luck_90, x6_luck_91, x6_luck_92, x6_luck_94, x6_luck_95, x6_luck_98, x6_luck_99, x6_luck_100, x6_luck_101, x6_luck_104, x6_luck_107, x6_luck_108, x6_luck_111, x6_luck_112, x6_luck_115, x6_luck_118, x6_luck_120, i_ald, i_cS, i_cV, i_get, i_goto, i_i2l, i_iadd, i_iald, i_iast, i_ic, i_ic_ge, i_ic_le, i_if_ne, i_ild, i_inc, i_iret, i_ist, i_lc, oc_41, fv_41_0, fv_41_1, fv_41_2, fv_41_3, fv_41_4, ly_41_4, fv_41_5, fv_41_6, ly_41_6, fv_41_7, ly_41_7, fv_41_8, ly_41_8, fv_41_9, ly_41_9, fv_41_10, ly_41_10, fv_41_11, ly_41_11, fv_41_12, fv_41_13, fv_41_14, ly_41_14, fv_41_15, fv_41_16, fv_41_17, fv_41_18, fv_41_19, fv_41_20, fv_41_21, fv_41_22, ly_41_22, fv_41_23, ly_41_23, fv_41_24, ly_41_24, fv_41_25, ly_41_25, fv_41_26, ly_41_26, rd_42, al_42, rd_43, al_43, rd_44, al_44, rd_45, al_45, rd_46, al_46, rd_47, al_47, rd_48, al_48, rd_49, al_49, rd_50, al_50, rd_51, al_51, rd_52, al_52, rd_53, al_53, rd_54, al_54, rd_55, al_55, lck_0, lck_i, lck_r, lck_n, lck_l, csum_0, csum_i, csum_r, csum_l, pops_0, pops_s, psh_n, psh_s, List.getElem?_cons_zero, List.getElem?_cons_succ, List.set_cons_zero, List.set_cons_succ, true_and, and_true, Nat.reduceAdd, Nat.reduceLeDiff, S6_copyRow, RW_b, upA_44, upA_42, hb, upA_sw]
    exact ⟨fun _ => nx, fun c => absurd (Int32.le_refl _) c⟩
  | d + 1, j, e, s, hh => by
    have ih := lp6_luck hI hn hQ d (j + 1) (by omega)
    rw [← nI_1] at ih
    have hlt : ¬ nI n ≤ nI j := nI_ge (by omega) (by omega)
    have hb := back42 hh
    have hIz : InvR (mv (upd (h 42) 2 (lkF (mv (h 42)) pl j).1)) := by rw [mv_u08]; exact InvR_08 hI _
    have m8 : mv (upd (h 42) 2 (lkF (mv (h 42)) pl j).1) = up2 (mv (h 42)) 0 8 (lkF (mv (h 42)) pl j).1 := mv_u08 _ _
    refine Rn_go C6_luck 60 ?_
    simp only [x6_luck_0, x6_luck_1, x6_luck_2, x6_luck_3, x6_luck_6, x6_luck_9, x6_luck_12, x6_luck_13, x6_luck_14, x6_luck_15, x6_luck_18, x6_luck_19, x6_luck_22, x6_luck_25, x6_luck_26, x6_luck_29, x6_luck_30, x6_luck_32, x6_luck_35, x6_luck_38, x6_luck_39, x6_luck_40, x6_luck_43, x6_luck_44, x6_luck_45, x6_luck_46, x6_luck_47, x6_luck_49, x6_luck_50, k6_luck_52, t6_luck_52, x6_luck_54, x6_luck_55, x6_luck_58, x6_luck_59, x6_luck_62, x6_luck_63, x6_luck_66, x6_luck_69, x6_luck_70, x6_luck_73, x6_luck_74, x6_luck_75, x6_luck_76, x6_luck_78, x6_luck_79, x6_luck_82, x6_luck_83, x6_luck_86, x6_luck_87, x6_luck_90, x6_luck_91, x6_luck_92, x6_luck_94, x6_luck_95, x6_luck_98, x6_luck_99, x6_luck_100, x6_luck_101, x6_luck_104, x6_luck_107, x6_luck_108, x6_luck_111, x6_luck_112, x6_luck_115, x6_luck_118, x6_luck_120, i_ald, i_cS, i_cV, i_get, i_goto, i_i2l, i_iadd, i_iald, i_iast, i_ic, i_ic_ge, i_ic_le, i_if_ne, i_ild, i_inc, i_iret, i_ist, i_lc, oc_41, fv_41_0, fv_41_1, fv_41_2, fv_41_3, fv_41_4, ly_41_4, fv_41_5, fv_41_6, ly_41_6, fv_41_7, ly_41_7, fv_41_8, ly_41_8, fv_41_9, ly_41_9, fv_41_10, ly_41_10, fv_41_11, ly_41_11, fv_41_12, fv_41_13, fv_41_14, ly_41_14, fv_41_15, fv_41_16, fv_41_17, fv_41_18, fv_41_19, fv_41_20, fv_41_21, fv_41_22, ly_41_22, fv_41_23, ly_41_23, fv_41_24, ly_41_24, fv_41_25, ly_41_25, fv_41_26, ly_41_26, rd_42, al_42, rd_43, al_43, rd_44, al_44, rd_45, al_45, rd_46, al_46, rd_47, al_47, rd_48, al_48, rd_49, al_49, rd_50, al_50, rd_51, al_51, rd_52, al_52, rd_53, al_53, rd_54, al_54, rd_55, al_55, lck_0, lck_i, lck_r, lck_n, lck_l, csum_0, csum_i, csum_r, csum_l, pops_0, pops_s, psh_n, psh_s, List.getElem?_cons_zero, List.getElem?_cons_succ, List.set_cons_zero, List.set_cons_succ, true_and, and_true, Nat.reduceAdd, Nat.reduceLeDiff, S6_copyRow, S6_occasion, RW_b, upA_44, upA_42, hb, upA_same, v47, w47, ix2, up42b]
    refine ⟨fun c => absurd c hlt, fun _ => ⟨hIz, fun s1 x1 x2 => ?_⟩⟩
    rw [m8] at x1 ⊢
    have nx := ih s1 (fun k hk => by rw [x2 k hk, upd_ap, if_neg (by omega)])
    simp only [lkF] at nx
    have e8 : s1 2 = drwG (up2 (mv (h 42)) 0 8 (lkF (mv (h 42)) pl j).1) 0 8 := by rw [← x1]; rfl
    rw [e8]
    refine ⟨fun c => ?_, fun c => ?_⟩
    · rw [if_neg (Int32.not_lt.mpr c)] at nx
      rw [Int32.add_zero]
      exact nx
    · rw [if_pos (Int32.not_le.mp c)] at nx
      exact nx
theorem cp2 (f g : Nat → Int32) : cp47 f g 2 = f 2 := rfl
theorem pr_luck {h : Hp} (r : Rel h) (n : Int32) : S5_luck [.ref 0, .int n] h (fun rv h1 => S6_luck [.ref 41, .int n] h1 (fun rw h2 => rw = rv ∧ Rel h2)) := by
  obtain ⟨g0, g1, g2, g3, g4⟩ := raw r
  have hI := r.1.2.1
  have iM := InvR_c r.1.1 hI
  by_cases c : 1 ≤ n ∧ n ≤ 30
  · have n0 : 0 ≤ n := by grind
    have c1 : ¬ n < 1 := Int32.not_lt.mpr c.1
    obtain ⟨m, hm, rfl⟩ : ∃ m, m ≤ 30 ∧ n = nI m := by
      have := ix_lt (n := 31) n0 (show n < (31 : Int32) by grind) (by decide)
      exact ⟨ix n, by omega, (nI_ix n0).symm⟩
    obtain ⟨eC, iC⟩ := cp8 h hI
    have c8 : 0 ≤ cpG (vg h 8) (vg h 1) 0 6 ∧ cpG (vg h 8) (vg h 1) 0 6 ≤ 8 := iC.1
    have o8 : 0 ≤ occG (cpG (vg h 8) (vg h 1)) 0 6 ∧ occG (cpG (vg h 8) (vg h 1)) 0 6 ≤ 8 := by rw [occ_6]; exact c8
    have eO := occG_c (eC.trans r.1.1) iC
    have o1 := outG_c eO
    have eL := lkF_c r.1.1 hI (outG (occG (mv (h 42)))) m
    have key : ∀ h1, Fr8 h h1 → S6_luck [.ref 41, .int (nI m)] h1 (fun rw h2 => rw = some (.int (lkF (vg h 1) (outG (occG (mv (h 42)))) m).2) ∧ Rel h2) := by
      intro h1 f
      have r1 := Rel_8 r f
      have e42 : h1 42 = h 42 := f 42 (by omega)
      have iM1 : InvR (mv (h1 42)) := by rw [e42]; exact iM
      refine Rn_in C6_luck 60 ?_
      simp only [x6_luck_0, x6_luck_1, x6_luck_2, x6_luck_3, x6_luck_6, x6_luck_9, x6_luck_12, x6_luck_13, x6_luck_14, x6_luck_15, x6_luck_18, x6_luck_19, x6_luck_22, x6_luck_25, x6_luck_26, x6_luck_29, x6_luck_30, x6_luck_32, x6_luck_35, x6_luck_38, x6_luck_39, x6_luck_40, x6_luck_43, x6_luck_44, x6_luck_45, x6_luck_46, x6_luck_47, x6_luck_49, x6_luck_50, k6_luck_52, t6_luck_52, x6_luck_54, x6_luck_55, x6_luck_58, x6_luck_59, x6_luck_62, x6_luck_63, x6_luck_66, x6_luck_69, x6_luck_70, x6_luck_73, x6_luck_74, x6_luck_75, x6_luck_76, x6_luck_78, x6_luck_79, x6_luck_82, x6_luck_83, x6_luck_86, x6_luck_87, x6_luck_90, x6_luck_91, x6_luck_92, x6_luck_94, x6_luck_95, x6_luck_98, x6_luck_99, x6_luck_100, x6_luck_101, x6_luck_104, x6_luck_107, x6_luck_108, x6_luck_111, x6_luck_112, x6_luck_115, x6_luck_118, x6_luck_120, i_ald, i_cS, i_cV, i_get, i_goto, i_i2l, i_iadd, i_iald, i_iast, i_ic, i_ic_ge, i_ic_le, i_if_ne, i_ild, i_inc, i_iret, i_ist, i_lc, oc_41, fv_41_0, fv_41_1, fv_41_2, fv_41_3, fv_41_4, ly_41_4, fv_41_5, fv_41_6, ly_41_6, fv_41_7, ly_41_7, fv_41_8, ly_41_8, fv_41_9, ly_41_9, fv_41_10, ly_41_10, fv_41_11, ly_41_11, fv_41_12, fv_41_13, fv_41_14, ly_41_14, fv_41_15, fv_41_16, fv_41_17, fv_41_18, fv_41_19, fv_41_20, fv_41_21, fv_41_22, ly_41_22, fv_41_23, ly_41_23, fv_41_24, ly_41_24, fv_41_25, ly_41_25, fv_41_26, ly_41_26, rd_42, al_42, rd_43, al_43, rd_44, al_44, rd_45, al_45, rd_46, al_46, rd_47, al_47, rd_48, al_48, rd_49, al_49, rd_50, al_50, rd_51, al_51, rd_52, al_52, rd_53, al_53, rd_54, al_54, rd_55, al_55, lck_0, lck_i, lck_r, lck_n, lck_l, csum_0, csum_i, csum_r, csum_l, pops_0, pops_s, psh_n, psh_s, List.getElem?_cons_zero, List.getElem?_cons_succ, List.set_cons_zero, List.set_cons_succ, true_and, and_true, Nat.reduceAdd, Nat.reduceLeDiff, S6_isIn, S6_copyRow, S6_goesOn, S6_thoseIn, S6_size, RW_a, bIn_0, lo_1, hi_30, c, iM1, upA_4442, upA_42, upA_44, upA_same, v47, w47, ix2, cp2, nn, false_implies, true_implies, implies_true, and_true, true_and, not_true_eq_false, not_false_eq_true, eq_self]
      intro s1 x1 x2
      have x3 : pc8 (thG (mv s1) 8 (nG (mv s1))) = outG (occG (mv (h 42))) := by rw [← e42, ← x1]; rfl
      have n8 : nG (mv s1) ≤ 8 := by rw [x1]; exact nG_8 (inv_occ iM1)
      have t8 := thG_256 (mv s1) 8 n8
      have s8 : 0 ≤ s1 0 ∧ s1 0 ≤ 8 := by
        have := (inv_occ iM1).1
        rw [← x1] at this
        exact this
      have nx := lp6_luck (Q := fun rw h2 => rw = some (.int (lkF (vg h 1) (outG (occG (mv (h 42)))) m).2) ∧ Rel h2) iM1 (pl := outG (occG (mv (h 42)))) hm (fun a => ⟨by rw [e42, eL], Rel_44 r1 a⟩) m 0 (by omega) s1 x2
      rw [x3]
      exact ⟨s8, t8, nx⟩
    have nx := lp5_luck (h := h) hI hm (pl := outG (occG (cpG (vg h 8) (vg h 1)))) (Q := fun rv h1 => S6_luck [.ref 41, .int (nI m)] h1 (fun rw h2 => rw = rv ∧ Rel h2)) (by rw [o1]; exact key) m 0 (by omega) _ (Hi8_occ1 (Hi8_cp (vg h 8) (vg h 1) (Hi8_0 h)))
    refine Rn_in C5_luck 60 ?_
    simp only [x5_luck_0, x5_luck_1, x5_luck_2, x5_luck_5, x5_luck_6, x5_luck_8, x5_luck_11, x5_luck_12, x5_luck_13, x5_luck_14, x5_luck_17, x5_luck_18, x5_luck_21, x5_luck_24, x5_luck_25, x5_luck_28, x5_luck_29, x5_luck_32, x5_luck_33, x5_luck_36, x5_luck_39, x5_luck_40, x5_luck_41, x5_luck_42, x5_luck_43, x5_luck_46, x5_luck_49, x5_luck_51, x5_luck_52, k5_luck_54, t5_luck_54, x5_luck_56, x5_luck_57, x5_luck_60, x5_luck_61, x5_luck_64, x5_luck_65, x5_luck_68, x5_luck_71, x5_luck_72, x5_luck_75, x5_luck_77, x5_luck_80, x5_luck_81, x5_luck_84, x5_luck_87, x5_luck_88, x5_luck_91, x5_luck_94, x5_luck_96, x5_luck_97, x5_luck_100, x5_luck_103, x5_luck_104, x5_luck_107, x5_luck_110, x5_luck_113, x5_luck_116, x5_luck_117, i_ald, i_cV, i_get, i_goto, i_ic, i_ic_ge, i_ic_le, i_ic_lt, i_ild, i_inc, i_iret, i_ist, i_put, oc_0, fv_0_0, fv_0_1, fv_0_2, fv_0_3, ly_0_3, fv_0_4, fv_0_5, fv_0_6, ly_0_6, fv_0_7, fv_0_8, fv_0_9, oc_1, fv_1_0, fv_1_1, fv_1_2, fv_1_3, fv_1_4, fv_1_5, fv_1_6, ly_1_6, fv_1_7, ly_1_7, fv_1_8, ly_1_8, rd_2, al_2, rd_3, al_3, rd_4, al_4, rd_5, al_5, rd_6, al_6, rd_7, al_7, oc_8, fv_8_0, fv_8_1, fv_8_2, fv_8_3, fv_8_4, fv_8_5, fv_8_6, ly_8_6, fv_8_7, ly_8_7, fv_8_8, ly_8_8, rd_9, al_9, rd_10, al_10, rd_11, al_11, rd_12, al_12, rd_13, al_13, rd_14, al_14, lck_0, lck_i, lck_r, lck_n, lck_l, csum_0, csum_i, csum_r, csum_l, pops_0, pops_s, psh_n, psh_s, List.getElem?_cons_zero, List.getElem?_cons_succ, List.set_cons_zero, List.set_cons_succ, true_and, and_true, Nat.reduceAdd, Nat.reduceLeDiff, S1_copy, S1_passOccasions, S1_countOut, CP_81, GB_8, pg8_0, pg8_1, vg_pg, pg_pg, ix1, ix, occN_1, c, c1, nn, false_implies, true_implies, implies_true, and_true, true_and, not_true_eq_false, not_false_eq_true, eq_self]
    exact ⟨by decide, c8, o8, nx⟩
  · refine Rn_in C5_luck 60 ?_
    simp only [x5_luck_0, x5_luck_1, x5_luck_2, x5_luck_5, x5_luck_6, x5_luck_8, x5_luck_11, x5_luck_12, x5_luck_13, x5_luck_14, x5_luck_17, x5_luck_18, x5_luck_21, x5_luck_24, x5_luck_25, x5_luck_28, x5_luck_29, x5_luck_32, x5_luck_33, x5_luck_36, x5_luck_39, x5_luck_40, x5_luck_41, x5_luck_42, x5_luck_43, x5_luck_46, x5_luck_49, x5_luck_51, x5_luck_52, k5_luck_54, t5_luck_54, x5_luck_56, x5_luck_57, x5_luck_60, x5_luck_61, x5_luck_64, x5_luck_65, x5_luck_68, x5_luck_71, x5_luck_72, x5_luck_75, x5_luck_77, x5_luck_80, x5_luck_81, x5_luck_84, x5_luck_87, x5_luck_88, x5_luck_91, x5_luck_94, x5_luck_96, x5_luck_97, x5_luck_100, x5_luck_103, x5_luck_104, x5_luck_107, x5_luck_110, x5_luck_113, x5_luck_116, x5_luck_117, i_ald, i_cV, i_get, i_goto, i_ic, i_ic_ge, i_ic_le, i_ic_lt, i_ild, i_inc, i_iret, i_ist, i_put, oc_0, fv_0_0, fv_0_1, fv_0_2, fv_0_3, ly_0_3, fv_0_4, fv_0_5, fv_0_6, ly_0_6, fv_0_7, fv_0_8, fv_0_9, oc_1, fv_1_0, fv_1_1, fv_1_2, fv_1_3, fv_1_4, fv_1_5, fv_1_6, ly_1_6, fv_1_7, ly_1_7, fv_1_8, ly_1_8, rd_2, al_2, rd_3, al_3, rd_4, al_4, rd_5, al_5, rd_6, al_6, rd_7, al_7, oc_8, fv_8_0, fv_8_1, fv_8_2, fv_8_3, fv_8_4, fv_8_5, fv_8_6, ly_8_6, fv_8_7, ly_8_7, fv_8_8, ly_8_8, rd_9, al_9, rd_10, al_10, rd_11, al_11, rd_12, al_12, rd_13, al_13, rd_14, al_14, lck_0, lck_i, lck_r, lck_n, lck_l, csum_0, csum_i, csum_r, csum_l, pops_0, pops_s, psh_n, psh_s, List.getElem?_cons_zero, List.getElem?_cons_succ, List.set_cons_zero, List.set_cons_succ, true_and, and_true, Nat.reduceAdd, Nat.reduceLeDiff]
    have : S6_luck [.ref 41, .int n] h (fun rw h2 => rw = some (.int (-1)) ∧ Rel h2) := by
      refine Rn_in C6_luck 60 ?_
      simp only [x6_luck_0, x6_luck_1, x6_luck_2, x6_luck_3, x6_luck_6, x6_luck_9, x6_luck_12, x6_luck_13, x6_luck_14, x6_luck_15, x6_luck_18, x6_luck_19, x6_luck_22, x6_luck_25, x6_luck_26, x6_luck_29, x6_luck_30, x6_luck_32, x6_luck_35, x6_luck_38, x6_luck_39, x6_luck_40, x6_luck_43, x6_luck_44, x6_luck_45, x6_luck_46, x6_luck_47, x6_luck_49, x6_luck_50, k6_luck_52, t6_luck_52, x6_luck_54, x6_luck_55, x6_luck_58, x6_luck_59, x6_luck_62, x6_luck_63, x6_luck_66, x6_luck_69, x6_luck_70, x6_luck_73, x6_luck_74, x6_luck_75, x6_luck_76, x6_luck_78, x6_luck_79, x6_luck_82, x6_luck_83, x6_luck_86, x6_luck_87, x6_luck_90, x6_luck_91, x6_luck_92, x6_luck_94, x6_luck_95, x6_luck_98, x6_luck_99, x6_luck_100, x6_luck_101, x6_luck_104, x6_luck_107, x6_luck_108, x6_luck_111, x6_luck_112, x6_luck_115, x6_luck_118, x6_luck_120, i_ald, i_cS, i_cV, i_get, i_goto, i_i2l, i_iadd, i_iald, i_iast, i_ic, i_ic_ge, i_ic_le, i_if_ne, i_ild, i_inc, i_iret, i_ist, i_lc, oc_41, fv_41_0, fv_41_1, fv_41_2, fv_41_3, fv_41_4, ly_41_4, fv_41_5, fv_41_6, ly_41_6, fv_41_7, ly_41_7, fv_41_8, ly_41_8, fv_41_9, ly_41_9, fv_41_10, ly_41_10, fv_41_11, ly_41_11, fv_41_12, fv_41_13, fv_41_14, ly_41_14, fv_41_15, fv_41_16, fv_41_17, fv_41_18, fv_41_19, fv_41_20, fv_41_21, fv_41_22, ly_41_22, fv_41_23, ly_41_23, fv_41_24, ly_41_24, fv_41_25, ly_41_25, fv_41_26, ly_41_26, rd_42, al_42, rd_43, al_43, rd_44, al_44, rd_45, al_45, rd_46, al_46, rd_47, al_47, rd_48, al_48, rd_49, al_49, rd_50, al_50, rd_51, al_51, rd_52, al_52, rd_53, al_53, rd_54, al_54, rd_55, al_55, lck_0, lck_i, lck_r, lck_n, lck_l, csum_0, csum_i, csum_r, csum_l, pops_0, pops_s, psh_n, psh_s, List.getElem?_cons_zero, List.getElem?_cons_succ, List.set_cons_zero, List.set_cons_succ, true_and, and_true, Nat.reduceAdd, Nat.reduceLeDiff, S6_isIn, bIn_0, lo_1, hi_30, c, nn, false_implies, true_implies, implies_true, and_true, true_and, not_true_eq_false, not_false_eq_true, eq_self]
      exact r
    refine ⟨fun _ => this, fun c1 => ⟨fun c2 => absurd ⟨Int32.not_lt.mp c1, c2⟩ c, fun _ => this⟩⟩
