/-! acts, the reference: parts, leaves -/
theorem sub0 (n a : Int32) : (a - n = 0) ↔ n = a := by constructor <;> intro h <;> grind
theorem up2_idz {h : Hp} {p k : Nat} {v : Int32} (e : h p k = v) : up2 h p k v = h := by
  funext a b; simp only [up2]; grind
def ppM (h : Hp) (l : List Int32) : Hp := if h 41 25 - h 41 24 = 0 then up2 (mmL h l) 41 26 1 else mmL h l
def ppV (n a x : Int32) : Int32 := if a - n = 0 then 0 else x / (a - n)
def S6_partsPlain : Sp := fun av h Q => match av with | [.ref p, .int x] => p = 41 ∧ PM h ∧ h 41 26 = 0 ∧ Q (some (.int (ppV (h 41 24) (h 41 25) x))) (ppM h [12]) | _ => False
theorem rn6_partsPlain {h : Hp} {Q : Po} {p : Nat} {x : Int32} (hS : S6_partsPlain [.ref p, .int x] h Q) : Rn (T6_partsPlain Q S6_runs) (0, [some (.ref p), some (.int x)], [], h) := by
  obtain ⟨rfl, hp, h26, hQ⟩ := hS
  unfold ppV ppM at hQ
  have e26 : ∀ l, mmL h l 41 26 = 0 := fun l => by rw [mmL_26]; exact h26
  by_cases c : h 41 24 = h 41 25
  · have c0 : h 41 25 - h 41 24 = 0 := (sub0 _ _).mpr c
    rw [if_pos c0, if_pos c0] at hQ
    refine Rn_in C6_partsPlain 60 ?_
    simp only [x6_partsPlain_0, x6_partsPlain_1, x6_partsPlain_3, x6_partsPlain_6, x6_partsPlain_7, x6_partsPlain_8, x6_partsPlain_11, x6_partsPlain_14, x6_partsPlain_15, x6_partsPlain_18, x6_partsPlain_19, x6_partsPlain_22, x6_partsPlain_25, x6_partsPlain_26, x6_partsPlain_29, x6_partsPlain_30, x6_partsPlain_33, x6_partsPlain_34, x6_partsPlain_37, x6_partsPlain_40, x6_partsPlain_41, x6_partsPlain_44, x6_partsPlain_45, x6_partsPlain_46, x6_partsPlain_49, x6_partsPlain_50, x6_partsPlain_53, x6_partsPlain_54, x6_partsPlain_55, i_ald, i_cV, i_get, i_goto, i_ic, i_ic_ne, i_idiv, i_if_eq, i_if_ne, i_ild, i_iret, i_isub, i_putz, oc_41, fv_41_0, fv_41_1, fv_41_2, fv_41_3, fv_41_4, ly_41_4, fv_41_5, fv_41_6, ly_41_6, fv_41_7, ly_41_7, fv_41_8, ly_41_8, fv_41_9, ly_41_9, fv_41_10, ly_41_10, fv_41_11, ly_41_11, fv_41_12, fv_41_13, fv_41_14, ly_41_14, fv_41_15, fv_41_16, fv_41_17, fv_41_18, fv_41_19, fv_41_20, fv_41_21, fv_41_22, ly_41_22, fv_41_23, ly_41_23, fv_41_24, ly_41_24, fv_41_25, ly_41_25, fv_41_26, ly_41_26, rd_42, al_42, rd_43, al_43, rd_44, al_44, rd_45, al_45, rd_46, al_46, rd_47, al_47, rd_48, al_48, rd_49, al_49, rd_50, al_50, rd_51, al_51, rd_52, al_52, rd_53, al_53, rd_54, al_54, rd_55, al_55, lck_0, lck_i, lck_r, lck_n, lck_l, csum_0, csum_i, csum_r, csum_l, pops_0, pops_s, psh_n, psh_s, List.getElem?_cons_zero, List.getElem?_cons_succ, List.set_cons_zero, List.set_cons_succ, true_and, and_true, Nat.reduceAdd, Nat.reduceLeDiff, S6_runs, hp, mmL_24, mmL_25, e26, c, up2_at, if_true, if_false, l01_1, ne_1_0, or_true, nn, false_implies, true_implies, implies_true, and_true, true_and, not_true_eq_false, not_false_eq_true, eq_self]
    exact hQ
  · have c0 : ¬ h 41 25 - h 41 24 = 0 := fun q => c ((sub0 _ _).mp q)
    rw [if_neg c0, if_neg c0] at hQ
    have ez : up2 (mmL h [12]) 41 26 0 = mmL h [12] := up2_idz (e26 _)
    refine Rn_in C6_partsPlain 60 ?_
    simp only [x6_partsPlain_0, x6_partsPlain_1, x6_partsPlain_3, x6_partsPlain_6, x6_partsPlain_7, x6_partsPlain_8, x6_partsPlain_11, x6_partsPlain_14, x6_partsPlain_15, x6_partsPlain_18, x6_partsPlain_19, x6_partsPlain_22, x6_partsPlain_25, x6_partsPlain_26, x6_partsPlain_29, x6_partsPlain_30, x6_partsPlain_33, x6_partsPlain_34, x6_partsPlain_37, x6_partsPlain_40, x6_partsPlain_41, x6_partsPlain_44, x6_partsPlain_45, x6_partsPlain_46, x6_partsPlain_49, x6_partsPlain_50, x6_partsPlain_53, x6_partsPlain_54, x6_partsPlain_55, i_ald, i_cV, i_get, i_goto, i_ic, i_ic_ne, i_idiv, i_if_eq, i_if_ne, i_ild, i_iret, i_isub, i_putz, oc_41, fv_41_0, fv_41_1, fv_41_2, fv_41_3, fv_41_4, ly_41_4, fv_41_5, fv_41_6, ly_41_6, fv_41_7, ly_41_7, fv_41_8, ly_41_8, fv_41_9, ly_41_9, fv_41_10, ly_41_10, fv_41_11, ly_41_11, fv_41_12, fv_41_13, fv_41_14, ly_41_14, fv_41_15, fv_41_16, fv_41_17, fv_41_18, fv_41_19, fv_41_20, fv_41_21, fv_41_22, ly_41_22, fv_41_23, ly_41_23, fv_41_24, ly_41_24, fv_41_25, ly_41_25, fv_41_26, ly_41_26, rd_42, al_42, rd_43, al_43, rd_44, al_44, rd_45, al_45, rd_46, al_46, rd_47, al_47, rd_48, al_48, rd_49, al_49, rd_50, al_50, rd_51, al_51, rd_52, al_52, rd_53, al_53, rd_54, al_54, rd_55, al_55, lck_0, lck_i, lck_r, lck_n, lck_l, csum_0, csum_i, csum_r, csum_l, pops_0, pops_s, psh_n, psh_s, List.getElem?_cons_zero, List.getElem?_cons_succ, List.set_cons_zero, List.set_cons_succ, true_and, and_true, Nat.reduceAdd, Nat.reduceLeDiff, S6_runs, hp, mmL_24, mmL_25, e26, c, ez, up2_at, if_true, if_false, l01_0, true_or, nn, false_implies, true_implies, implies_true, and_true, true_and, not_true_eq_false, not_false_eq_true, eq_self]
    exact ⟨c0, hQ⟩
def pmH (K : Nat) (g : Hp) : Hp := if g 41 25 - g 41 24 = 0 then up2 (mmL g (ptL K)) 41 26 1 else mmL g (ptL K ++ ptM K)
def S6_parts : Sp := fun av h Q => match av with | [.ref p, .int x] => p = 41 ∧ PM h ∧ KM h ∧ h 41 26 = 0 ∧ Q (some (.int (ptV (ix (h 41 23)) (h 41 24) (h 41 25) x))) (pmH (ix (h 41 23)) h) | _ => False
theorem ppM_mm (h : Hp) (l m : List Int32) : ppM (mmL h l) m = ppM h (l ++ m) := by
  unfold ppM; rw [mmL_24, mmL_25, mmL_app]
theorem n53 : ((5 : Int32) = 3) = False := by decide
theorem rn6_parts {h : Hp} {Q : Po} {p : Nat} {x : Int32} (hS : S6_parts [.ref p, .int x] h Q) : Rn (T6_parts Q S6_runs S6_partsPlain S6_bows) (0, [some (.ref p), some (.int x), none], [], h) := by
  obtain ⟨rfl, hp, hk, h26, hQ⟩ := hS
  have hm := PM_mm hp
  have km := KM_mm hk
  obtain ⟨K, K6, e⟩ := of6 hk
  have eK : (h 41 23).toNatClampNeg = K := by rw [e]; exact ix_nI (by omega)
  rw [show ix (h 41 23) = K from eK] at hQ
  by_cases c3 : K = 3
  · subst c3
    have e : h 41 23 = 3 := e
    refine Rn_in C6_parts 60 ?_
    simp only [x6_parts_0, x6_parts_1, x6_parts_4, x6_parts_5, x6_parts_8, x6_parts_9, x6_parts_11, x6_parts_14, x6_parts_15, x6_parts_16, x6_parts_17, x6_parts_18, x6_parts_21, x6_parts_22, x6_parts_23, x6_parts_24, x6_parts_25, x6_parts_28, x6_parts_29, x6_parts_32, x6_parts_33, x6_parts_35, x6_parts_38, x6_parts_39, x6_parts_40, x6_parts_43, x6_parts_44, x6_parts_45, x6_parts_48, x6_parts_51, x6_parts_52, x6_parts_55, x6_parts_56, x6_parts_57, x6_parts_58, x6_parts_61, x6_parts_64, x6_parts_65, x6_parts_66, x6_parts_67, x6_parts_68, x6_parts_71, i_ald, i_cV, i_get, i_goto, i_iadd, i_ic, i_ic_ne, i_if_eq, i_ild, i_imul, i_iret, i_ist, i_isub, oc_41, fv_41_0, fv_41_1, fv_41_2, fv_41_3, fv_41_4, ly_41_4, fv_41_5, fv_41_6, ly_41_6, fv_41_7, ly_41_7, fv_41_8, ly_41_8, fv_41_9, ly_41_9, fv_41_10, ly_41_10, fv_41_11, ly_41_11, fv_41_12, fv_41_13, fv_41_14, ly_41_14, fv_41_15, fv_41_16, fv_41_17, fv_41_18, fv_41_19, fv_41_20, fv_41_21, fv_41_22, ly_41_22, fv_41_23, ly_41_23, fv_41_24, ly_41_24, fv_41_25, ly_41_25, fv_41_26, ly_41_26, rd_42, al_42, rd_43, al_43, rd_44, al_44, rd_45, al_45, rd_46, al_46, rd_47, al_47, rd_48, al_48, rd_49, al_49, rd_50, al_50, rd_51, al_51, rd_52, al_52, rd_53, al_53, rd_54, al_54, rd_55, al_55, lck_0, lck_i, lck_r, lck_n, lck_l, csum_0, csum_i, csum_r, csum_l, pops_0, pops_s, psh_n, psh_s, List.getElem?_cons_zero, List.getElem?_cons_succ, List.set_cons_zero, List.set_cons_succ, true_and, and_true, Nat.reduceAdd, Nat.reduceLeDiff, S6_runs, S6_partsPlain, e, hp, hm, h26, mmL_24, mmL_25, mmL_26, ppM_mm, List.cons_append, List.nil_append, nn, false_implies, true_implies, implies_true, and_true, true_and, not_true_eq_false, not_false_eq_true, eq_self]
    unfold ptV pmH at hQ
    unfold ppV ppM
    by_cases c : h 41 25 - h 41 24 = 0
    · rw [if_pos c, if_pos c] at hQ ⊢
      exact hQ
    · rw [if_neg c, if_neg c] at hQ ⊢
      exact hQ
  · by_cases c5 : K = 5
    · subst c5
      have e : h 41 23 = 5 := e
      refine Rn_in C6_parts 60 ?_
      simp only [x6_parts_0, x6_parts_1, x6_parts_4, x6_parts_5, x6_parts_8, x6_parts_9, x6_parts_11, x6_parts_14, x6_parts_15, x6_parts_16, x6_parts_17, x6_parts_18, x6_parts_21, x6_parts_22, x6_parts_23, x6_parts_24, x6_parts_25, x6_parts_28, x6_parts_29, x6_parts_32, x6_parts_33, x6_parts_35, x6_parts_38, x6_parts_39, x6_parts_40, x6_parts_43, x6_parts_44, x6_parts_45, x6_parts_48, x6_parts_51, x6_parts_52, x6_parts_55, x6_parts_56, x6_parts_57, x6_parts_58, x6_parts_61, x6_parts_64, x6_parts_65, x6_parts_66, x6_parts_67, x6_parts_68, x6_parts_71, i_ald, i_cV, i_get, i_goto, i_iadd, i_ic, i_ic_ne, i_if_eq, i_ild, i_imul, i_iret, i_ist, i_isub, oc_41, fv_41_0, fv_41_1, fv_41_2, fv_41_3, fv_41_4, ly_41_4, fv_41_5, fv_41_6, ly_41_6, fv_41_7, ly_41_7, fv_41_8, ly_41_8, fv_41_9, ly_41_9, fv_41_10, ly_41_10, fv_41_11, ly_41_11, fv_41_12, fv_41_13, fv_41_14, ly_41_14, fv_41_15, fv_41_16, fv_41_17, fv_41_18, fv_41_19, fv_41_20, fv_41_21, fv_41_22, ly_41_22, fv_41_23, ly_41_23, fv_41_24, ly_41_24, fv_41_25, ly_41_25, fv_41_26, ly_41_26, rd_42, al_42, rd_43, al_43, rd_44, al_44, rd_45, al_45, rd_46, al_46, rd_47, al_47, rd_48, al_48, rd_49, al_49, rd_50, al_50, rd_51, al_51, rd_52, al_52, rd_53, al_53, rd_54, al_54, rd_55, al_55, lck_0, lck_i, lck_r, lck_n, lck_l, csum_0, csum_i, csum_r, csum_l, pops_0, pops_s, psh_n, psh_s, List.getElem?_cons_zero, List.getElem?_cons_succ, List.set_cons_zero, List.set_cons_succ, true_and, and_true, Nat.reduceAdd, Nat.reduceLeDiff, S6_runs, S6_partsPlain, e, n53, hp, hm, h26, mmL_24, mmL_25, mmL_26, ppM_mm, List.cons_append, List.nil_append, nn, false_implies, true_implies, implies_true, and_true, true_and, not_true_eq_false, not_false_eq_true, eq_self]
      unfold ptV pmH at hQ
      unfold ppV ppM
      by_cases c : h 41 25 - h 41 24 = 0
      · rw [if_pos c, if_pos c] at hQ ⊢
        refine ⟨fun q => ?_, fun _ => hQ⟩
        rw [up2_self, upd_ap, if_pos rfl] at q
        exact absurd q (by decide)
      · rw [if_neg c, if_neg c] at hQ ⊢
        refine ⟨fun _ => ?_, fun q => absurd (by rw [mmL_26]; exact h26) q⟩
        refine ⟨rfl, mmL_PM _ hp, by rw [KM, mmL_23]; exact hk, ?_⟩
        rw [mmL_23, mmL_24, e, mmL_app]
        exact hQ
    · have q3 : ¬ h 41 23 = 3 := by rw [e]; exact fun q => c3 ((nI_eq (b := 3) (by omega) (by decide)).mp q)
      have q5 : ¬ h 41 23 = 5 := by rw [e]; exact fun q => c5 ((nI_eq (b := 5) (by omega) (by decide)).mp q)
      refine Rn_in C6_parts 60 ?_
      simp only [x6_parts_0, x6_parts_1, x6_parts_4, x6_parts_5, x6_parts_8, x6_parts_9, x6_parts_11, x6_parts_14, x6_parts_15, x6_parts_16, x6_parts_17, x6_parts_18, x6_parts_21, x6_parts_22, x6_parts_23, x6_parts_24, x6_parts_25, x6_parts_28, x6_parts_29, x6_parts_32, x6_parts_33, x6_parts_35, x6_parts_38, x6_parts_39, x6_parts_40, x6_parts_43, x6_parts_44, x6_parts_45, x6_parts_48, x6_parts_51, x6_parts_52, x6_parts_55, x6_parts_56, x6_parts_57, x6_parts_58, x6_parts_61, x6_parts_64, x6_parts_65, x6_parts_66, x6_parts_67, x6_parts_68, x6_parts_71, i_ald, i_cV, i_get, i_goto, i_iadd, i_ic, i_ic_ne, i_if_eq, i_ild, i_imul, i_iret, i_ist, i_isub, oc_41, fv_41_0, fv_41_1, fv_41_2, fv_41_3, fv_41_4, ly_41_4, fv_41_5, fv_41_6, ly_41_6, fv_41_7, ly_41_7, fv_41_8, ly_41_8, fv_41_9, ly_41_9, fv_41_10, ly_41_10, fv_41_11, ly_41_11, fv_41_12, fv_41_13, fv_41_14, ly_41_14, fv_41_15, fv_41_16, fv_41_17, fv_41_18, fv_41_19, fv_41_20, fv_41_21, fv_41_22, ly_41_22, fv_41_23, ly_41_23, fv_41_24, ly_41_24, fv_41_25, ly_41_25, fv_41_26, ly_41_26, rd_42, al_42, rd_43, al_43, rd_44, al_44, rd_45, al_45, rd_46, al_46, rd_47, al_47, rd_48, al_48, rd_49, al_49, rd_50, al_50, rd_51, al_51, rd_52, al_52, rd_53, al_53, rd_54, al_54, rd_55, al_55, lck_0, lck_i, lck_r, lck_n, lck_l, csum_0, csum_i, csum_r, csum_l, pops_0, pops_s, psh_n, psh_s, List.getElem?_cons_zero, List.getElem?_cons_succ, List.set_cons_zero, List.set_cons_succ, true_and, and_true, Nat.reduceAdd, Nat.reduceLeDiff, S6_runs, S6_partsPlain, q3, q5, hp, hm, h26, mmL_24, mmL_25, mmL_26, ppM_mm, List.cons_append, List.nil_append, nn, false_implies, true_implies, implies_true, and_true, true_and, not_true_eq_false, not_false_eq_true, eq_self]
      have l1 : ptL K = [12] := by unfold ptL; rw [if_neg c3, if_neg c5]
      have l2 : ptM K = [] := by unfold ptM; rw [if_neg c5]
      unfold ptV pmH at hQ
      rw [l1, l2, if_neg c3, if_neg c3, if_neg c5] at hQ
      unfold ppV ppM
      by_cases c : h 41 25 - h 41 24 = 0
      · rw [if_pos c, if_pos c] at hQ ⊢
        exact hQ
      · rw [if_neg c, if_neg c] at hQ ⊢
        exact hQ
def S6_leavesPlain : Sp := fun av h Q => match av with | [.ref p, .int x] => p = 41 ∧ PM h ∧ KM h ∧ Q (some (.int (thV (ix (h 41 23)) (h 41 24) (h 41 25) x ^^^ 180))) (mmL h (13 :: thL (ix (h 41 23)))) | _ => False
theorem rn6_leavesPlain {h : Hp} {Q : Po} {p : Nat} {x : Int32} (hS : S6_leavesPlain [.ref p, .int x] h Q) : Rn (T6_leavesPlain Q S6_runs S6_thanks) (0, [some (.ref p), some (.int x)], [], h) := by
  obtain ⟨rfl, hp, hk, hQ⟩ := hS
  have hm := PM_mm hp
  have km := KM_mm hk
  refine Rn_in C6_leavesPlain 60 ?_
  simp only [x6_leavesPlain_0, x6_leavesPlain_1, x6_leavesPlain_3, x6_leavesPlain_6, x6_leavesPlain_7, x6_leavesPlain_8, x6_leavesPlain_11, x6_leavesPlain_14, x6_leavesPlain_15, i_ald, i_cV, i_ic, i_ild, i_iret, i_ixor, oc_41, fv_41_0, fv_41_1, fv_41_2, fv_41_3, fv_41_4, ly_41_4, fv_41_5, fv_41_6, ly_41_6, fv_41_7, ly_41_7, fv_41_8, ly_41_8, fv_41_9, ly_41_9, fv_41_10, ly_41_10, fv_41_11, ly_41_11, fv_41_12, fv_41_13, fv_41_14, ly_41_14, fv_41_15, fv_41_16, fv_41_17, fv_41_18, fv_41_19, fv_41_20, fv_41_21, fv_41_22, ly_41_22, fv_41_23, ly_41_23, fv_41_24, ly_41_24, fv_41_25, ly_41_25, fv_41_26, ly_41_26, rd_42, al_42, rd_43, al_43, rd_44, al_44, rd_45, al_45, rd_46, al_46, rd_47, al_47, rd_48, al_48, rd_49, al_49, rd_50, al_50, rd_51, al_51, rd_52, al_52, rd_53, al_53, rd_54, al_54, rd_55, al_55, lck_0, lck_i, lck_r, lck_n, lck_l, csum_0, csum_i, csum_r, csum_l, pops_0, pops_s, psh_n, psh_s, List.getElem?_cons_zero, List.getElem?_cons_succ, List.set_cons_zero, List.set_cons_succ, true_and, and_true, Nat.reduceAdd, Nat.reduceLeDiff, S6_runs, S6_thanks, hp, hk, hm, km, mmL_23, mmL_24, mmL_25, mmL_app, List.cons_append, List.nil_append]
  exact hQ
def lmH (K : Nat) (g : Hp) : Hp := if K = 2 ∨ K = 4 then pmH K (mmL g (lvL K)) else mmL g (lvL K)
def S6_leavesBy : Sp := fun av h Q => match av with | [.ref p, .int x] => p = 41 ∧ PM h ∧ KM h ∧ h 41 26 = 0 ∧ Q (some (.int (lvV (ix (h 41 23)) (h 41 24) (h 41 25) x))) (lmH (ix (h 41 23)) h) | _ => False
theorem lvL_24 {K : Nat} (h : K = 2 ∨ K = 4) : lvL K = 31 :: 13 :: thL K := by unfold lvL; rw [if_pos h]
theorem lvL_o {K : Nat} (h : ¬ (K = 2 ∨ K = 4)) (h5 : ¬ K = 5) : lvL K = 13 :: thL K := by unfold lvL; rw [if_neg h, if_neg h5]
theorem n52 : ((5 : Int32) = 2) = False := by decide
theorem n54 : ((5 : Int32) = 4) = False := by decide
theorem rn6_leavesBy {h : Hp} {Q : Po} {p : Nat} {x : Int32} (hS : S6_leavesBy [.ref p, .int x] h Q) : Rn (T6_leavesBy Q S6_runs S6_leavesPlain S6_parts) (0, [some (.ref p), some (.int x), none], [], h) := by
  obtain ⟨rfl, hp, hk, h26, hQ⟩ := hS
  have hm := PM_mm hp
  have km := KM_mm hk
  obtain ⟨K, K6, e⟩ := of6 hk
  have eK : (h 41 23).toNatClampNeg = K := by rw [e]; exact ix_nI (by omega)
  rw [show ix (h 41 23) = K from eK] at hQ
  by_cases c24 : K = 2 ∨ K = 4
  · rw [lvV_24 c24, lmH, if_pos c24, lvL_24 c24] at hQ
    have fin : S6_runs [.ref 41, .int 31] h (fun v h1 => S6_leavesPlain [.ref 41, .int x] h1 (fun v2 h2 => S6_parts [.ref 41, .int (h2 41 24)] h2 (fun v3 h3 => match v2, v3 with | some (.int a), some (.int b) => Q (some (.int (a + b))) h3 | _, _ => False))) := by
      refine ⟨rfl, hp, rfl, mmL_PM _ hp, by rw [KM, mmL_23]; exact hk, ?_⟩
      rw [mmL_app, mmL_23, mmL_24, mmL_25, show ix (h 41 23) = K from eK]
      refine ⟨rfl, mmL_PM _ hp, by rw [KM, mmL_23]; exact hk, by rw [mmL_26]; exact h26, ?_⟩
      rw [mmL_23, mmL_24, mmL_25, show ix (h 41 23) = K from eK]
      exact hQ
    simp only [S6_runs, S6_leavesPlain, S6_parts, true_and] at fin
    refine Rn_in C6_leavesBy 60 ?_
    by_cases c2 : h 41 23 = 2
    · simp only [x6_leavesBy_0, x6_leavesBy_1, x6_leavesBy_4, x6_leavesBy_5, x6_leavesBy_8, x6_leavesBy_9, x6_leavesBy_12, x6_leavesBy_13, x6_leavesBy_16, x6_leavesBy_17, x6_leavesBy_19, x6_leavesBy_22, x6_leavesBy_23, x6_leavesBy_24, x6_leavesBy_27, x6_leavesBy_28, x6_leavesBy_29, x6_leavesBy_30, x6_leavesBy_31, x6_leavesBy_34, x6_leavesBy_37, x6_leavesBy_38, x6_leavesBy_39, x6_leavesBy_40, x6_leavesBy_43, x6_leavesBy_44, x6_leavesBy_47, x6_leavesBy_48, x6_leavesBy_50, x6_leavesBy_53, x6_leavesBy_54, x6_leavesBy_55, x6_leavesBy_58, x6_leavesBy_59, x6_leavesBy_60, x6_leavesBy_61, x6_leavesBy_62, x6_leavesBy_63, x6_leavesBy_66, i_ald, i_cV, i_get, i_iadd, i_ic, i_ic_eq, i_ic_ne, i_ild, i_iret, i_ist, i_isub, oc_41, fv_41_0, fv_41_1, fv_41_2, fv_41_3, fv_41_4, ly_41_4, fv_41_5, fv_41_6, ly_41_6, fv_41_7, ly_41_7, fv_41_8, ly_41_8, fv_41_9, ly_41_9, fv_41_10, ly_41_10, fv_41_11, ly_41_11, fv_41_12, fv_41_13, fv_41_14, ly_41_14, fv_41_15, fv_41_16, fv_41_17, fv_41_18, fv_41_19, fv_41_20, fv_41_21, fv_41_22, ly_41_22, fv_41_23, ly_41_23, fv_41_24, ly_41_24, fv_41_25, ly_41_25, fv_41_26, ly_41_26, rd_42, al_42, rd_43, al_43, rd_44, al_44, rd_45, al_45, rd_46, al_46, rd_47, al_47, rd_48, al_48, rd_49, al_49, rd_50, al_50, rd_51, al_51, rd_52, al_52, rd_53, al_53, rd_54, al_54, rd_55, al_55, lck_0, lck_i, lck_r, lck_n, lck_l, csum_0, csum_i, csum_r, csum_l, pops_0, pops_s, psh_n, psh_s, List.getElem?_cons_zero, List.getElem?_cons_succ, List.set_cons_zero, List.set_cons_succ, true_and, and_true, Nat.reduceAdd, Nat.reduceLeDiff, S6_runs, S6_leavesPlain, S6_parts, c2, nn, false_implies, true_implies, implies_true, and_true, true_and, not_true_eq_false, not_false_eq_true, eq_self]
      exact fin
    · have c4 : h 41 23 = 4 := by
        rcases c24 with z | z
        · exact absurd (by rw [e, z]; rfl) c2
        · rw [e, z]; rfl
      simp only [x6_leavesBy_0, x6_leavesBy_1, x6_leavesBy_4, x6_leavesBy_5, x6_leavesBy_8, x6_leavesBy_9, x6_leavesBy_12, x6_leavesBy_13, x6_leavesBy_16, x6_leavesBy_17, x6_leavesBy_19, x6_leavesBy_22, x6_leavesBy_23, x6_leavesBy_24, x6_leavesBy_27, x6_leavesBy_28, x6_leavesBy_29, x6_leavesBy_30, x6_leavesBy_31, x6_leavesBy_34, x6_leavesBy_37, x6_leavesBy_38, x6_leavesBy_39, x6_leavesBy_40, x6_leavesBy_43, x6_leavesBy_44, x6_leavesBy_47, x6_leavesBy_48, x6_leavesBy_50, x6_leavesBy_53, x6_leavesBy_54, x6_leavesBy_55, x6_leavesBy_58, x6_leavesBy_59, x6_leavesBy_60, x6_leavesBy_61, x6_leavesBy_62, x6_leavesBy_63, x6_leavesBy_66, i_ald, i_cV, i_get, i_iadd, i_ic, i_ic_eq, i_ic_ne, i_ild, i_iret, i_ist, i_isub, oc_41, fv_41_0, fv_41_1, fv_41_2, fv_41_3, fv_41_4, ly_41_4, fv_41_5, fv_41_6, ly_41_6, fv_41_7, ly_41_7, fv_41_8, ly_41_8, fv_41_9, ly_41_9, fv_41_10, ly_41_10, fv_41_11, ly_41_11, fv_41_12, fv_41_13, fv_41_14, ly_41_14, fv_41_15, fv_41_16, fv_41_17, fv_41_18, fv_41_19, fv_41_20, fv_41_21, fv_41_22, ly_41_22, fv_41_23, ly_41_23, fv_41_24, ly_41_24, fv_41_25, ly_41_25, fv_41_26, ly_41_26, rd_42, al_42, rd_43, al_43, rd_44, al_44, rd_45, al_45, rd_46, al_46, rd_47, al_47, rd_48, al_48, rd_49, al_49, rd_50, al_50, rd_51, al_51, rd_52, al_52, rd_53, al_53, rd_54, al_54, rd_55, al_55, lck_0, lck_i, lck_r, lck_n, lck_l, csum_0, csum_i, csum_r, csum_l, pops_0, pops_s, psh_n, psh_s, List.getElem?_cons_zero, List.getElem?_cons_succ, List.set_cons_zero, List.set_cons_succ, true_and, and_true, Nat.reduceAdd, Nat.reduceLeDiff, S6_runs, S6_leavesPlain, S6_parts, c2, c4, ne_4_2, nn, false_implies, true_implies, implies_true, and_true, true_and, not_true_eq_false, not_false_eq_true, eq_self]
      exact fin
  · have c2 : ¬ h 41 23 = 2 := by rw [e]; exact fun q => c24 (Or.inl ((nI_eq (b := 2) (by omega) (by decide)).mp q))
    have c4 : ¬ h 41 23 = 4 := by rw [e]; exact fun q => c24 (Or.inr ((nI_eq (b := 4) (by omega) (by decide)).mp q))
    rw [lmH, if_neg c24] at hQ
    by_cases c5 : K = 5
    · have q5 : h 41 23 = 5 := by rw [e, c5]; rfl
      have eL : lvL 5 = 60 :: 13 :: thL 5 := rfl
      subst c5
      rw [lvV_5, eL] at hQ
      refine Rn_in C6_leavesBy 60 ?_
      simp only [x6_leavesBy_0, x6_leavesBy_1, x6_leavesBy_4, x6_leavesBy_5, x6_leavesBy_8, x6_leavesBy_9, x6_leavesBy_12, x6_leavesBy_13, x6_leavesBy_16, x6_leavesBy_17, x6_leavesBy_19, x6_leavesBy_22, x6_leavesBy_23, x6_leavesBy_24, x6_leavesBy_27, x6_leavesBy_28, x6_leavesBy_29, x6_leavesBy_30, x6_leavesBy_31, x6_leavesBy_34, x6_leavesBy_37, x6_leavesBy_38, x6_leavesBy_39, x6_leavesBy_40, x6_leavesBy_43, x6_leavesBy_44, x6_leavesBy_47, x6_leavesBy_48, x6_leavesBy_50, x6_leavesBy_53, x6_leavesBy_54, x6_leavesBy_55, x6_leavesBy_58, x6_leavesBy_59, x6_leavesBy_60, x6_leavesBy_61, x6_leavesBy_62, x6_leavesBy_63, x6_leavesBy_66, i_ald, i_cV, i_get, i_iadd, i_ic, i_ic_eq, i_ic_ne, i_ild, i_iret, i_ist, i_isub, oc_41, fv_41_0, fv_41_1, fv_41_2, fv_41_3, fv_41_4, ly_41_4, fv_41_5, fv_41_6, ly_41_6, fv_41_7, ly_41_7, fv_41_8, ly_41_8, fv_41_9, ly_41_9, fv_41_10, ly_41_10, fv_41_11, ly_41_11, fv_41_12, fv_41_13, fv_41_14, ly_41_14, fv_41_15, fv_41_16, fv_41_17, fv_41_18, fv_41_19, fv_41_20, fv_41_21, fv_41_22, ly_41_22, fv_41_23, ly_41_23, fv_41_24, ly_41_24, fv_41_25, ly_41_25, fv_41_26, ly_41_26, rd_42, al_42, rd_43, al_43, rd_44, al_44, rd_45, al_45, rd_46, al_46, rd_47, al_47, rd_48, al_48, rd_49, al_49, rd_50, al_50, rd_51, al_51, rd_52, al_52, rd_53, al_53, rd_54, al_54, rd_55, al_55, lck_0, lck_i, lck_r, lck_n, lck_l, csum_0, csum_i, csum_r, csum_l, pops_0, pops_s, psh_n, psh_s, List.getElem?_cons_zero, List.getElem?_cons_succ, List.set_cons_zero, List.set_cons_succ, true_and, and_true, Nat.reduceAdd, Nat.reduceLeDiff, S6_runs, S6_leavesPlain, c2, c4, q5, n52, n54, hp, hk, hm, km, mmL_23, mmL_24, mmL_25, mmL_app, List.cons_append, List.nil_append, nn, false_implies, true_implies, implies_true, and_true, true_and, not_true_eq_false, not_false_eq_true, eq_self]
      simp only [ixL]
      exact hQ
    · have q5 : ¬ h 41 23 = 5 := by rw [e]; exact fun q => c5 ((nI_eq (b := 5) (by omega) (by decide)).mp q)
      rw [lvV_o c24 c5, lvL_o c24 c5] at hQ
      refine Rn_in C6_leavesBy 60 ?_
      simp only [x6_leavesBy_0, x6_leavesBy_1, x6_leavesBy_4, x6_leavesBy_5, x6_leavesBy_8, x6_leavesBy_9, x6_leavesBy_12, x6_leavesBy_13, x6_leavesBy_16, x6_leavesBy_17, x6_leavesBy_19, x6_leavesBy_22, x6_leavesBy_23, x6_leavesBy_24, x6_leavesBy_27, x6_leavesBy_28, x6_leavesBy_29, x6_leavesBy_30, x6_leavesBy_31, x6_leavesBy_34, x6_leavesBy_37, x6_leavesBy_38, x6_leavesBy_39, x6_leavesBy_40, x6_leavesBy_43, x6_leavesBy_44, x6_leavesBy_47, x6_leavesBy_48, x6_leavesBy_50, x6_leavesBy_53, x6_leavesBy_54, x6_leavesBy_55, x6_leavesBy_58, x6_leavesBy_59, x6_leavesBy_60, x6_leavesBy_61, x6_leavesBy_62, x6_leavesBy_63, x6_leavesBy_66, i_ald, i_cV, i_get, i_iadd, i_ic, i_ic_eq, i_ic_ne, i_ild, i_iret, i_ist, i_isub, oc_41, fv_41_0, fv_41_1, fv_41_2, fv_41_3, fv_41_4, ly_41_4, fv_41_5, fv_41_6, ly_41_6, fv_41_7, ly_41_7, fv_41_8, ly_41_8, fv_41_9, ly_41_9, fv_41_10, ly_41_10, fv_41_11, ly_41_11, fv_41_12, fv_41_13, fv_41_14, ly_41_14, fv_41_15, fv_41_16, fv_41_17, fv_41_18, fv_41_19, fv_41_20, fv_41_21, fv_41_22, ly_41_22, fv_41_23, ly_41_23, fv_41_24, ly_41_24, fv_41_25, ly_41_25, fv_41_26, ly_41_26, rd_42, al_42, rd_43, al_43, rd_44, al_44, rd_45, al_45, rd_46, al_46, rd_47, al_47, rd_48, al_48, rd_49, al_49, rd_50, al_50, rd_51, al_51, rd_52, al_52, rd_53, al_53, rd_54, al_54, rd_55, al_55, lck_0, lck_i, lck_r, lck_n, lck_l, csum_0, csum_i, csum_r, csum_l, pops_0, pops_s, psh_n, psh_s, List.getElem?_cons_zero, List.getElem?_cons_succ, List.set_cons_zero, List.set_cons_succ, true_and, and_true, Nat.reduceAdd, Nat.reduceLeDiff, S6_runs, S6_leavesPlain, c2, c4, q5, hp, hk, ix, eK, nn, false_implies, true_implies, implies_true, and_true, true_and, not_true_eq_false, not_false_eq_true, eq_self]
      exact hQ
