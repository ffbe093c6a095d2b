/-! pairs: rows tried, rows judged -/
theorem rp_val {H G : GG} {k j t : Nat} (h : Geq H (occN G (j + 1))) (hk : k < nG G) (ht : t < 3) : (if nI t = 0 then H 5 k else if nI t = 1 then H 4 k else thG H 8 (nG H)) = rpN G k j t := by
  have hn : nG H = nG G := by rw [Geq_n h, occN_n]
  have e := h.2.2.2 k (by rw [hn]; exact hk)
  have et := thN_c h 8
  rw [occN_n] at et
  unfold rpN
  rcases (show t = 0 ∨ t = 1 ∨ t = 2 by omega) with rfl | rfl | rfl
  · rw [if_pos (by decide), if_pos rfl]; exact e.2.2.1
  · rw [if_neg (by decide), if_pos (by decide), if_neg (by decide), if_pos rfl]; exact e.2.1
  · rw [if_neg (by decide), if_neg (by decide), if_neg (by decide), if_neg (by decide)]; exact et
def PvI (h : Hp) (G : GG) (k j t : Nat) (g : Hp) : Prop := FrR h g ∧ InvR (vg g 8) ∧ ∀ c, c < 3 * j + t → g 24 c = rpN G k (c / 3) (c % 3)
def S5_prove : Sp := fun av h Q => match av with | [.ref x, .int o, .int n] => Rn (T5_prove Q S1_has S1_copy S1_passOccasions S1_rowPart) (0, [some (.ref x), some (.int o), some (.int n), none, none], [], h) | _ => False
theorem rn5_prove {h : Hp} {Q : Po} {x : Nat} {o : Int32} {n : Int32} (hS : S5_prove [.ref x, .int o, .int n] h Q) : Rn (T5_prove Q S1_has S1_copy S1_passOccasions S1_rowPart) (0, [some (.ref x), some (.int o), some (.int n), none, none], [], h) := hS
def S6_prove : Sp := fun av h Q => match av with | [.ref x, .int o, .int n] => Rn (T6_prove Q S6_isOne S6_isIn S6_copyRow S6_goesOn S6_its S6_thoseIn) (0, [some (.ref x), some (.int o), some (.int n), none], [], h) | _ => False
theorem rn6_prove {h : Hp} {Q : Po} {x : Nat} {o : Int32} {n : Int32} (hS : S6_prove [.ref x, .int o, .int n] h Q) : Rn (T6_prove Q S6_isOne S6_isIn S6_copyRow S6_goesOn S6_its S6_thoseIn) (0, [some (.ref x), some (.int o), some (.int n), none], [], h) := hS
theorem lp5_proveI {h : Hp} {Q : Po} {G : GG} {k n j : Nat} (hk : k < nG G) (hk8 : k < 8) (hj : j < n) (hn : n ≤ 10) (next : ∀ g, PvI h G k (j + 1) 0 g → Geq (vg g 8) (occN G (j + 1)) → ∀ y, Rn (T5_prove Q S1_has S1_copy S1_passOccasions S1_rowPart) (37, [some (.ref 0), some (.int (nI k)), some (.int (nI n)), some (.int (nI j + 1)), y], [], g)) : ∀ d t, d + t = 3 → ∀ g, PvI h G k j t g → Geq (vg g 8) (occN G (j + 1)) → Rn (T5_prove Q S1_has S1_copy S1_passOccasions S1_rowPart) (53, [some (.ref 0), some (.int (nI k)), some (.int (nI n)), some (.int (nI j)), some (.int (nI t))], [], g)
  | 0, t, e, g, hg, hG => by
    have e : t = 3 := by omega
    subst e
    have nx := next g ⟨hg.1, hg.2.1, fun c hc => hg.2.2 c (by omega)⟩ hG
    refine Rn_go C5_prove 60 ?_
    simp only [x5_prove_0, x5_prove_1, x5_prove_4, x5_prove_5, x5_prove_8, x5_prove_11, x5_prove_12, x5_prove_13, x5_prove_16, x5_prove_17, x5_prove_19, x5_prove_22, x5_prove_23, x5_prove_24, x5_prove_25, x5_prove_28, x5_prove_29, x5_prove_32, x5_prove_35, x5_prove_36, k5_prove_37, t5_prove_37, x5_prove_38, x5_prove_39, x5_prove_42, x5_prove_43, x5_prove_46, x5_prove_47, x5_prove_50, x5_prove_51, k5_prove_53, t5_prove_53, x5_prove_55, x5_prove_56, x5_prove_59, x5_prove_60, x5_prove_63, x5_prove_64, x5_prove_65, x5_prove_66, x5_prove_68, x5_prove_69, x5_prove_70, x5_prove_73, x5_prove_74, x5_prove_76, x5_prove_79, x5_prove_80, x5_prove_83, x5_prove_86, x5_prove_89, x5_prove_92, x5_prove_93, x5_prove_94, x5_prove_97, x5_prove_98, i_ald, i_cV, i_get, i_goto, i_iadd, i_iast, i_ic, i_ic_ge, i_ic_le, i_ic_lt, i_if_eq, i_ild, i_imul, i_inc, i_iret, i_ist, i_put, oc_0, fv_0_0, fv_0_1, fv_0_2, fv_0_3, ly_0_3, fv_0_4, fv_0_5, fv_0_6, ly_0_6, fv_0_7, fv_0_8, fv_0_9, oc_1, fv_1_0, fv_1_1, fv_1_2, fv_1_3, fv_1_4, fv_1_5, fv_1_6, ly_1_6, fv_1_7, ly_1_7, fv_1_8, ly_1_8, rd_2, al_2, rd_3, al_3, rd_4, al_4, rd_5, al_5, rd_6, al_6, rd_7, al_7, oc_8, fv_8_0, fv_8_1, fv_8_2, fv_8_3, fv_8_4, fv_8_5, fv_8_6, ly_8_6, fv_8_7, ly_8_7, fv_8_8, ly_8_8, rd_9, al_9, rd_10, al_10, rd_11, al_11, rd_12, al_12, rd_13, al_13, rd_14, al_14, lck_0, lck_i, lck_r, lck_n, lck_l, csum_0, csum_i, csum_r, csum_l, pops_0, pops_s, psh_n, psh_s, List.getElem?_cons_zero, List.getElem?_cons_succ, List.set_cons_zero, List.set_cons_succ, true_and, and_true, Nat.reduceAdd, Nat.reduceLeDiff]
    exact ⟨fun _ => nx _, fun c => absurd (by decide) c⟩
  | d + 1, t, e, g, hg, hG => by
    have ih := lp5_proveI hk hk8 hj hn next d (t + 1) (by omega)
    rw [← nI_1] at ih
    have hlt : ¬ 3 ≤ nI t := Int32.not_le.mpr (nI_lt (b := 3) (by omega) (by decide))
    have k8 := nlt8 hk8
    have hx : (nI k).toNatClampNeg = k := ix_nI (by omega)
    obtain ⟨x1, x2⟩ := rw_ix j (by omega) t (by omega)
    obtain ⟨y1, y2⟩ := n30 (c := 3 * j + t) (by omega)
    have c8 : 0 ≤ g 8 6 ∧ g 8 6 ≤ 8 := hg.2.1.1
    have ev := rp_val hG hk (show t < 3 by omega)
    refine Rn_go C5_prove 60 ?_
    simp only [x5_prove_0, x5_prove_1, x5_prove_4, x5_prove_5, x5_prove_8, x5_prove_11, x5_prove_12, x5_prove_13, x5_prove_16, x5_prove_17, x5_prove_19, x5_prove_22, x5_prove_23, x5_prove_24, x5_prove_25, x5_prove_28, x5_prove_29, x5_prove_32, x5_prove_35, x5_prove_36, k5_prove_37, t5_prove_37, x5_prove_38, x5_prove_39, x5_prove_42, x5_prove_43, x5_prove_46, x5_prove_47, x5_prove_50, x5_prove_51, k5_prove_53, t5_prove_53, x5_prove_55, x5_prove_56, x5_prove_59, x5_prove_60, x5_prove_63, x5_prove_64, x5_prove_65, x5_prove_66, x5_prove_68, x5_prove_69, x5_prove_70, x5_prove_73, x5_prove_74, x5_prove_76, x5_prove_79, x5_prove_80, x5_prove_83, x5_prove_86, x5_prove_89, x5_prove_92, x5_prove_93, x5_prove_94, x5_prove_97, x5_prove_98, i_ald, i_cV, i_get, i_goto, i_iadd, i_iast, i_ic, i_ic_ge, i_ic_le, i_ic_lt, i_if_eq, i_ild, i_imul, i_inc, i_iret, i_ist, i_put, oc_0, fv_0_0, fv_0_1, fv_0_2, fv_0_3, ly_0_3, fv_0_4, fv_0_5, fv_0_6, ly_0_6, fv_0_7, fv_0_8, fv_0_9, oc_1, fv_1_0, fv_1_1, fv_1_2, fv_1_3, fv_1_4, fv_1_5, fv_1_6, ly_1_6, fv_1_7, ly_1_7, fv_1_8, ly_1_8, rd_2, al_2, rd_3, al_3, rd_4, al_4, rd_5, al_5, rd_6, al_6, rd_7, al_7, oc_8, fv_8_0, fv_8_1, fv_8_2, fv_8_3, fv_8_4, fv_8_5, fv_8_6, ly_8_6, fv_8_7, ly_8_7, fv_8_8, ly_8_8, rd_9, al_9, rd_10, al_10, rd_11, al_11, rd_12, al_12, rd_13, al_13, rd_14, al_14, rd_24, al_24, lck_0, lck_i, lck_r, lck_n, lck_l, csum_0, csum_i, csum_r, csum_l, pops_0, pops_s, psh_n, psh_s, List.getElem?_cons_zero, List.getElem?_cons_succ, List.set_cons_zero, List.set_cons_succ, true_and, and_true, Nat.reduceAdd, Nat.reduceLeDiff, S1_rowPart, GB_8, x1, y2, v30, ix, hx]
    refine ⟨fun c => absurd c hlt, fun _ => ⟨k8, c8, y1, ?_⟩⟩
    rw [ev]
    have e8 : Geq (vg (up2 g 24 (3 * j + t) (rpN G k j t)) 8) (vg g 8) := by
      rw [show (24 : Nat) = 8 + 16 from rfl, vg_up]
      exact Geq_hi (by decide)
    refine ih _ ⟨fun p p1 p2 => ?_, InvR_c e8.symm hg.2.1, fun c hc => ?_⟩ (e8.trans hG)
    · rw [up2_ne p2]; exact hg.1 p p1 p2
    · rw [up2_self, upd_ap]
      split
      · rename_i z
        rw [z, show (3 * j + t) / 3 = j by omega, show (3 * j + t) % 3 = t by omega]
      · exact hg.2.2 c (by omega)
theorem lp5_prove {h : Hp} {Q : Po} {G : GG} {k n : Nat} (hk : k < nG G) (hk8 : k < 8) (hn : n ≤ 10) (hQ : ∀ g, PvI h G k n 0 g → Q (some (.int (nI n))) (up2 g 0 6 (nI n))) : ∀ d j, d + j = n → ∀ g, PvI h G k j 0 g → Geq (vg g 8) (occN G j) → ∀ y, Rn (T5_prove Q S1_has S1_copy S1_passOccasions S1_rowPart) (37, [some (.ref 0), some (.int (nI k)), some (.int (nI n)), some (.int (nI j)), y], [], g)
  | 0, j, e, g, hg, hG, y => by
    have e : j = n := by omega
    subst e
    have nx := hQ g hg
    refine Rn_go C5_prove 60 ?_
    simp only [x5_prove_0, x5_prove_1, x5_prove_4, x5_prove_5, x5_prove_8, x5_prove_11, x5_prove_12, x5_prove_13, x5_prove_16, x5_prove_17, x5_prove_19, x5_prove_22, x5_prove_23, x5_prove_24, x5_prove_25, x5_prove_28, x5_prove_29, x5_prove_32, x5_prove_35, x5_prove_36, k5_prove_37, t5_prove_37, x5_prove_38, x5_prove_39, x5_prove_42, x5_prove_43, x5_prove_46, x5_prove_47, x5_prove_50, x5_prove_51, k5_prove_53, t5_prove_53, x5_prove_55, x5_prove_56, x5_prove_59, x5_prove_60, x5_prove_63, x5_prove_64, x5_prove_65, x5_prove_66, x5_prove_68, x5_prove_69, x5_prove_70, x5_prove_73, x5_prove_74, x5_prove_76, x5_prove_79, x5_prove_80, x5_prove_83, x5_prove_86, x5_prove_89, x5_prove_92, x5_prove_93, x5_prove_94, x5_prove_97, x5_prove_98, i_ald, i_cV, i_get, i_goto, i_iadd, i_iast, i_ic, i_ic_ge, i_ic_le, i_ic_lt, i_if_eq, i_ild, i_imul, i_inc, i_iret, i_ist, i_put, oc_0, fv_0_0, fv_0_1, fv_0_2, fv_0_3, ly_0_3, fv_0_4, fv_0_5, fv_0_6, ly_0_6, fv_0_7, fv_0_8, fv_0_9, oc_1, fv_1_0, fv_1_1, fv_1_2, fv_1_3, fv_1_4, fv_1_5, fv_1_6, ly_1_6, fv_1_7, ly_1_7, fv_1_8, ly_1_8, rd_2, al_2, rd_3, al_3, rd_4, al_4, rd_5, al_5, rd_6, al_6, rd_7, al_7, oc_8, fv_8_0, fv_8_1, fv_8_2, fv_8_3, fv_8_4, fv_8_5, fv_8_6, ly_8_6, fv_8_7, ly_8_7, fv_8_8, ly_8_8, rd_9, al_9, rd_10, al_10, rd_11, al_11, rd_12, al_12, rd_13, al_13, rd_14, al_14, lck_0, lck_i, lck_r, lck_n, lck_l, csum_0, csum_i, csum_r, csum_l, pops_0, pops_s, psh_n, psh_s, List.getElem?_cons_zero, List.getElem?_cons_succ, List.set_cons_zero, List.set_cons_succ, true_and, and_true, Nat.reduceAdd, Nat.reduceLeDiff]
    exact ⟨fun _ => nx, fun c => absurd (Int32.le_refl _) c⟩
  | d + 1, j, e, g, hg, hG, y => by
    have ih := lp5_prove hk hk8 hn hQ d (j + 1) (by omega)
    rw [← nI_1] at ih
    have hlt : ¬ nI n ≤ nI j := nI_ge (by omega) (by omega)
    have c8 : 0 ≤ g 8 6 ∧ g 8 6 ≤ 8 := hg.2.1.1
    have fr : Fr8 g (pg g 8 (occG (vg g 8))) := Hi8_fr (Hi8_occ1 (Hi8_0 g))
    have eG : Geq (vg (pg g 8 (occG (vg g 8))) 8) (occN G (j + 1)) := by
      rw [vg_pg]; exact occG_c hG hg.2.1
    have iG : InvR (vg (pg g 8 (occG (vg g 8))) 8) := by rw [vg_pg]; exact inv_occ hg.2.1
    have nx := lp5_proveI (h := h) (Q := Q) hk hk8 (j := j) (by omega) hn ih 3 0 (by omega) (pg g 8 (occG (vg g 8))) ⟨fun p p1 p2 => by rw [fr p p1]; exact hg.1 p p1 p2, iG, fun c hc => by rw [fr 24 (by omega)]; exact hg.2.2 c hc⟩ eG
    refine Rn_go C5_prove 60 ?_
    simp only [x5_prove_0, x5_prove_1, x5_prove_4, x5_prove_5, x5_prove_8, x5_prove_11, x5_prove_12, x5_prove_13, x5_prove_16, x5_prove_17, x5_prove_19, x5_prove_22, x5_prove_23, x5_prove_24, x5_prove_25, x5_prove_28, x5_prove_29, x5_prove_32, x5_prove_35, x5_prove_36, k5_prove_37, t5_prove_37, x5_prove_38, x5_prove_39, x5_prove_42, x5_prove_43, x5_prove_46, x5_prove_47, x5_prove_50, x5_prove_51, k5_prove_53, t5_prove_53, x5_prove_55, x5_prove_56, x5_prove_59, x5_prove_60, x5_prove_63, x5_prove_64, x5_prove_65, x5_prove_66, x5_prove_68, x5_prove_69, x5_prove_70, x5_prove_73, x5_prove_74, x5_prove_76, x5_prove_79, x5_prove_80, x5_prove_83, x5_prove_86, x5_prove_89, x5_prove_92, x5_prove_93, x5_prove_94, x5_prove_97, x5_prove_98, i_ald, i_cV, i_get, i_goto, i_iadd, i_iast, i_ic, i_ic_ge, i_ic_le, i_ic_lt, i_if_eq, i_ild, i_imul, i_inc, i_iret, i_ist, i_put, oc_0, fv_0_0, fv_0_1, fv_0_2, fv_0_3, ly_0_3, fv_0_4, fv_0_5, fv_0_6, ly_0_6, fv_0_7, fv_0_8, fv_0_9, oc_1, fv_1_0, fv_1_1, fv_1_2, fv_1_3, fv_1_4, fv_1_5, fv_1_6, ly_1_6, fv_1_7, ly_1_7, fv_1_8, ly_1_8, rd_2, al_2, rd_3, al_3, rd_4, al_4, rd_5, al_5, rd_6, al_6, rd_7, al_7, oc_8, fv_8_0, fv_8_1, fv_8_2, fv_8_3, fv_8_4, fv_8_5, fv_8_6, ly_8_6, fv_8_7, ly_8_7, fv_8_8, ly_8_8, rd_9, al_9, rd_10, al_10, rd_11, al_11, rd_12, al_12, rd_13, al_13, rd_14, al_14, lck_0, lck_i, lck_r, lck_n, lck_l, csum_0, csum_i, csum_r, csum_l, pops_0, pops_s, psh_n, psh_s, List.getElem?_cons_zero, List.getElem?_cons_succ, List.set_cons_zero, List.set_cons_succ, true_and, and_true, Nat.reduceAdd, Nat.reduceLeDiff, S1_passOccasions, GB_8, ix1, ix, occN_1]
    exact ⟨fun c => absurd c hlt, fun _ => ⟨by decide, c8, nx⟩⟩
theorem up_4842 (h : Hp) (b s : Nat → Int32) : upA (upA h 48 b) 42 s = upA (upA h 42 s) 48 b := by
  funext p q; simp only [upA]; grind
theorem up48 (h : Hp) (b : Nat → Int32) (k : Nat) (v : Int32) : up2 (upA h 48 b) 48 k v = upA h 48 (upd b k v) := by
  funext p q; simp only [up2, upA, upd]; grind
theorem upA_4842 (h : Hp) (b s : Nat → Int32) : upA (upA h 42 s) 48 b 42 = s := by
  funext q; simp [upA]
theorem upA_4844 (h : Hp) (a b s : Nat → Int32) : upA (upA (upA h 44 a) 42 s) 48 b 44 = a := by
  funext q; simp [upA]
theorem lp6_prove {h : Hp} {Q : Po} (hI : InvR (mv (h 42))) {k n : Nat} (hk : k < nG (mv (h 42))) (hn : n ≤ 10) (hQ : ∀ a b, (∀ c, c < 3 * n → b c = rpN (mv (h 42)) k (c / 3) (c % 3)) → Q (some (.int (nI n))) (up2 (upA (upA h 44 a) 48 b) 41 14 (nI n))) : ∀ d j, d + j = n → ∀ s b : Nat → Int32, mv s = occN (mv (h 42)) j → (∀ c, 47 ≤ c → s c = h 42 c) → (∀ c, c < 3 * j → b c = rpN (mv (h 42)) k (c / 3) (c % 3)) → Rn (T6_prove Q S6_isOne S6_isIn S6_copyRow S6_goesOn S6_its S6_thoseIn) (35, [some (.ref 41), some (.int (nI k)), some (.int (nI n)), some (.int (nI j))], [], upA (upA (upA h 44 (cp47 (h 42) (h 44))) 42 s) 48 b)
  | 0, j, e, s, b, hs, hh, hb => by
    have e : j = n := by omega
    subst e
    have nx := hQ (cp47 (h 42) (h 44)) b hb
    have bk := back42 hh
    refine Rn_go C6_prove 60 ?_
    simp only [x6_prove_0, x6_prove_1, x6_prove_2, x6_prove_5, x6_prove_8, x6_prove_9, x6_prove_10, x6_prove_11, x6_prove_14, x6_prove_17, x6_prove_20, x6_prove_21, x6_prove_22, x6_prove_23, x6_prove_26, x6_prove_27, x6_prove_30, x6_prove_33, x6_prove_34, k6_prove_35, t6_prove_35, x6_prove_36, x6_prove_37, x6_prove_40, x6_prove_41, x6_prove_44, x6_prove_45, x6_prove_48, x6_prove_49, x6_prove_50, x6_prove_51, x6_prove_52, x6_prove_53, x6_prove_54, x6_prove_57, x6_prove_58, x6_prove_59, x6_prove_62, x6_prove_63, x6_prove_64, x6_prove_65, x6_prove_66, x6_prove_67, x6_prove_68, x6_prove_69, x6_prove_70, x6_prove_73, x6_prove_74, x6_prove_75, x6_prove_78, x6_prove_79, x6_prove_80, x6_prove_81, x6_prove_82, x6_prove_83, x6_prove_84, x6_prove_86, x6_prove_89, x6_prove_90, x6_prove_93, x6_prove_96, x6_prove_97, x6_prove_100, x6_prove_101, x6_prove_104, x6_prove_107, x6_prove_108, x6_prove_109, x6_prove_112, x6_prove_113, i_ald, i_cS, i_cV, i_get, i_goto, i_i2l, i_iadd, i_iast, i_ic, i_ic_ge, i_if_eq, i_if_ne, i_ild, i_imul, i_inc, i_iret, i_ist, i_lc, i_put, oc_41, fv_41_0, fv_41_1, fv_41_2, fv_41_3, fv_41_4, ly_41_4, fv_41_5, fv_41_6, ly_41_6, fv_41_7, ly_41_7, fv_41_8, ly_41_8, fv_41_9, ly_41_9, fv_41_10, ly_41_10, fv_41_11, ly_41_11, fv_41_12, fv_41_13, fv_41_14, ly_41_14, fv_41_15, fv_41_16, fv_41_17, fv_41_18, fv_41_19, fv_41_20, fv_41_21, fv_41_22, ly_41_22, fv_41_23, ly_41_23, fv_41_24, ly_41_24, fv_41_25, ly_41_25, fv_41_26, ly_41_26, rd_42, al_42, rd_43, al_43, rd_44, al_44, rd_45, al_45, rd_46, al_46, rd_47, al_47, rd_48, al_48, rd_49, al_49, rd_50, al_50, rd_51, al_51, rd_52, al_52, rd_53, al_53, rd_54, al_54, rd_55, al_55, lck_0, lck_i, lck_r, lck_n, lck_l, csum_0, csum_i, csum_r, csum_l, pops_0, pops_s, psh_n, psh_s, List.getElem?_cons_zero, List.getElem?_cons_succ, List.set_cons_zero, List.set_cons_succ, true_and, and_true, Nat.reduceAdd, Nat.reduceLeDiff, S6_copyRow, RW_b, upA_4844, upA_4842, bk, up_4842, upA_same, upA_4442b]
    exact ⟨fun _ => nx, fun c => absurd (Int32.le_refl _) c⟩
  | d + 1, j, e, s, b, hs, hh, hb => by
    have ih := lp6_prove hI hk hn hQ d (j + 1) (by omega)
    rw [← nI_1] at ih
    have hlt : ¬ nI n ≤ nI j := nI_ge (by omega) (by omega)
    have n8 := nG_8 hI
    have k8 := nlt8 (j := k) (by omega)
    have hx : (nI k).toNatClampNeg = k := ix_nI (by omega)
    obtain ⟨x0, x1, x2⟩ := rw_ix3 j (by omega)
    obtain ⟨y1, y2⟩ := n30 (c := 3 * j) (by omega)
    obtain ⟨z1, z2⟩ := n30 (c := 3 * j + 1) (by omega)
    obtain ⟨v1, v2⟩ := n30 (c := 3 * j + 2) (by omega)
    have hIj := inv_occN hI j
    rw [← hs] at hIj
    refine Rn_go C6_prove 60 ?_
    simp only [x6_prove_0, x6_prove_1, x6_prove_2, x6_prove_5, x6_prove_8, x6_prove_9, x6_prove_10, x6_prove_11, x6_prove_14, x6_prove_17, x6_prove_20, x6_prove_21, x6_prove_22, x6_prove_23, x6_prove_26, x6_prove_27, x6_prove_30, x6_prove_33, x6_prove_34, k6_prove_35, t6_prove_35, x6_prove_36, x6_prove_37, x6_prove_40, x6_prove_41, x6_prove_44, x6_prove_45, x6_prove_48, x6_prove_49, x6_prove_50, x6_prove_51, x6_prove_52, x6_prove_53, x6_prove_54, x6_prove_57, x6_prove_58, x6_prove_59, x6_prove_62, x6_prove_63, x6_prove_64, x6_prove_65, x6_prove_66, x6_prove_67, x6_prove_68, x6_prove_69, x6_prove_70, x6_prove_73, x6_prove_74, x6_prove_75, x6_prove_78, x6_prove_79, x6_prove_80, x6_prove_81, x6_prove_82, x6_prove_83, x6_prove_84, x6_prove_86, x6_prove_89, x6_prove_90, x6_prove_93, x6_prove_96, x6_prove_97, x6_prove_100, x6_prove_101, x6_prove_104, x6_prove_107, x6_prove_108, x6_prove_109, x6_prove_112, x6_prove_113, i_ald, i_cS, i_cV, i_get, i_goto, i_i2l, i_iadd, i_iast, i_ic, i_ic_ge, i_if_eq, i_if_ne, i_ild, i_imul, i_inc, i_iret, i_ist, i_lc, i_put, oc_41, fv_41_0, fv_41_1, fv_41_2, fv_41_3, fv_41_4, ly_41_4, fv_41_5, fv_41_6, ly_41_6, fv_41_7, ly_41_7, fv_41_8, ly_41_8, fv_41_9, ly_41_9, fv_41_10, ly_41_10, fv_41_11, ly_41_11, fv_41_12, fv_41_13, fv_41_14, ly_41_14, fv_41_15, fv_41_16, fv_41_17, fv_41_18, fv_41_19, fv_41_20, fv_41_21, fv_41_22, ly_41_22, fv_41_23, ly_41_23, fv_41_24, ly_41_24, fv_41_25, ly_41_25, fv_41_26, ly_41_26, rd_42, al_42, rd_43, al_43, rd_44, al_44, rd_45, al_45, rd_46, al_46, rd_47, al_47, rd_48, al_48, rd_49, al_49, rd_50, al_50, rd_51, al_51, rd_52, al_52, rd_53, al_53, rd_54, al_54, rd_55, al_55, lck_0, lck_i, lck_r, lck_n, lck_l, csum_0, csum_i, csum_r, csum_l, pops_0, pops_s, psh_n, psh_s, List.getElem?_cons_zero, List.getElem?_cons_succ, List.set_cons_zero, List.set_cons_succ, true_and, and_true, Nat.reduceAdd, Nat.reduceLeDiff, S6_goesOn, S6_its, S6_thoseIn, upA_4842, up_4842, upA_same, up48, x0, x1, x2, y2, z2, v2, v30, t4, ix1, ix2, k8, ix, hx]
    refine ⟨fun c => absurd c hlt, fun _ => ⟨hIj, fun s1 a1 a2 => ?_⟩⟩
    have e1 : mv s1 = occN (mv (h 42)) (j + 1) := by rw [a1, hs]; rfl
    have c8 : 0 ≤ s1 0 ∧ s1 0 ≤ 8 := by
      have := (inv_occN hI (j + 1)).1
      rw [← e1] at this
      exact this
    have w0 : s1 (15 + 4 * k + 2) = rpN (mv (h 42)) k j 0 := by
      rw [← mv_5 s1 k, e1]; rfl
    have w1 : s1 (15 + 4 * k + 1) = rpN (mv (h 42)) k j 1 := by
      rw [← mv_4 s1 k, e1]; rfl
    have w2 : thG (mv s1) 8 (nG (mv s1)) = rpN (mv (h 42)) k j 2 := by
      rw [e1, occN_n]; rfl
    rw [w0, w1, w2]
    refine ⟨y1, z1, c8, v1, ih s1 _ e1 (fun c hc => by rw [a2 c hc]; exact hh c hc) (fun c hc => ?_)⟩
    rw [upd_ap, upd_ap, upd_ap]
    split
    · rename_i q; rw [q, show (3 * j + 2) / 3 = j by omega, show (3 * j + 2) % 3 = 2 by omega]
    · split
      · rename_i q; rw [q, show (3 * j + 1) / 3 = j by omega, show (3 * j + 1) % 3 = 1 by omega]
      · split
        · rename_i q; rw [q, show (3 * j) / 3 = j by omega, show (3 * j) % 3 = 0 by omega]
        · exact hb c (by omega)
theorem Rel_prove {h g : Hp} (r : Rel h) (fr : FrR h g) {a b : Nat → Int32} {n : Nat} (hn : n ≤ 10) (hb : ∀ c, c < 3 * n → g 24 c = b c) : Rel (up2 (upA (upA (up2 g 0 6 (nI n)) 44 a) 48 b) 41 14 (nI n)) := by
  obtain ⟨rg, rk, rt, rw2, rs, rh, rd⟩ := r
  have q : ∀ p, (p < 8 ∨ 14 < p) → p ≠ 24 → p ≠ 0 → p ≠ 44 → p ≠ 48 → p ≠ 41 → up2 (upA (upA (up2 g 0 6 (nI n)) 44 a) 48 b) 41 14 (nI n) p = h p := fun p h1 h2 h3 h4 h5 h6 => by rw [up2_ne h6, upA_ne h5, upA_ne h4, up2_ne h3, fr p h1 h2]
  have q0 : ∀ k, k ≠ 6 → up2 (upA (upA (up2 g 0 6 (nI n)) 44 a) 48 b) 41 14 (nI n) 0 k = h 0 k := fun k hk => by
    rw [up2_ne (by decide), upA_ne (by decide), upA_ne (by decide), up2_self, upd_ap, if_neg hk, fr 0 (by omega) (by omega)]
  have q41 : ∀ k, k ≠ 14 → up2 (upA (upA (up2 g 0 6 (nI n)) 44 a) 48 b) 41 14 (nI n) 41 k = h 41 k := fun k hk => by
    rw [up2_self, upd_ap, if_neg hk, upA_ne (by decide), upA_ne (by decide), up2_ne (by decide), fr 41 (by omega) (by omega)]
  refine ⟨RG_s rg (fun p _ _ => q p (by omega) (by omega) (by omega) (by omega) (by omega) (by omega)) (q 42 (by omega) (by omega) (by omega) (by omega) (by omega) (by omega)), RK_s rk (fun p _ _ => q p (by omega) (by omega) (by omega) (by omega) (by omega) (by omega)) (q 43 (by omega) (by omega) (by omega) (by omega) (by omega) (by omega)) (q0 3 (by omega)) (q41 4 (by omega)), RT_s rt (by rw [q 22 (by omega) (by omega) (by omega) (by omega) (by omega) (by omega)]) (q41 6 (by omega)) (q 23 (by omega) (by omega) (by omega) (by omega) (by omega) (by omega)) (q 46 (by omega) (by omega) (by omega) (by omega) (by omega) (by omega)), ?_, RS_s rs (fun p _ _ => q p (by omega) (by omega) (by omega) (by omega) (by omega) (by omega)) (q 49 (by omega) (by omega) (by omega) (by omega) (by omega) (by omega)) (q 50 (by omega) (by omega) (by omega) (by omega) (by omega) (by omega)) (q 51 (by omega) (by omega) (by omega) (by omega) (by omega) (by omega)), RH_s rh (fun p _ _ => q p (by omega) (by omega) (by omega) (by omega) (by omega) (by omega)) (q 52 (by omega) (by omega) (by omega) (by omega) (by omega) (by omega)) (q 53 (by omega) (by omega) (by omega) (by omega) (by omega) (by omega)) (q 54 (by omega) (by omega) (by omega) (by omega) (by omega) (by omega)), RD_s rd (by rw [q 39 (by omega) (by omega) (by omega) (by omega) (by omega) (by omega)]) (q41 22 (by omega)) (q 40 (by omega) (by omega) (by omega) (by omega) (by omega) (by omega)) (q 55 (by omega) (by omega) (by omega) (by omega) (by omega) (by omega))⟩
  unfold RW2
  have e0 : up2 (upA (upA (up2 g 0 6 (nI n)) 44 a) 48 b) 41 14 (nI n) 0 6 = nI n := by
    rw [up2_ne (by decide), upA_ne (by decide), upA_ne (by decide), up2_self, upd_ap, if_pos rfl]
  have e1 : up2 (upA (upA (up2 g 0 6 (nI n)) 44 a) 48 b) 41 14 (nI n) 41 14 = nI n := by
    rw [up2_self, upd_ap, if_pos rfl]
  have e24 : up2 (upA (upA (up2 g 0 6 (nI n)) 44 a) 48 b) 41 14 (nI n) 24 = g 24 := by
    rw [up2_ne (by decide), upA_ne (by decide), upA_ne (by decide), up2_ne (by decide)]
  have e48 : up2 (upA (upA (up2 g 0 6 (nI n)) 44 a) 48 b) 41 14 (nI n) 48 = b := by
    rw [up2_ne (by decide), upA_self]
  rw [e0, e1, e24, e48]
  refine ⟨rfl, ⟨nI_pos' (by omega), nI_le (b := 10) hn (by decide)⟩, fun c hc => hb c ?_⟩
  rw [show ix (nI n) = n from ix_nI (by omega)] at hc
  exact hc
theorem pr_prove {h : Hp} (r : Rel h) (o : Int32) (n : Int32) : S5_prove [.ref 0, .int o, .int n] h (fun rv h1 => S6_prove [.ref 41, .int o, .int n] h1 (fun rw h2 => rw = rv ∧ Rel h2)) := by
  obtain ⟨g0, g1, g2, g3, g4⟩ := raw r
  have hI := r.1.2.1
  have iM := InvR_c r.1.1 hI
  by_cases c : 0 ≤ o ∧ o < h 1 6
  · obtain ⟨o8, hn, q1, q2, q3, q4⟩ := g4 o c.1 c.2
    have c2 : 0 ≤ o ∧ o < h 42 0 := by rw [← g0.1]; exact c
    obtain ⟨k, hk, rfl⟩ := of8 o8.1 o8.2
    have hx2 : (nI k).toNatClampNeg = k := ix_nI (by omega)
    rw [show ix (nI k) = k from hx2] at hn
    by_cases ca : 1 ≤ n ∧ n ≤ 10
    · have ca1 : ¬ n < 1 := Int32.not_lt.mpr ca.1
      obtain ⟨m, hm, rfl⟩ : ∃ m, m ≤ 10 ∧ n = nI m := by
        have n0 : 0 ≤ n := by grind
        have := ix_lt (n := 11) n0 (show n < (11 : Int32) by grind) (by decide)
        exact ⟨ix n, by omega, (nI_ix n0).symm⟩
      have key : ∀ g, PvI h (vg h 1) k m 0 g → S6_prove [.ref 41, .int (nI k), .int (nI m)] (up2 g 0 6 (nI m)) (fun rw h2 => rw = some (.int (nI m)) ∧ Rel h2) := by
        intro g hg
        have e42 : up2 g 0 6 (nI m) 42 = h 42 := by rw [up2_ne (by decide), hg.1 42 (by omega) (by omega)]
        have nx := lp6_prove (h := up2 g 0 6 (nI m)) (Q := fun rw h2 => rw = some (.int (nI m)) ∧ Rel h2) (by rw [e42]; exact iM) (k := k) (n := m) (by rw [e42, ← Geq_n r.1.1]; exact hn) hm (fun a b hb => ⟨rfl, Rel_prove r hg.1 hm (fun j hj => by rw [hg.2.2 j (by omega), hb j hj, e42]; exact rpN_c r.1.1 hI hn _ _)⟩) m 0 (by omega) (h 42) (h 48) (by rw [e42]; rfl) (fun _ _ => by rw [e42]) (fun j hj => absurd hj (by omega))
        have e48 : ∀ f : Nat → Int32, upA (upA (upA (up2 g 0 6 (nI m)) 44 f) 42 (h 42)) 48 (h 48) = upA (up2 g 0 6 (nI m)) 44 f := by
          intro f
          have := upA_4442b (up2 g 0 6 (nI m)) f
          rw [e42] at this
          rw [this]
          have e : upA (up2 g 0 6 (nI m)) 44 f 48 = h 48 := by rw [upA_ne (by decide), up2_ne (by decide), hg.1 48 (by omega) (by omega)]
          have := upA_id (upA (up2 g 0 6 (nI m)) 44 f) 48
          rw [e] at this
          exact this
        rw [e48] at nx
        refine Rn_in C6_prove 60 ?_
        simp only [x6_prove_0, x6_prove_1, x6_prove_2, x6_prove_5, x6_prove_8, x6_prove_9, x6_prove_10, x6_prove_11, x6_prove_14, x6_prove_17, x6_prove_20, x6_prove_21, x6_prove_22, x6_prove_23, x6_prove_26, x6_prove_27, x6_prove_30, x6_prove_33, x6_prove_34, k6_prove_35, t6_prove_35, x6_prove_36, x6_prove_37, x6_prove_40, x6_prove_41, x6_prove_44, x6_prove_45, x6_prove_48, x6_prove_49, x6_prove_50, x6_prove_51, x6_prove_52, x6_prove_53, x6_prove_54, x6_prove_57, x6_prove_58, x6_prove_59, x6_prove_62, x6_prove_63, x6_prove_64, x6_prove_65, x6_prove_66, x6_prove_67, x6_prove_68, x6_prove_69, x6_prove_70, x6_prove_73, x6_prove_74, x6_prove_75, x6_prove_78, x6_prove_79, x6_prove_80, x6_prove_81, x6_prove_82, x6_prove_83, x6_prove_84, x6_prove_86, x6_prove_89, x6_prove_90, x6_prove_93, x6_prove_96, x6_prove_97, x6_prove_100, x6_prove_101, x6_prove_104, x6_prove_107, x6_prove_108, x6_prove_109, x6_prove_112, x6_prove_113, i_ald, i_cS, i_cV, i_get, i_goto, i_i2l, i_iadd, i_iast, i_ic, i_ic_ge, i_if_eq, i_if_ne, i_ild, i_imul, i_inc, i_iret, i_ist, i_lc, i_put, oc_41, fv_41_0, fv_41_1, fv_41_2, fv_41_3, fv_41_4, ly_41_4, fv_41_5, fv_41_6, ly_41_6, fv_41_7, ly_41_7, fv_41_8, ly_41_8, fv_41_9, ly_41_9, fv_41_10, ly_41_10, fv_41_11, ly_41_11, fv_41_12, fv_41_13, fv_41_14, ly_41_14, fv_41_15, fv_41_16, fv_41_17, fv_41_18, fv_41_19, fv_41_20, fv_41_21, fv_41_22, ly_41_22, fv_41_23, ly_41_23, fv_41_24, ly_41_24, fv_41_25, ly_41_25, fv_41_26, ly_41_26, rd_42, al_42, rd_43, al_43, rd_44, al_44, rd_45, al_45, rd_46, al_46, rd_47, al_47, rd_48, al_48, rd_49, al_49, rd_50, al_50, rd_51, al_51, rd_52, al_52, rd_53, al_53, rd_54, al_54, rd_55, al_55, lck_0, lck_i, lck_r, lck_n, lck_l, csum_0, csum_i, csum_r, csum_l, pops_0, pops_s, psh_n, psh_s, List.getElem?_cons_zero, List.getElem?_cons_succ, List.set_cons_zero, List.set_cons_succ, true_and, and_true, Nat.reduceAdd, Nat.reduceLeDiff, S6_isOne, S6_isIn, S6_copyRow, RW_a, hsB_0, bIn_0, lo_1, hi_10, ca, e42, c2, nn, false_implies, true_implies, implies_true, and_true, true_and, not_true_eq_false, not_false_eq_true, eq_self]
        rw [e42] at nx
        exact nx
      obtain ⟨eC, iC⟩ := cp8 h hI
      have hC := Hi8_fr (Hi8_cp (vg h 8) (vg h 1) (Hi8_0 h))
      have nx := lp5_prove (h := h) (Q := fun rv h1 => S6_prove [.ref 41, .int (nI k), .int (nI m)] h1 (fun rw h2 => rw = rv ∧ Rel h2)) hn hk hm key m 0 (by omega) (pg h 8 (cpG (vg h 8) (vg h 1))) ⟨fun p p1 _ => hC p p1, by rw [vg_pg]; exact iC, fun j hj => absurd hj (by omega)⟩ (by rw [vg_pg]; exact eC) none
      refine Rn_in C5_prove 60 ?_
      simp only [x5_prove_0, x5_prove_1, x5_prove_4, x5_prove_5, x5_prove_8, x5_prove_11, x5_prove_12, x5_prove_13, x5_prove_16, x5_prove_17, x5_prove_19, x5_prove_22, x5_prove_23, x5_prove_24, x5_prove_25, x5_prove_28, x5_prove_29, x5_prove_32, x5_prove_35, x5_prove_36, k5_prove_37, t5_prove_37, x5_prove_38, x5_prove_39, x5_prove_42, x5_prove_43, x5_prove_46, x5_prove_47, x5_prove_50, x5_prove_51, k5_prove_53, t5_prove_53, x5_prove_55, x5_prove_56, x5_prove_59, x5_prove_60, x5_prove_63, x5_prove_64, x5_prove_65, x5_prove_66, x5_prove_68, x5_prove_69, x5_prove_70, x5_prove_73, x5_prove_74, x5_prove_76, x5_prove_79, x5_prove_80, x5_prove_83, x5_prove_86, x5_prove_89, x5_prove_92, x5_prove_93, x5_prove_94, x5_prove_97, x5_prove_98, i_ald, i_cV, i_get, i_goto, i_iadd, i_iast, i_ic, i_ic_ge, i_ic_le, i_ic_lt, i_if_eq, i_ild, i_imul, i_inc, i_iret, i_ist, i_put, oc_0, fv_0_0, fv_0_1, fv_0_2, fv_0_3, ly_0_3, fv_0_4, fv_0_5, fv_0_6, ly_0_6, fv_0_7, fv_0_8, fv_0_9, oc_1, fv_1_0, fv_1_1, fv_1_2, fv_1_3, fv_1_4, fv_1_5, fv_1_6, ly_1_6, fv_1_7, ly_1_7, fv_1_8, ly_1_8, rd_2, al_2, rd_3, al_3, rd_4, al_4, rd_5, al_5, rd_6, al_6, rd_7, al_7, oc_8, fv_8_0, fv_8_1, fv_8_2, fv_8_3, fv_8_4, fv_8_5, fv_8_6, ly_8_6, fv_8_7, ly_8_7, fv_8_8, ly_8_8, rd_9, al_9, rd_10, al_10, rd_11, al_11, rd_12, al_12, rd_13, al_13, rd_14, al_14, lck_0, lck_i, lck_r, lck_n, lck_l, csum_0, csum_i, csum_r, csum_l, pops_0, pops_s, psh_n, psh_s, List.getElem?_cons_zero, List.getElem?_cons_succ, List.set_cons_zero, List.set_cons_succ, true_and, and_true, Nat.reduceAdd, Nat.reduceLeDiff, S1_has, S1_copy, CP_81, GB_1, b2_0, c, ca, ca1, nn, false_implies, true_implies, implies_true, and_true, true_and, not_true_eq_false, not_false_eq_true, eq_self]
      exact nx
    · have z : S6_prove [.ref 41, .int (nI k), .int n] h (fun rw h2 => rw = some (.int (-1)) ∧ Rel h2) := by
        refine Rn_in C6_prove 60 ?_
        simp only [x6_prove_0, x6_prove_1, x6_prove_2, x6_prove_5, x6_prove_8, x6_prove_9, x6_prove_10, x6_prove_11, x6_prove_14, x6_prove_17, x6_prove_20, x6_prove_21, x6_prove_22, x6_prove_23, x6_prove_26, x6_prove_27, x6_prove_30, x6_prove_33, x6_prove_34, k6_prove_35, t6_prove_35, x6_prove_36, x6_prove_37, x6_prove_40, x6_prove_41, x6_prove_44, x6_prove_45, x6_prove_48, x6_prove_49, x6_prove_50, x6_prove_51, x6_prove_52, x6_prove_53, x6_prove_54, x6_prove_57, x6_prove_58, x6_prove_59, x6_prove_62, x6_prove_63, x6_prove_64, x6_prove_65, x6_prove_66, x6_prove_67, x6_prove_68, x6_prove_69, x6_prove_70, x6_prove_73, x6_prove_74, x6_prove_75, x6_prove_78, x6_prove_79, x6_prove_80, x6_prove_81, x6_prove_82, x6_prove_83, x6_prove_84, x6_prove_86, x6_prove_89, x6_prove_90, x6_prove_93, x6_prove_96, x6_prove_97, x6_prove_100, x6_prove_101, x6_prove_104, x6_prove_107, x6_prove_108, x6_prove_109, x6_prove_112, x6_prove_113, i_ald, i_cS, i_cV, i_get, i_goto, i_i2l, i_iadd, i_iast, i_ic, i_ic_ge, i_if_eq, i_if_ne, i_ild, i_imul, i_inc, i_iret, i_ist, i_lc, i_put, oc_41, fv_41_0, fv_41_1, fv_41_2, fv_41_3, fv_41_4, ly_41_4, fv_41_5, fv_41_6, ly_41_6, fv_41_7, ly_41_7, fv_41_8, ly_41_8, fv_41_9, ly_41_9, fv_41_10, ly_41_10, fv_41_11, ly_41_11, fv_41_12, fv_41_13, fv_41_14, ly_41_14, fv_41_15, fv_41_16, fv_41_17, fv_41_18, fv_41_19, fv_41_20, fv_41_21, fv_41_22, ly_41_22, fv_41_23, ly_41_23, fv_41_24, ly_41_24, fv_41_25, ly_41_25, fv_41_26, ly_41_26, rd_42, al_42, rd_43, al_43, rd_44, al_44, rd_45, al_45, rd_46, al_46, rd_47, al_47, rd_48, al_48, rd_49, al_49, rd_50, al_50, rd_51, al_51, rd_52, al_52, rd_53, al_53, rd_54, al_54, rd_55, al_55, lck_0, lck_i, lck_r, lck_n, lck_l, csum_0, csum_i, csum_r, csum_l, pops_0, pops_s, psh_n, psh_s, List.getElem?_cons_zero, List.getElem?_cons_succ, List.set_cons_zero, List.set_cons_succ, true_and, and_true, Nat.reduceAdd, Nat.reduceLeDiff, S6_isOne, S6_isIn, hsB_0, bIn_0, lo_1, hi_10, ca, c2, nn, false_implies, true_implies, implies_true, and_true, true_and, not_true_eq_false, not_false_eq_true, eq_self]
        exact r
      refine Rn_in C5_prove 60 ?_
      simp only [x5_prove_0, x5_prove_1, x5_prove_4, x5_prove_5, x5_prove_8, x5_prove_11, x5_prove_12, x5_prove_13, x5_prove_16, x5_prove_17, x5_prove_19, x5_prove_22, x5_prove_23, x5_prove_24, x5_prove_25, x5_prove_28, x5_prove_29, x5_prove_32, x5_prove_35, x5_prove_36, k5_prove_37, t5_prove_37, x5_prove_38, x5_prove_39, x5_prove_42, x5_prove_43, x5_prove_46, x5_prove_47, x5_prove_50, x5_prove_51, k5_prove_53, t5_prove_53, x5_prove_55, x5_prove_56, x5_prove_59, x5_prove_60, x5_prove_63, x5_prove_64, x5_prove_65, x5_prove_66, x5_prove_68, x5_prove_69, x5_prove_70, x5_prove_73, x5_prove_74, x5_prove_76, x5_prove_79, x5_prove_80, x5_prove_83, x5_prove_86, x5_prove_89, x5_prove_92, x5_prove_93, x5_prove_94, x5_prove_97, x5_prove_98, i_ald, i_cV, i_get, i_goto, i_iadd, i_iast, i_ic, i_ic_ge, i_ic_le, i_ic_lt, i_if_eq, i_ild, i_imul, i_inc, i_iret, i_ist, i_put, oc_0, fv_0_0, fv_0_1, fv_0_2, fv_0_3, ly_0_3, fv_0_4, fv_0_5, fv_0_6, ly_0_6, fv_0_7, fv_0_8, fv_0_9, oc_1, fv_1_0, fv_1_1, fv_1_2, fv_1_3, fv_1_4, fv_1_5, fv_1_6, ly_1_6, fv_1_7, ly_1_7, fv_1_8, ly_1_8, rd_2, al_2, rd_3, al_3, rd_4, al_4, rd_5, al_5, rd_6, al_6, rd_7, al_7, oc_8, fv_8_0, fv_8_1, fv_8_2, fv_8_3, fv_8_4, fv_8_5, fv_8_6, ly_8_6, fv_8_7, ly_8_7, fv_8_8, ly_8_8, rd_9, al_9, rd_10, al_10, rd_11, al_11, rd_12, al_12, rd_13, al_13, rd_14, al_14, lck_0, lck_i, lck_r, lck_n, lck_l, csum_0, csum_i, csum_r, csum_l, pops_0, pops_s, psh_n, psh_s, List.getElem?_cons_zero, List.getElem?_cons_succ, List.set_cons_zero, List.set_cons_succ, true_and, and_true, Nat.reduceAdd, Nat.reduceLeDiff, S1_has, GB_1, b2_0, c, nn, false_implies, true_implies, implies_true, and_true, true_and, not_true_eq_false, not_false_eq_true, eq_self]
      exact ⟨fun _ => z, fun c1 => ⟨fun c2 => absurd ⟨Int32.not_lt.mp c1, c2⟩ ca, fun _ => z⟩⟩
  · have c2 : ¬ (0 ≤ o ∧ o < h 42 0) := by rw [← g0.1]; exact c
    refine Rn_in C5_prove 60 ?_
    simp only [x5_prove_0, x5_prove_1, x5_prove_4, x5_prove_5, x5_prove_8, x5_prove_11, x5_prove_12, x5_prove_13, x5_prove_16, x5_prove_17, x5_prove_19, x5_prove_22, x5_prove_23, x5_prove_24, x5_prove_25, x5_prove_28, x5_prove_29, x5_prove_32, x5_prove_35, x5_prove_36, k5_prove_37, t5_prove_37, x5_prove_38, x5_prove_39, x5_prove_42, x5_prove_43, x5_prove_46, x5_prove_47, x5_prove_50, x5_prove_51, k5_prove_53, t5_prove_53, x5_prove_55, x5_prove_56, x5_prove_59, x5_prove_60, x5_prove_63, x5_prove_64, x5_prove_65, x5_prove_66, x5_prove_68, x5_prove_69, x5_prove_70, x5_prove_73, x5_prove_74, x5_prove_76, x5_prove_79, x5_prove_80, x5_prove_83, x5_prove_86, x5_prove_89, x5_prove_92, x5_prove_93, x5_prove_94, x5_prove_97, x5_prove_98, i_ald, i_cV, i_get, i_goto, i_iadd, i_iast, i_ic, i_ic_ge, i_ic_le, i_ic_lt, i_if_eq, i_ild, i_imul, i_inc, i_iret, i_ist, i_put, oc_0, fv_0_0, fv_0_1, fv_0_2, fv_0_3, ly_0_3, fv_0_4, fv_0_5, fv_0_6, ly_0_6, fv_0_7, fv_0_8, fv_0_9, oc_1, fv_1_0, fv_1_1, fv_1_2, fv_1_3, fv_1_4, fv_1_5, fv_1_6, ly_1_6, fv_1_7, ly_1_7, fv_1_8, ly_1_8, rd_2, al_2, rd_3, al_3, rd_4, al_4, rd_5, al_5, rd_6, al_6, rd_7, al_7, oc_8, fv_8_0, fv_8_1, fv_8_2, fv_8_3, fv_8_4, fv_8_5, fv_8_6, ly_8_6, fv_8_7, ly_8_7, fv_8_8, ly_8_8, rd_9, al_9, rd_10, al_10, rd_11, al_11, rd_12, al_12, rd_13, al_13, rd_14, al_14, lck_0, lck_i, lck_r, lck_n, lck_l, csum_0, csum_i, csum_r, csum_l, pops_0, pops_s, psh_n, psh_s, List.getElem?_cons_zero, List.getElem?_cons_succ, List.set_cons_zero, List.set_cons_succ, true_and, and_true, Nat.reduceAdd, Nat.reduceLeDiff, S1_has, GB_1, b2_0, c, nn, false_implies, true_implies, implies_true, and_true, true_and, not_true_eq_false, not_false_eq_true, eq_self]
    refine Rn_in C6_prove 60 ?_
    simp only [x6_prove_0, x6_prove_1, x6_prove_2, x6_prove_5, x6_prove_8, x6_prove_9, x6_prove_10, x6_prove_11, x6_prove_14, x6_prove_17, x6_prove_20, x6_prove_21, x6_prove_22, x6_prove_23, x6_prove_26, x6_prove_27, x6_prove_30, x6_prove_33, x6_prove_34, k6_prove_35, t6_prove_35, x6_prove_36, x6_prove_37, x6_prove_40, x6_prove_41, x6_prove_44, x6_prove_45, x6_prove_48, x6_prove_49, x6_prove_50, x6_prove_51, x6_prove_52, x6_prove_53, x6_prove_54, x6_prove_57, x6_prove_58, x6_prove_59, x6_prove_62, x6_prove_63, x6_prove_64, x6_prove_65, x6_prove_66, x6_prove_67, x6_prove_68, x6_prove_69, x6_prove_70, x6_prove_73, x6_prove_74, x6_prove_75, x6_prove_78, x6_prove_79, x6_prove_80, x6_prove_81, x6_prove_82, x6_prove_83, x6_prove_84, x6_prove_86, x6_prove_89, x6_prove_90, x6_prove_93, x6_prove_96, x6_prove_97, x6_prove_100, x6_prove_101, x6_prove_104, x6_prove_107, x6_prove_108, x6_prove_109, x6_prove_112, x6_prove_113, i_ald, i_cS, i_cV, i_get, i_goto, i_i2l, i_iadd, i_iast, i_ic, i_ic_ge, i_if_eq, i_if_ne, i_ild, i_imul, i_inc, i_iret, i_ist, i_lc, i_put, oc_41, fv_41_0, fv_41_1, fv_41_2, fv_41_3, fv_41_4, ly_41_4, fv_41_5, fv_41_6, ly_41_6, fv_41_7, ly_41_7, fv_41_8, ly_41_8, fv_41_9, ly_41_9, fv_41_10, ly_41_10, fv_41_11, ly_41_11, fv_41_12, fv_41_13, fv_41_14, ly_41_14, fv_41_15, fv_41_16, fv_41_17, fv_41_18, fv_41_19, fv_41_20, fv_41_21, fv_41_22, ly_41_22, fv_41_23, ly_41_23, fv_41_24, ly_41_24, fv_41_25, ly_41_25, fv_41_26, ly_41_26, rd_42, al_42, rd_43, al_43, rd_44, al_44, rd_45, al_45, rd_46, al_46, rd_47, al_47, rd_48, al_48, rd_49, al_49, rd_50, al_50, rd_51, al_51, rd_52, al_52, rd_53, al_53, rd_54, al_54, rd_55, al_55, lck_0, lck_i, lck_r, lck_n, lck_l, csum_0, csum_i, csum_r, csum_l, pops_0, pops_s, psh_n, psh_s, List.getElem?_cons_zero, List.getElem?_cons_succ, List.set_cons_zero, List.set_cons_succ, true_and, and_true, Nat.reduceAdd, Nat.reduceLeDiff, S6_isOne, hsB_0, c2, nn, false_implies, true_implies, implies_true, and_true, true_and, not_true_eq_false, not_false_eq_true, eq_self]
    exact r
