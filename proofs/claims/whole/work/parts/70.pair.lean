/-! pairs: graces taken from a sheet -/
def mgJ (G : GG) (f : Nat → Int32) (o j a k : Nat) : Int32 := if a = 4 ∧ o ≤ k ∧ k < o + j then clp (f (k - o)) else G a k
theorem mgJ_0 (G : GG) (f : Nat → Int32) (o : Nat) : mgJ G f o 0 = G := by
  funext a k; simp only [mgJ]; rw [if_neg (by omega)]
theorem mgJ_s (G : GG) (f : Nat → Int32) (o j : Nat) : up2 (mgJ G f o j) 4 (o + j) (clp (f j)) = mgJ G f o (j + 1) := by
  funext a k; simp only [up2, mgJ]
  by_cases c : a = 4
  · by_cases d : k = o + j
    · subst d
      simp only [c]
      simp
    · have : (o ≤ k ∧ k < o + (j + 1)) ↔ (o ≤ k ∧ k < o + j) := by omega
      simp [c, d, this]
  · simp [c]
theorem mgJ_n {a : Nat} (G : GG) (f : Nat → Int32) (o j : Nat) (h : a ≠ 4) : mgJ G f o j a = G a := by
  funext k; simp only [mgJ]; rw [if_neg (fun q => h q.1)]
theorem mgJ_c {G H : GG} (h : Geq G H) {f g : Nat → Int32} {o j : Nat} (hf : ∀ k, k < j → f k = g k) : Geq (mgJ G f o j) (mgJ H g o j) := by
  refine ⟨⟨?_, ?_, ?_⟩, fun k hk => ?_, fun k hk => ?_, fun i hi => ?_⟩
  · rw [mgJ_n _ _ _ _ (by decide), mgJ_n _ _ _ _ (by decide)]; exact h.1.1
  · rw [mgJ_n _ _ _ _ (by decide), mgJ_n _ _ _ _ (by decide)]; exact h.1.2.1
  · rw [mgJ_n _ _ _ _ (by decide), mgJ_n _ _ _ _ (by decide)]; exact h.1.2.2
  · rw [mgJ_n _ _ _ _ (by decide), mgJ_n _ _ _ _ (by decide)]; exact h.2.1 k hk
  · rw [mgJ_n _ _ _ _ (by decide), mgJ_n _ _ _ _ (by decide)]; exact h.2.2.1 k hk
  · have hi2 : i < nG G := hi
    have e := h.2.2.2 i hi2
    rw [mgJ_n (a := 3) _ _ _ _ (by decide), mgJ_n (a := 3) _ _ _ _ (by decide), mgJ_n (a := 5) _ _ _ _ (by decide), mgJ_n (a := 5) _ _ _ _ (by decide), mgJ_n (a := 6) _ _ _ _ (by decide), mgJ_n (a := 6) _ _ _ _ (by decide)]
    refine ⟨e.1, ?_, e.2.2.1, e.2.2.2⟩
    simp only [mgJ]
    by_cases c : o ≤ i ∧ i < o + j
    · simp [c, hf (i - o) (by omega)]
    · simp [c, e.2.1]
theorem mgJ_i {G : GG} (h : InvG G) (f : Nat → Int32) (o j : Nat) : InvG (mgJ G f o j) := by
  refine ⟨⟨?_, fun i hi => ?_⟩, ?_, fun i hi => ?_⟩
  · rw [mgJ_n _ _ _ _ (by decide)]; exact h.1.1
  · have hi2 : i < nG G := hi
    rw [mgJ_n (a := 5) _ _ _ _ (by decide), mgJ_n (a := 6) _ _ _ _ (by decide), mgJ_n (a := 0) _ _ _ _ (by decide)]
    exact h.1.2 i hi2
  · rw [mgJ_n _ _ _ _ (by decide)]; exact h.2.1
  · have hi2 : i < nG G := hi
    rw [mgJ_n _ _ _ _ (by decide)]; exact h.2.2 i hi2
theorem pg1_hi {h : Hp} {G : GG} (hG : ∀ j, 6 < j → G j = vg h 1 j) {p : Nat} (hp : 7 < p) : pg h 1 G p = h p := by
  rw [show p = 1 + (p - 1) by omega, pg_ge, hG (p - 1) (by omega)]; rfl
theorem up1_4 (h : Hp) (k : Nat) (G : GG) (x : Int32) : up2 (pg h 1 G) 5 k x = pg h 1 (up2 G 4 k x) := up2_pg h 1 4 k G x
def S5_minds : Sp := fun av h Q => match av with | [.ref x, .int t, .int i, .int o, .int n] => Rn (T5_minds Q S5_isSheet S1_has S5_isWithin S5_heldGrace) (0, [some (.ref x), some (.int t), some (.int i), some (.int o), some (.int n), none, none], [], h) | _ => False
theorem rn5_minds {h : Hp} {Q : Po} {x : Nat} {t : Int32} {i : Int32} {o : Int32} {n : Int32} (hS : S5_minds [.ref x, .int t, .int i, .int o, .int n] h Q) : Rn (T5_minds Q S5_isSheet S1_has S5_isWithin S5_heldGrace) (0, [some (.ref x), some (.int t), some (.int i), some (.int o), some (.int n), none, none], [], h) := hS
def S6_minds : Sp := fun av h Q => match av with | [.ref x, .int t, .int i, .int o, .int n] => Rn (T6_minds Q S6_isSheet S6_isOne S6_isIn S6_lacks S6_within) (0, [some (.ref x), some (.int t), some (.int i), some (.int o), some (.int n), none], [], h) | _ => False
theorem rn6_minds {h : Hp} {Q : Po} {x : Nat} {t : Int32} {i : Int32} {o : Int32} {n : Int32} (hS : S6_minds [.ref x, .int t, .int i, .int o, .int n] h Q) : Rn (T6_minds Q S6_isSheet S6_isOne S6_isIn S6_lacks S6_within) (0, [some (.ref x), some (.int t), some (.int i), some (.int o), some (.int n), none], [], h) := hS
theorem lp5_minds {h : Hp} {Q : Po} {a b c m : Nat} {f : Nat → Int32} (ha : a < 4) (hm : c + m ≤ 8) (hb : b + m ≤ 40) (hf : ∀ j, f j = h (30 + a) (b + j)) (hQ : Q (some (.int (nI m))) (pg h 1 (mgJ (vg h 1) f c m))) : ∀ d j, d + j = m → Rn (T5_minds Q S5_isSheet S1_has S5_isWithin S5_heldGrace) (106, [some (.ref 0), some (.int (nI a)), some (.int (nI b)), some (.int (nI c)), some (.int (nI m)), some (.ref (26 + a)), some (.int (nI j))], [], pg h 1 (mgJ (vg h 1) f c j))
  | 0, j, e => by
    have e : j = m := by omega
    subst e
    refine Rn_go C5_minds 60 ?_
    simp only [x5_minds_0, x5_minds_1, x5_minds_4, x5_minds_7, x5_minds_8, x5_minds_11, x5_minds_12, x5_minds_15, x5_minds_18, x5_minds_20, x5_minds_22, x5_minds_25, x5_minds_28, x5_minds_29, x5_minds_31, x5_minds_32, x5_minds_33, x5_minds_36, x5_minds_39, x5_minds_42, x5_minds_43, x5_minds_44, x5_minds_45, x5_minds_48, x5_minds_49, x5_minds_50, x5_minds_52, x5_minds_54, x5_minds_57, x5_minds_58, x5_minds_61, x5_minds_63, x5_minds_64, x5_minds_66, x5_minds_69, x5_minds_72, x5_minds_74, x5_minds_75, x5_minds_76, x5_minds_79, x5_minds_80, x5_minds_82, x5_minds_85, x5_minds_88, x5_minds_90, x5_minds_92, x5_minds_95, x5_minds_96, x5_minds_97, x5_minds_100, x5_minds_102, x5_minds_103, x5_minds_104, k5_minds_106, t5_minds_106, x5_minds_108, x5_minds_110, x5_minds_113, x5_minds_114, x5_minds_117, x5_minds_120, x5_minds_121, x5_minds_123, x5_minds_124, x5_minds_126, x5_minds_129, x5_minds_130, x5_minds_132, x5_minds_133, x5_minds_134, x5_minds_137, x5_minds_138, x5_minds_141, x5_minds_144, x5_minds_146, i_aald, i_ald, i_ast, i_cS, i_cV, i_get, i_goto, i_iadd, i_iald, i_iast, i_ic, i_ic_ge, i_ic_gt, i_ic_le, i_ic_ne, i_if_eq, i_if_lt, i_ild, i_inc, i_iret, i_ist, i_isub, oc_0, fv_0_0, fv_0_1, fv_0_2, fv_0_3, ly_0_3, fv_0_4, fv_0_5, fv_0_6, ly_0_6, fv_0_7, fv_0_8, fv_0_9, oc_1, fv_1_0, fv_1_1, fv_1_2, fv_1_3, fv_1_4, fv_1_5, fv_1_6, ly_1_6, fv_1_7, ly_1_7, fv_1_8, ly_1_8, rd_2, al_2, rd_3, al_3, rd_4, al_4, rd_5, al_5, rd_6, al_6, rd_7, al_7, lck_0, lck_i, lck_r, lck_n, lck_l, csum_0, csum_i, csum_r, csum_l, pops_0, pops_s, psh_n, psh_s, List.getElem?_cons_zero, List.getElem?_cons_succ, List.set_cons_zero, List.set_cons_succ, true_and, and_true, Nat.reduceAdd, Nat.reduceLeDiff]
    exact ⟨fun _ => hQ, fun c => absurd (Int32.le_refl _) c⟩
  | d + 1, j, e => by
    have ih := lp5_minds ha hm hb hf hQ d (j + 1) (by omega)
    rw [← nI_1, ← mgJ_s] at ih
    have hlt : ¬ nI m ≤ nI j := nI_ge (by omega) (by omega)
    have k8 := nlt8 (j := c + j) (by omega)
    have hx : (nI (c + j)).toNatClampNeg = c + j := ix_nI (by omega)
    obtain ⟨y1, y2⟩ := n40 (c := b + j) (by omega)
    have e30 : pg h 1 (mgJ (vg h 1) f c j) (30 + a) = h (30 + a) := pg1_hi (fun j hj => mgJ_n _ _ _ _ (by omega)) (by omega)
    have hfj := hf j
    rcases (show a = 0 ∨ a = 1 ∨ a = 2 ∨ a = 3 by omega) with rfl | rfl | rfl | rfl
    all_goals
      simp only [Nat.reduceAdd] at ih e30 hfj
      refine Rn_go C5_minds 60 ?_
      simp only [x5_minds_0, x5_minds_1, x5_minds_4, x5_minds_7, x5_minds_8, x5_minds_11, x5_minds_12, x5_minds_15, x5_minds_18, x5_minds_20, x5_minds_22, x5_minds_25, x5_minds_28, x5_minds_29, x5_minds_31, x5_minds_32, x5_minds_33, x5_minds_36, x5_minds_39, x5_minds_42, x5_minds_43, x5_minds_44, x5_minds_45, x5_minds_48, x5_minds_49, x5_minds_50, x5_minds_52, x5_minds_54, x5_minds_57, x5_minds_58, x5_minds_61, x5_minds_63, x5_minds_64, x5_minds_66, x5_minds_69, x5_minds_72, x5_minds_74, x5_minds_75, x5_minds_76, x5_minds_79, x5_minds_80, x5_minds_82, x5_minds_85, x5_minds_88, x5_minds_90, x5_minds_92, x5_minds_95, x5_minds_96, x5_minds_97, x5_minds_100, x5_minds_102, x5_minds_103, x5_minds_104, k5_minds_106, t5_minds_106, x5_minds_108, x5_minds_110, x5_minds_113, x5_minds_114, x5_minds_117, x5_minds_120, x5_minds_121, x5_minds_123, x5_minds_124, x5_minds_126, x5_minds_129, x5_minds_130, x5_minds_132, x5_minds_133, x5_minds_134, x5_minds_137, x5_minds_138, x5_minds_141, x5_minds_144, x5_minds_146, i_aald, i_ald, i_ast, i_cS, i_cV, i_get, i_goto, i_iadd, i_iald, i_iast, i_ic, i_ic_ge, i_ic_gt, i_ic_le, i_ic_ne, i_if_eq, i_if_lt, i_ild, i_inc, i_iret, i_ist, i_isub, oc_0, fv_0_0, fv_0_1, fv_0_2, fv_0_3, ly_0_3, fv_0_4, fv_0_5, fv_0_6, ly_0_6, fv_0_7, fv_0_8, fv_0_9, oc_1, fv_1_0, fv_1_1, fv_1_2, fv_1_3, fv_1_4, fv_1_5, fv_1_6, ly_1_6, fv_1_7, ly_1_7, fv_1_8, ly_1_8, rd_2, al_2, rd_3, al_3, rd_4, al_4, rd_5, al_5, rd_6, al_6, rd_7, al_7, oc_26, fv_26_0, fv_26_1, ly_26_1, fv_26_2, ly_26_2, oc_27, fv_27_0, fv_27_1, ly_27_1, fv_27_2, ly_27_2, oc_28, fv_28_0, fv_28_1, ly_28_1, fv_28_2, ly_28_2, oc_29, fv_29_0, fv_29_1, ly_29_1, fv_29_2, ly_29_2, rd_30, al_30, rd_31, al_31, rd_32, al_32, rd_33, al_33, lck_0, lck_i, lck_r, lck_n, lck_l, csum_0, csum_i, csum_r, csum_l, pops_0, pops_s, psh_n, psh_s, List.getElem?_cons_zero, List.getElem?_cons_succ, List.set_cons_zero, List.set_cons_succ, true_and, and_true, Nat.reduceAdd, Nat.reduceLeDiff, S5_heldGrace, nI_add, v8, v40, hx, y2, e30, up1_4]
      rw [← hfj]
      exact ⟨fun c => absurd c hlt, fun _ => ⟨y1, k8, ih⟩⟩
theorem lp6_minds {h : Hp} {Q : Po} {a b c m : Nat} {f : Nat → Int32} (ha : a < 4) (hm : c + m ≤ 8) (hb : b + m ≤ 40) (hf : ∀ j, f j = h 51 (40 * a + (b + j))) (hQ : ∀ s, mv s = mgJ (mv (h 42)) f c m → Q (some (.int (nI m))) (upA h 42 s)) : ∀ d j, d + j = m → ∀ s, mv s = mgJ (mv (h 42)) f c j → Rn (T6_minds Q S6_isSheet S6_isOne S6_isIn S6_lacks S6_within) (98, [some (.ref 41), some (.int (nI a)), some (.int (nI b)), some (.int (nI c)), some (.int (nI m)), some (.int (nI j))], [], upA h 42 s)
  | 0, j, e, s, hs => by
    have e : j = m := by omega
    subst e
    have nx := hQ s hs
    refine Rn_go C6_minds 60 ?_
    simp only [x6_minds_0, x6_minds_1, x6_minds_4, x6_minds_7, x6_minds_8, x6_minds_9, x6_minds_12, x6_minds_15, x6_minds_17, x6_minds_18, x6_minds_19, x6_minds_22, x6_minds_25, x6_minds_28, x6_minds_29, x6_minds_31, x6_minds_32, x6_minds_33, x6_minds_36, x6_minds_37, x6_minds_38, x6_minds_41, x6_minds_42, x6_minds_43, x6_minds_44, x6_minds_45, x6_minds_46, x6_minds_49, x6_minds_52, x6_minds_53, x6_minds_54, x6_minds_55, x6_minds_58, x6_minds_59, x6_minds_60, x6_minds_61, x6_minds_62, x6_minds_63, x6_minds_66, x6_minds_67, x6_minds_68, x6_minds_69, x6_minds_72, x6_minds_75, x6_minds_76, x6_minds_77, x6_minds_79, x6_minds_80, x6_minds_81, x6_minds_82, x6_minds_85, x6_minds_86, x6_minds_87, x6_minds_88, x6_minds_89, x6_minds_92, x6_minds_94, x6_minds_95, x6_minds_96, k6_minds_98, t6_minds_98, x6_minds_100, x6_minds_102, x6_minds_105, x6_minds_106, x6_minds_109, x6_minds_111, x6_minds_112, x6_minds_113, x6_minds_115, x6_minds_116, x6_minds_117, x6_minds_118, x6_minds_119, x6_minds_120, x6_minds_121, x6_minds_124, x6_minds_126, x6_minds_127, x6_minds_128, x6_minds_129, x6_minds_130, x6_minds_132, x6_minds_133, x6_minds_134, x6_minds_137, x6_minds_138, x6_minds_141, x6_minds_144, x6_minds_146, i_ald, i_cS, i_cV, i_get, i_goto, i_i2l, i_iadd, i_iald, i_iast, i_ic, i_ic_ge, i_ic_le, i_if_eq, i_if_le, i_ild, i_imul, i_inc, i_iret, i_ist, i_ladd, i_lc, i_lcmp, oc_41, fv_41_0, fv_41_1, fv_41_2, fv_41_3, fv_41_4, ly_41_4, fv_41_5, fv_41_6, ly_41_6, fv_41_7, ly_41_7, fv_41_8, ly_41_8, fv_41_9, ly_41_9, fv_41_10, ly_41_10, fv_41_11, ly_41_11, fv_41_12, fv_41_13, fv_41_14, ly_41_14, fv_41_15, fv_41_16, fv_41_17, fv_41_18, fv_41_19, fv_41_20, fv_41_21, fv_41_22, ly_41_22, fv_41_23, ly_41_23, fv_41_24, ly_41_24, fv_41_25, ly_41_25, fv_41_26, ly_41_26, rd_42, al_42, rd_43, al_43, rd_44, al_44, rd_45, al_45, rd_46, al_46, rd_47, al_47, rd_48, al_48, rd_49, al_49, rd_50, al_50, rd_51, al_51, rd_52, al_52, rd_53, al_53, rd_54, al_54, rd_55, al_55, lck_0, lck_i, lck_r, lck_n, lck_l, csum_0, csum_i, csum_r, csum_l, pops_0, pops_s, psh_n, psh_s, List.getElem?_cons_zero, List.getElem?_cons_succ, List.set_cons_zero, List.set_cons_succ, true_and, and_true, Nat.reduceAdd, Nat.reduceLeDiff]
    exact ⟨fun _ => nx, fun c => absurd (Int32.le_refl _) c⟩
  | d + 1, j, e, s, hs => by
    have ih := lp6_minds ha hm hb hf hQ d (j + 1) (by omega)
    rw [← nI_1] at ih
    have hlt : ¬ nI m ≤ nI j := nI_ge (by omega) (by omega)
    obtain ⟨a0, a1, a2, a3⟩ := at_ix (nlt8 (j := c + j) (by omega))
    rw [show ix (nI (c + j)) = c + j from ix_nI (by omega)] at a1
    have y := sh_ix a ha b (by omega)
    obtain ⟨z1, z2⟩ := n160 (c := 40 * a + b + j) (by omega)
    have e51 : upA h 42 s 51 = h 51 := upA_ne (by decide)
    have hfj := hf j
    rw [← Nat.add_assoc] at hfj
    have nx := ih (upd s (15 + 4 * (c + j) + 1) (clp (f j))) (by rw [mv_u4, hs, mgJ_s])
    refine Rn_go C6_minds 60 ?_
    simp only [x6_minds_0, x6_minds_1, x6_minds_4, x6_minds_7, x6_minds_8, x6_minds_9, x6_minds_12, x6_minds_15, x6_minds_17, x6_minds_18, x6_minds_19, x6_minds_22, x6_minds_25, x6_minds_28, x6_minds_29, x6_minds_31, x6_minds_32, x6_minds_33, x6_minds_36, x6_minds_37, x6_minds_38, x6_minds_41, x6_minds_42, x6_minds_43, x6_minds_44, x6_minds_45, x6_minds_46, x6_minds_49, x6_minds_52, x6_minds_53, x6_minds_54, x6_minds_55, x6_minds_58, x6_minds_59, x6_minds_60, x6_minds_61, x6_minds_62, x6_minds_63, x6_minds_66, x6_minds_67, x6_minds_68, x6_minds_69, x6_minds_72, x6_minds_75, x6_minds_76, x6_minds_77, x6_minds_79, x6_minds_80, x6_minds_81, x6_minds_82, x6_minds_85, x6_minds_86, x6_minds_87, x6_minds_88, x6_minds_89, x6_minds_92, x6_minds_94, x6_minds_95, x6_minds_96, k6_minds_98, t6_minds_98, x6_minds_100, x6_minds_102, x6_minds_105, x6_minds_106, x6_minds_109, x6_minds_111, x6_minds_112, x6_minds_113, x6_minds_115, x6_minds_116, x6_minds_117, x6_minds_118, x6_minds_119, x6_minds_120, x6_minds_121, x6_minds_124, x6_minds_126, x6_minds_127, x6_minds_128, x6_minds_129, x6_minds_130, x6_minds_132, x6_minds_133, x6_minds_134, x6_minds_137, x6_minds_138, x6_minds_141, x6_minds_144, x6_minds_146, i_ald, i_cS, i_cV, i_get, i_goto, i_i2l, i_iadd, i_iald, i_iast, i_ic, i_ic_ge, i_ic_le, i_if_eq, i_if_le, i_ild, i_imul, i_inc, i_iret, i_ist, i_ladd, i_lc, i_lcmp, oc_41, fv_41_0, fv_41_1, fv_41_2, fv_41_3, fv_41_4, ly_41_4, fv_41_5, fv_41_6, ly_41_6, fv_41_7, ly_41_7, fv_41_8, ly_41_8, fv_41_9, ly_41_9, fv_41_10, ly_41_10, fv_41_11, ly_41_11, fv_41_12, fv_41_13, fv_41_14, ly_41_14, fv_41_15, fv_41_16, fv_41_17, fv_41_18, fv_41_19, fv_41_20, fv_41_21, fv_41_22, ly_41_22, fv_41_23, ly_41_23, fv_41_24, ly_41_24, fv_41_25, ly_41_25, fv_41_26, ly_41_26, rd_42, al_42, rd_43, al_43, rd_44, al_44, rd_45, al_45, rd_46, al_46, rd_47, al_47, rd_48, al_48, rd_49, al_49, rd_50, al_50, rd_51, al_51, rd_52, al_52, rd_53, al_53, rd_54, al_54, rd_55, al_55, lck_0, lck_i, lck_r, lck_n, lck_l, csum_0, csum_i, csum_r, csum_l, pops_0, pops_s, psh_n, psh_s, List.getElem?_cons_zero, List.getElem?_cons_succ, List.set_cons_zero, List.set_cons_succ, true_and, and_true, Nat.reduceAdd, Nat.reduceLeDiff, S6_within, nI_add, v47, v160, a1.2, y, z2, e51, up42b, upA_42, upA_same]
    rw [← hfj]
    exact ⟨fun c => absurd c hlt, fun _ => ⟨z1, a1.1, nx⟩⟩
