/-! the reference: occasions -/
theorem inv_turn {G : GG} {i : Nat} (h : InvR G) (ho : ¬ G 5 i = 8) : InvR (turnG G i) := by
  obtain ⟨hc, hi⟩ := h
  have hn : nG (turnG G i) = nG G := by simp only [nG, turn_0]
  refine ⟨by rw [turn_0]; exact hc, fun k hk => ?_⟩
  rw [hn] at hk
  rw [turn_hi G i (j := 6) (by decide), turn_0]
  refine ⟨?_, (hi k hk).2⟩
  have a := (hi k hk).1
  unfold turnG
  split
  · simp only [up2]
    by_cases e : k = i
    · subst e
      simp
      grind
    · simp [e]
      exact a
  · simp only [up2]
    simp
    exact a
theorem inv_step {G : GG} (h : InvR G) : ∀ j, InvR (stepG G j)
  | 0 => h
  | j + 1 => by
    unfold stepG
    split
    · exact inv_step h j
    · rename_i c
      exact inv_turn (inv_step h j) c
theorem inv_occ {G : GG} (h : InvR G) : InvR (occG G) := by
  obtain ⟨hc, hi⟩ := inv_step h (nG G)
  have e6 : occG G 0 6 = stepG G (nG G) 0 6 := by simp [occG, up2]
  have e5 : ∀ k, occG G 5 k = stepG G (nG G) 5 k := by intro k; simp [occG, up2]
  have e7 : ∀ k, occG G 6 k = stepG G (nG G) 6 k := by intro k; simp [occG, up2]
  refine ⟨by rw [e6]; exact hc, fun k hk => ?_⟩
  rw [e5, e7, e6]
  exact hi k (by simp only [nG, e6] at hk; exact hk)
theorem inv_occN {G : GG} (h : InvR G) : ∀ k, InvR (occN G k)
  | 0 => h
  | k + 1 => inv_occ (inv_occN h k)
theorem up42 (h : Hp) (s : Nat → Int32) (k : Nat) (v : Int32) : up2 (upA h 42 s) 42 k v = upA h 42 (upd s k v) := by
  funext p q; simp only [up2, upA, upd]; grind
theorem upA_42 (h : Hp) (s : Nat → Int32) : upA h 42 s 42 = s := upA_self
theorem upA_same (h : Hp) (p : Nat) (s t : Nat → Int32) : upA (upA h p s) p t = upA h p t := by
  funext a b; simp only [upA]; grind
theorem i10 : ((1 : Int32) = 0) = False := by simp
theorem i00 : ((0 : Int32) = 0) = True := by simp
def S6_goesOn : Sp := fun av h Q => match av with | [.ref m] => m = 41 ∧ InvR (mv (h 42)) ∧ (∀ s1, mv s1 = occG (mv (h 42)) → (∀ k, 47 ≤ k → s1 k = h 42 k) → Q none (upA h 42 s1)) | _ => False
theorem lp6_goesOn {h : Hp} {Q : Po} {n : Nat} (hn : h 42 0 = nI n) (hn8 : n ≤ 8) (hI : InvR (mv (h 42))) (hQ : ∀ s1, mv s1 = occG (mv (h 42)) → (∀ k, 47 ≤ k → s1 k = h 42 k) → Q none (upA h 42 s1)) : ∀ d j, d + j = n → ∀ (s : Nat → Int32) (y2 y3 : Option Value), mv s = stepG (mv (h 42)) j → (∀ k, 47 ≤ k → s k = h 42 k) → Rn (T6_goesOn Q S6_isOut S6_isKept S6_needsOf S6_paysOf S6_gainsOf S6_within) (2, [some (.ref 41), some (.int (nI j)), y2, y3], [], upA h 42 s)
  | 0, j, e, s, y2, y3, hs, hh => by
    have e : j = n := by omega
    subst e
    have hc : s 0 = nI j := by rw [← mv_06 s, hs, step_0]; exact hn
    have hnG : nG (mv (h 42)) = j := by rw [show nG (mv (h 42)) = ix (h 42 0) from rfl, hn, ix_nI (by omega)]
    have nx := hQ (upd s 1 (s 1 + 1)) (by rw [mv_u07, hs, occG, hnG, ← hs, mv_07]) (fun k hk => by simp only [upd]; rw [if_neg (by omega)]; exact hh k hk)
    refine Rn_go C6_goesOn 60 ?_
    simp only [x6_goesOn_0, x6_goesOn_1, k6_goesOn_2, t6_goesOn_2, x6_goesOn_3, x6_goesOn_4, x6_goesOn_7, x6_goesOn_8, x6_goesOn_9, x6_goesOn_12, x6_goesOn_13, x6_goesOn_14, x6_goesOn_17, x6_goesOn_20, x6_goesOn_22, x6_goesOn_23, x6_goesOn_24, x6_goesOn_25, x6_goesOn_26, x6_goesOn_27, x6_goesOn_28, x6_goesOn_29, x6_goesOn_32, x6_goesOn_35, x6_goesOn_36, x6_goesOn_39, x6_goesOn_40, x6_goesOn_41, x6_goesOn_42, x6_goesOn_43, x6_goesOn_44, x6_goesOn_45, x6_goesOn_48, x6_goesOn_51, x6_goesOn_52, x6_goesOn_55, x6_goesOn_56, x6_goesOn_57, x6_goesOn_58, x6_goesOn_61, x6_goesOn_62, x6_goesOn_63, x6_goesOn_64, x6_goesOn_65, x6_goesOn_68, x6_goesOn_69, x6_goesOn_72, x6_goesOn_73, x6_goesOn_74, x6_goesOn_75, x6_goesOn_76, x6_goesOn_77, x6_goesOn_78, x6_goesOn_81, x6_goesOn_82, x6_goesOn_85, x6_goesOn_86, x6_goesOn_89, x6_goesOn_90, x6_goesOn_91, x6_goesOn_92, x6_goesOn_93, x6_goesOn_94, x6_goesOn_95, x6_goesOn_98, x6_goesOn_99, x6_goesOn_102, x6_goesOn_103, x6_goesOn_104, x6_goesOn_107, x6_goesOn_108, x6_goesOn_109, x6_goesOn_110, x6_goesOn_111, x6_goesOn_112, x6_goesOn_113, x6_goesOn_116, x6_goesOn_117, x6_goesOn_120, x6_goesOn_121, x6_goesOn_122, x6_goesOn_123, x6_goesOn_126, x6_goesOn_129, x6_goesOn_130, x6_goesOn_133, x6_goesOn_134, x6_goesOn_135, x6_goesOn_136, x6_goesOn_137, x6_goesOn_138, x6_goesOn_139, i_ald, i_cS, i_cV, i_dup2, i_get, i_goto, i_iadd, i_iald, i_iast, i_ic, i_ic_ge, i_ic_lt, i_if_eq, i_if_ne, i_ild, i_imul, i_inc, i_ist, i_isub, i_vret, oc_41, fv_41_0, fv_41_1, fv_41_2, fv_41_3, fv_41_4, ly_41_4, fv_41_5, fv_41_6, ly_41_6, fv_41_7, ly_41_7, fv_41_8, ly_41_8, fv_41_9, ly_41_9, fv_41_10, ly_41_10, fv_41_11, ly_41_11, fv_41_12, fv_41_13, fv_41_14, ly_41_14, fv_41_15, fv_41_16, fv_41_17, fv_41_18, fv_41_19, fv_41_20, fv_41_21, fv_41_22, ly_41_22, fv_41_23, ly_41_23, fv_41_24, ly_41_24, fv_41_25, ly_41_25, fv_41_26, ly_41_26, rd_42, al_42, rd_43, al_43, rd_44, al_44, rd_45, al_45, rd_46, al_46, rd_47, al_47, rd_48, al_48, rd_49, al_49, rd_50, al_50, rd_51, al_51, rd_52, al_52, rd_53, al_53, rd_54, al_54, rd_55, al_55, lck_0, lck_i, lck_r, lck_n, lck_l, csum_0, csum_i, csum_r, csum_l, pops_0, pops_s, psh_n, psh_s, List.getElem?_cons_zero, List.getElem?_cons_succ, List.set_cons_zero, List.set_cons_succ, true_and, and_true, Nat.reduceAdd, Nat.reduceLeDiff, v47, w47, ix0, ix1, upA_42, hc, up42]
    exact ⟨fun _ => nx, fun c => absurd (Int32.le_refl _) c⟩
  | d + 1, j, e, s, y2, y3, hs, hh => by
    have hc : s 0 = nI n := by rw [← mv_06 s, hs, step_0]; exact hn
    have hj := nlt8 (j := j) (by omega)
    have hlt : ¬ nI n ≤ nI j := nI_ge (by omega) (by omega)
    have hx : (nI j).toNatClampNeg = j := ix_nI (by omega)
    have h8 : 0 ≤ nI n ∧ nI n ≤ 8 := ⟨nI_pos' (by omega), nI_le (b := 8) (by omega) (by decide)⟩
    have hIj := inv_step hI j
    rw [← hs] at hIj
    have hij := hIj.2 j (by rw [show nG (mv s) = ix (s 0) from rfl, hc, ix_nI (by omega)]; omega)
    rw [show mv s 0 6 = nI n from hc] at hij
    obtain ⟨a0, a1, a2, a3⟩ := at_ix hj
    rw [ix_nI (by omega)] at a0 a1 a2 a3
    have ih := fun s1 y2 y3 h1 h2 => lp6_goesOn hn hn8 hI hQ d (j + 1) (by omega) s1 y2 y3 h1 h2
    simp only [← nI_1] at ih
    have hst : stepG (mv (h 42)) (j + 1) = if mv s 5 j = 8 then mv s else turnG (mv s) j := by rw [stepG, ← hs]
    have key : ∀ v g, turnG (mv s) j = (if g = (1 : Int32) then up2 (up2 (mv s) 5 j (mv s 5 j + 1)) 4 j v else up2 (mv s) 4 j v) → (g = 0 ∨ g = 1) → ¬ mv s 5 j = 8 → mv (upd (upd s (15 + 4 * j + 1) v) (15 + 4 * j + 2) (s (15 + 4 * j + 2) + g)) = stepG (mv (h 42)) (j + 1) := by
      intro v g e1 e2 e3
      rw [hst, if_neg e3, e1, mv_u5, mv_u4, ← mv_5 s j]
      rcases e2 with rfl | rfl
      · rw [if_neg (by decide), Int32.add_zero]
        funext a b; simp only [up2]; grind
      · rw [if_pos rfl]
        funext a b; simp only [up2]; grind
    have keyh : ∀ v g k, 47 ≤ k → upd (upd s (15 + 4 * j + 1) v) (15 + 4 * j + 2) g k = h 42 k := by
      intro v g k hk
      simp only [upd]
      rw [if_neg (by omega), if_neg (by omega)]
      exact hh k hk
    have e12 : ∀ v, upd s (15 + 4 * j + 1) v (15 + 4 * j + 2) = s (15 + 4 * j + 2) := by intro v; simp [upd]
    refine Rn_go C6_goesOn 90 ?_
    simp only [x6_goesOn_0, x6_goesOn_1, k6_goesOn_2, t6_goesOn_2, x6_goesOn_3, x6_goesOn_4, x6_goesOn_7, x6_goesOn_8, x6_goesOn_9, x6_goesOn_12, x6_goesOn_13, x6_goesOn_14, x6_goesOn_17, x6_goesOn_20, x6_goesOn_22, x6_goesOn_23, x6_goesOn_24, x6_goesOn_25, x6_goesOn_26, x6_goesOn_27, x6_goesOn_28, x6_goesOn_29, x6_goesOn_32, x6_goesOn_35, x6_goesOn_36, x6_goesOn_39, x6_goesOn_40, x6_goesOn_41, x6_goesOn_42, x6_goesOn_43, x6_goesOn_44, x6_goesOn_45, x6_goesOn_48, x6_goesOn_51, x6_goesOn_52, x6_goesOn_55, x6_goesOn_56, x6_goesOn_57, x6_goesOn_58, x6_goesOn_61, x6_goesOn_62, x6_goesOn_63, x6_goesOn_64, x6_goesOn_65, x6_goesOn_68, x6_goesOn_69, x6_goesOn_72, x6_goesOn_73, x6_goesOn_74, x6_goesOn_75, x6_goesOn_76, x6_goesOn_77, x6_goesOn_78, x6_goesOn_81, x6_goesOn_82, x6_goesOn_85, x6_goesOn_86, x6_goesOn_89, x6_goesOn_90, x6_goesOn_91, x6_goesOn_92, x6_goesOn_93, x6_goesOn_94, x6_goesOn_95, x6_goesOn_98, x6_goesOn_99, x6_goesOn_102, x6_goesOn_103, x6_goesOn_104, x6_goesOn_107, x6_goesOn_108, x6_goesOn_109, x6_goesOn_110, x6_goesOn_111, x6_goesOn_112, x6_goesOn_113, x6_goesOn_116, x6_goesOn_117, x6_goesOn_120, x6_goesOn_121, x6_goesOn_122, x6_goesOn_123, x6_goesOn_126, x6_goesOn_129, x6_goesOn_130, x6_goesOn_133, x6_goesOn_134, x6_goesOn_135, x6_goesOn_136, x6_goesOn_137, x6_goesOn_138, x6_goesOn_139, i_ald, i_cS, i_cV, i_dup2, i_get, i_goto, i_iadd, i_iald, i_iast, i_ic, i_ic_ge, i_ic_lt, i_if_eq, i_if_ne, i_ild, i_imul, i_inc, i_ist, i_isub, i_vret, oc_41, fv_41_0, fv_41_1, fv_41_2, fv_41_3, fv_41_4, ly_41_4, fv_41_5, fv_41_6, ly_41_6, fv_41_7, ly_41_7, fv_41_8, ly_41_8, fv_41_9, ly_41_9, fv_41_10, ly_41_10, fv_41_11, ly_41_11, fv_41_12, fv_41_13, fv_41_14, ly_41_14, fv_41_15, fv_41_16, fv_41_17, fv_41_18, fv_41_19, fv_41_20, fv_41_21, fv_41_22, ly_41_22, fv_41_23, ly_41_23, fv_41_24, ly_41_24, fv_41_25, ly_41_25, fv_41_26, ly_41_26, rd_42, al_42, rd_43, al_43, rd_44, al_44, rd_45, al_45, rd_46, al_46, rd_47, al_47, rd_48, al_48, rd_49, al_49, rd_50, al_50, rd_51, al_51, rd_52, al_52, rd_53, al_53, rd_54, al_54, rd_55, al_55, lck_0, lck_i, lck_r, lck_n, lck_l, csum_0, csum_i, csum_r, csum_l, pops_0, pops_s, psh_n, psh_s, List.getElem?_cons_zero, List.getElem?_cons_succ, List.set_cons_zero, List.set_cons_succ, true_and, and_true, Nat.reduceAdd, Nat.reduceLeDiff, v47, w47, ix0, ix1, upA_42, hc, up42, S6_isOut, S6_isKept, S6_needsOf, S6_paysOf, S6_gainsOf, S6_within, outB_0, ix, hx, a1.2, a2.2, i10, i00, not_true_eq_false, not_false_eq_true, true_implies, false_implies, Classical.not_not]
    refine ⟨fun c => absurd c hlt, fun _ => ⟨hj, fun c => ?_, fun c => ⟨hj, h8.2, hij.2, fun c1 => ?_, fun c1 => ?_⟩⟩⟩
    · exact ih s y2 y3 (by rw [hst, if_pos c]) hh
    · refine ⟨a1.1, hj, a1.1, a2.1, a2.1, ?_⟩
      rw [e12]
      refine ih _ _ _ (key _ 0 ?_ (Or.inl rfl) c) (keyh _ _)
      rw [if_neg (by decide), turnG, if_neg (fun q => c1 q.1), mv_4]
    · refine ⟨a1.1, hj, ⟨hij.1.1, by have := hij.1.2; grind⟩, h8, fun c2 => ⟨a1.1, hj, a1.1, a2.1, a2.1, ?_⟩, fun c2 => ⟨a1.1, hj, a1.1, a2.1, a2.1, ?_⟩⟩
      · rw [e12]
        refine ih _ _ _ (key _ 0 ?_ (Or.inl rfl) c) (keyh _ _)
        rw [if_neg (by decide), turnG, if_neg (fun q => absurd c2 (Int32.not_lt.mpr q.2)), mv_4]
      · rw [e12]
        refine ih _ _ _ (key _ 1 ?_ (Or.inr rfl) c) (keyh _ _)
        rw [if_pos rfl, turnG, if_pos ⟨c1, Int32.not_lt.mp c2⟩, mv_4]
theorem rn6_goesOn {h : Hp} {Q : Po} {m : Nat} (hS : S6_goesOn [.ref m] h Q) : Rn (T6_goesOn Q S6_isOut S6_isKept S6_needsOf S6_paysOf S6_gainsOf S6_within) (0, [some (.ref m), none, none, none], [], h) := by
  obtain ⟨rfl, hI, hQ⟩ := hS
  obtain ⟨n, n8, hn, hi⟩ := cntN (x := h 42 0) hI.1.1 hI.1.2
  have := lp6_goesOn hn n8 hI hQ n 0 (by omega) (h 42) none none rfl (fun _ _ => rfl)
  have e : upA h 42 (h 42) = h := by funext a b; simp only [upA]; grind
  rw [e] at this
  refine Rn_in C6_goesOn 60 ?_
  simp only [x6_goesOn_0, x6_goesOn_1, k6_goesOn_2, t6_goesOn_2, x6_goesOn_3, x6_goesOn_4, x6_goesOn_7, x6_goesOn_8, x6_goesOn_9, x6_goesOn_12, x6_goesOn_13, x6_goesOn_14, x6_goesOn_17, x6_goesOn_20, x6_goesOn_22, x6_goesOn_23, x6_goesOn_24, x6_goesOn_25, x6_goesOn_26, x6_goesOn_27, x6_goesOn_28, x6_goesOn_29, x6_goesOn_32, x6_goesOn_35, x6_goesOn_36, x6_goesOn_39, x6_goesOn_40, x6_goesOn_41, x6_goesOn_42, x6_goesOn_43, x6_goesOn_44, x6_goesOn_45, x6_goesOn_48, x6_goesOn_51, x6_goesOn_52, x6_goesOn_55, x6_goesOn_56, x6_goesOn_57, x6_goesOn_58, x6_goesOn_61, x6_goesOn_62, x6_goesOn_63, x6_goesOn_64, x6_goesOn_65, x6_goesOn_68, x6_goesOn_69, x6_goesOn_72, x6_goesOn_73, x6_goesOn_74, x6_goesOn_75, x6_goesOn_76, x6_goesOn_77, x6_goesOn_78, x6_goesOn_81, x6_goesOn_82, x6_goesOn_85, x6_goesOn_86, x6_goesOn_89, x6_goesOn_90, x6_goesOn_91, x6_goesOn_92, x6_goesOn_93, x6_goesOn_94, x6_goesOn_95, x6_goesOn_98, x6_goesOn_99, x6_goesOn_102, x6_goesOn_103, x6_goesOn_104, x6_goesOn_107, x6_goesOn_108, x6_goesOn_109, x6_goesOn_110, x6_goesOn_111, x6_goesOn_112, x6_goesOn_113, x6_goesOn_116, x6_goesOn_117, x6_goesOn_120, x6_goesOn_121, x6_goesOn_122, x6_goesOn_123, x6_goesOn_126, x6_goesOn_129, x6_goesOn_130, x6_goesOn_133, x6_goesOn_134, x6_goesOn_135, x6_goesOn_136, x6_goesOn_137, x6_goesOn_138, x6_goesOn_139, i_ald, i_cS, i_cV, i_dup2, i_get, i_goto, i_iadd, i_iald, i_iast, i_ic, i_ic_ge, i_ic_lt, i_if_eq, i_if_ne, i_ild, i_imul, i_inc, i_ist, i_isub, i_vret, oc_41, fv_41_0, fv_41_1, fv_41_2, fv_41_3, fv_41_4, ly_41_4, fv_41_5, fv_41_6, ly_41_6, fv_41_7, ly_41_7, fv_41_8, ly_41_8, fv_41_9, ly_41_9, fv_41_10, ly_41_10, fv_41_11, ly_41_11, fv_41_12, fv_41_13, fv_41_14, ly_41_14, fv_41_15, fv_41_16, fv_41_17, fv_41_18, fv_41_19, fv_41_20, fv_41_21, fv_41_22, ly_41_22, fv_41_23, ly_41_23, fv_41_24, ly_41_24, fv_41_25, ly_41_25, fv_41_26, ly_41_26, rd_42, al_42, rd_43, al_43, rd_44, al_44, rd_45, al_45, rd_46, al_46, rd_47, al_47, rd_48, al_48, rd_49, al_49, rd_50, al_50, rd_51, al_51, rd_52, al_52, rd_53, al_53, rd_54, al_54, rd_55, al_55, lck_0, lck_i, lck_r, lck_n, lck_l, csum_0, csum_i, csum_r, csum_l, pops_0, pops_s, psh_n, psh_s, List.getElem?_cons_zero, List.getElem?_cons_succ, List.set_cons_zero, List.set_cons_succ, true_and, and_true, Nat.reduceAdd, Nat.reduceLeDiff]
  exact this
def S6_goesOnMany : Sp := fun av h Q => match av with | [.ref m, .int n] => m = 41 ∧ 0 ≤ n ∧ InvR (mv (h 42)) ∧ (∀ s1, mv s1 = occN (mv (h 42)) (ix n) → (∀ k, 47 ≤ k → s1 k = h 42 k) → Q none (upA h 42 s1)) | _ => False
theorem lp6_many {h : Hp} {Q : Po} {m : Nat} (hm : m < 2 ^ 31) (hI : InvR (mv (h 42))) (hQ : ∀ s1, mv s1 = occN (mv (h 42)) m → (∀ k, 47 ≤ k → s1 k = h 42 k) → Q none (upA h 42 s1)) : ∀ d t, d + t = m → ∀ s : Nat → Int32, mv s = occN (mv (h 42)) t → (∀ k, 47 ≤ k → s k = h 42 k) → Rn (T6_goesOnMany Q S6_goesOn) (2, [some (.ref 41), some (.int (nI m)), some (.int (nI t))], [], upA h 42 s)
  | 0, t, e, s, hs, hh => by
    have e : t = m := by omega
    subst e
    have nx := hQ s hs hh
    refine Rn_go C6_goesOnMany 60 ?_
    simp only [x6_goesOnMany_0, x6_goesOnMany_1, k6_goesOnMany_2, t6_goesOnMany_2, x6_goesOnMany_3, x6_goesOnMany_4, x6_goesOnMany_7, x6_goesOnMany_8, x6_goesOnMany_11, x6_goesOnMany_14, x6_goesOnMany_17, i_ald, i_cV, i_goto, i_ic, i_ic_ge, i_ild, i_inc, i_ist, i_vret, oc_41, fv_41_0, fv_41_1, fv_41_2, fv_41_3, fv_41_4, ly_41_4, fv_41_5, fv_41_6, ly_41_6, fv_41_7, ly_41_7, fv_41_8, ly_41_8, fv_41_9, ly_41_9, fv_41_10, ly_41_10, fv_41_11, ly_41_11, fv_41_12, fv_41_13, fv_41_14, ly_41_14, fv_41_15, fv_41_16, fv_41_17, fv_41_18, fv_41_19, fv_41_20, fv_41_21, fv_41_22, ly_41_22, fv_41_23, ly_41_23, fv_41_24, ly_41_24, fv_41_25, ly_41_25, fv_41_26, ly_41_26, rd_42, al_42, rd_43, al_43, rd_44, al_44, rd_45, al_45, rd_46, al_46, rd_47, al_47, rd_48, al_48, rd_49, al_49, rd_50, al_50, rd_51, al_51, rd_52, al_52, rd_53, al_53, rd_54, al_54, rd_55, al_55, lck_0, lck_i, lck_r, lck_n, lck_l, csum_0, csum_i, csum_r, csum_l, pops_0, pops_s, psh_n, psh_s, List.getElem?_cons_zero, List.getElem?_cons_succ, List.set_cons_zero, List.set_cons_succ, true_and, and_true, Nat.reduceAdd, Nat.reduceLeDiff]
    exact ⟨fun _ => nx, fun c => absurd (Int32.le_refl _) c⟩
  | d + 1, t, e, s, hs, hh => by
    have ih := fun s1 h1 h2 => lp6_many hm hI hQ d (t + 1) (by omega) s1 h1 h2
    simp only [← nI_1] at ih
    have hlt : ¬ nI m ≤ nI t := nI_ge (by omega) (by omega)
    have hIt := inv_occN hI t
    rw [← hs] at hIt
    refine Rn_go C6_goesOnMany 60 ?_
    simp only [x6_goesOnMany_0, x6_goesOnMany_1, k6_goesOnMany_2, t6_goesOnMany_2, x6_goesOnMany_3, x6_goesOnMany_4, x6_goesOnMany_7, x6_goesOnMany_8, x6_goesOnMany_11, x6_goesOnMany_14, x6_goesOnMany_17, i_ald, i_cV, i_goto, i_ic, i_ic_ge, i_ild, i_inc, i_ist, i_vret, oc_41, fv_41_0, fv_41_1, fv_41_2, fv_41_3, fv_41_4, ly_41_4, fv_41_5, fv_41_6, ly_41_6, fv_41_7, ly_41_7, fv_41_8, ly_41_8, fv_41_9, ly_41_9, fv_41_10, ly_41_10, fv_41_11, ly_41_11, fv_41_12, fv_41_13, fv_41_14, ly_41_14, fv_41_15, fv_41_16, fv_41_17, fv_41_18, fv_41_19, fv_41_20, fv_41_21, fv_41_22, ly_41_22, fv_41_23, ly_41_23, fv_41_24, ly_41_24, fv_41_25, ly_41_25, fv_41_26, ly_41_26, rd_42, al_42, rd_43, al_43, rd_44, al_44, rd_45, al_45, rd_46, al_46, rd_47, al_47, rd_48, al_48, rd_49, al_49, rd_50, al_50, rd_51, al_51, rd_52, al_52, rd_53, al_53, rd_54, al_54, rd_55, al_55, lck_0, lck_i, lck_r, lck_n, lck_l, csum_0, csum_i, csum_r, csum_l, pops_0, pops_s, psh_n, psh_s, List.getElem?_cons_zero, List.getElem?_cons_succ, List.set_cons_zero, List.set_cons_succ, true_and, and_true, Nat.reduceAdd, Nat.reduceLeDiff, S6_goesOn, upA_42, upA_same]
    refine ⟨fun c => absurd c hlt, fun _ => ⟨hIt, fun s1 e1 e2 => ?_⟩⟩
    exact ih s1 (by rw [e1, hs, occN]) (fun k hk => by rw [e2 k hk]; exact hh k hk)
theorem upA_id (h : Hp) (p : Nat) : upA h p (h p) = h := by funext a b; simp only [upA]; grind
theorem rn6_goesOnMany {h : Hp} {Q : Po} {m : Nat} {n : Int32} (hS : S6_goesOnMany [.ref m, .int n] h Q) : Rn (T6_goesOnMany Q S6_goesOn) (0, [some (.ref m), some (.int n), none], [], h) := by
  obtain ⟨rfl, h0, hI, hQ⟩ := hS
  have hm : nI (ix n) = n := nI_ix h0
  have hm2 : ix n < 2 ^ 31 := by
    obtain ⟨j, a, b⟩ := nI_of (x := n) (Int32.not_lt.mpr h0)
    rw [b, ix_nI a]; exact a
  have := lp6_many hm2 hI hQ (ix n) 0 (by omega) (h 42) rfl (fun _ _ => rfl)
  rw [hm, upA_id] at this
  refine Rn_in C6_goesOnMany 60 ?_
  simp only [x6_goesOnMany_0, x6_goesOnMany_1, k6_goesOnMany_2, t6_goesOnMany_2, x6_goesOnMany_3, x6_goesOnMany_4, x6_goesOnMany_7, x6_goesOnMany_8, x6_goesOnMany_11, x6_goesOnMany_14, x6_goesOnMany_17, i_ald, i_cV, i_goto, i_ic, i_ic_ge, i_ild, i_inc, i_ist, i_vret, oc_41, fv_41_0, fv_41_1, fv_41_2, fv_41_3, fv_41_4, ly_41_4, fv_41_5, fv_41_6, ly_41_6, fv_41_7, ly_41_7, fv_41_8, ly_41_8, fv_41_9, ly_41_9, fv_41_10, ly_41_10, fv_41_11, ly_41_11, fv_41_12, fv_41_13, fv_41_14, ly_41_14, fv_41_15, fv_41_16, fv_41_17, fv_41_18, fv_41_19, fv_41_20, fv_41_21, fv_41_22, ly_41_22, fv_41_23, ly_41_23, fv_41_24, ly_41_24, fv_41_25, ly_41_25, fv_41_26, ly_41_26, rd_42, al_42, rd_43, al_43, rd_44, al_44, rd_45, al_45, rd_46, al_46, rd_47, al_47, rd_48, al_48, rd_49, al_49, rd_50, al_50, rd_51, al_51, rd_52, al_52, rd_53, al_53, rd_54, al_54, rd_55, al_55, lck_0, lck_i, lck_r, lck_n, lck_l, csum_0, csum_i, csum_r, csum_l, pops_0, pops_s, psh_n, psh_s, List.getElem?_cons_zero, List.getElem?_cons_succ, List.set_cons_zero, List.set_cons_succ, true_and, and_true, Nat.reduceAdd, Nat.reduceLeDiff]
  exact this
def S6_drawn : Sp := fun av h Q => match av with | [.ref m] => m = 41 ∧ Q (some (.int (drawV (drawZ (h 42 2))))) (up2 h 42 2 (drawZ (h 42 2))) | _ => False
theorem rn6_drawn {h : Hp} {Q : Po} {m : Nat} (hS : S6_drawn [.ref m] h Q) : Rn (T6_drawn Q) (0, [some (.ref m)], [], h) := by
  obtain ⟨rfl, hQ⟩ := hS
  refine Rn_in C6_drawn 60 ?_
  simp only [x6_drawn_0, x6_drawn_1, x6_drawn_4, x6_drawn_5, x6_drawn_6, x6_drawn_9, x6_drawn_10, x6_drawn_11, x6_drawn_13, x6_drawn_14, x6_drawn_17, x6_drawn_18, x6_drawn_19, x6_drawn_20, x6_drawn_23, x6_drawn_24, x6_drawn_25, x6_drawn_27, x6_drawn_28, i_ald, i_get, i_iadd, i_iald, i_iast, i_ic, i_imul, i_iret, i_iushr, oc_41, fv_41_0, fv_41_1, fv_41_2, fv_41_3, fv_41_4, ly_41_4, fv_41_5, fv_41_6, ly_41_6, fv_41_7, ly_41_7, fv_41_8, ly_41_8, fv_41_9, ly_41_9, fv_41_10, ly_41_10, fv_41_11, ly_41_11, fv_41_12, fv_41_13, fv_41_14, ly_41_14, fv_41_15, fv_41_16, fv_41_17, fv_41_18, fv_41_19, fv_41_20, fv_41_21, fv_41_22, ly_41_22, fv_41_23, ly_41_23, fv_41_24, ly_41_24, fv_41_25, ly_41_25, fv_41_26, ly_41_26, rd_42, al_42, rd_43, al_43, rd_44, al_44, rd_45, al_45, rd_46, al_46, rd_47, al_47, rd_48, al_48, rd_49, al_49, rd_50, al_50, rd_51, al_51, rd_52, al_52, rd_53, al_53, rd_54, al_54, rd_55, al_55, lck_0, lck_i, lck_r, lck_n, lck_l, csum_0, csum_i, csum_r, csum_l, pops_0, pops_s, psh_n, psh_s, List.getElem?_cons_zero, List.getElem?_cons_succ, List.set_cons_zero, List.set_cons_succ, true_and, and_true, Nat.reduceAdd, Nat.reduceLeDiff, v47, w47, ix2, up2_at, if_true]
  exact hQ
/-- behind a try: the first copies of the row -/
theorem back42 {h : Hp} {s : Nat → Int32} (hh : ∀ k, 47 ≤ k → s k = h 42 k) : cp47 (cp47 (h 42) (h 44)) s = h 42 := by
  funext k
  simp only [cp47]
  split
  · rfl
  · exact hh k (by omega)
theorem upA_sw (h : Hp) (f g : Nat → Int32) : upA (upA (upA h 44 f) 42 g) 42 (h 42) = upA h 44 f := by
  funext a b; simp only [upA]; grind
theorem upA_44 (h : Hp) (f g : Nat → Int32) : upA (upA h 44 f) 42 g 44 = f := by
  funext b; simp [upA]
theorem upA_4442 (h : Hp) (f : Nat → Int32) : upA h 44 f 42 = h 42 := by
  funext b; simp [upA]
theorem RW_a : RW 42 44 = True := by simp [RW]
theorem RW_b : RW 44 42 = True := by simp [RW]
theorem RW_c : RW 42 45 = True := by simp [RW]
theorem RW_d : RW 45 42 = True := by simp [RW]
def S6_passesBy : Sp := fun av h Q => match av with | [.ref m, .int o, .int room, .int n] => m = 41 ∧ (0 ≤ o ∧ o < 8) ∧ (0 ≤ n ∧ n ≤ 60) ∧ InvR (mv (h 42)) ∧ (∀ a, Q (some (.int (nI (fstT (mv (h 42)) (ix o) room (ix n + 1) 0)))) (upA h 44 a)) | _ => False
theorem lp6_passesBy {h : Hp} {Q : Po} {o room : Int32} {m : Nat} (ho : 0 ≤ o ∧ o < 8) (hm : m ≤ 60) (hI : InvR (mv (h 42))) : ∀ d t, d + t = m + 1 → (∀ a, Q (some (.int (nI (fstT (mv (h 42)) (ix o) room d t)))) (upA h 44 a)) → ∀ s : Nat → Int32, mv s = occN (mv (h 42)) t → (∀ k, 47 ≤ k → s k = h 42 k) → Rn (T6_passesBy Q S6_copyRow S6_its S6_goesOn) (14, [some (.ref 41), some (.int o), some (.int room), some (.int (nI m)), some (.int (nI t))], [], upA (upA h 44 (cp47 (h 42) (h 44))) 42 s)
  | 0, t, e, hQ, s, hs, hh => by
    have e : t = m + 1 := by omega
    subst e
    have nx := hQ (cp47 (h 42) (h 44))
    rw [show fstT (mv (h 42)) (ix o) room 0 (m + 1) = m + 1 from rfl] at nx
    have hlt : nI m < nI (m + 1) := nI_lt (by omega) (by omega)
    have hb := back42 hh
    refine Rn_go C6_passesBy 60 ?_
    simp only [x6_passesBy_0, x6_passesBy_1, x6_passesBy_4, x6_passesBy_5, x6_passesBy_8, x6_passesBy_11, x6_passesBy_12, k6_passesBy_14, t6_passesBy_14, x6_passesBy_16, x6_passesBy_17, x6_passesBy_20, x6_passesBy_21, x6_passesBy_22, x6_passesBy_23, x6_passesBy_26, x6_passesBy_27, x6_passesBy_30, x6_passesBy_31, x6_passesBy_34, x6_passesBy_37, x6_passesBy_40, x6_passesBy_41, x6_passesBy_44, x6_passesBy_45, x6_passesBy_48, x6_passesBy_51, x6_passesBy_53, i_ald, i_cS, i_cV, i_get, i_goto, i_ic, i_ic_ge, i_ic_gt, i_ild, i_inc, i_iret, i_ist, oc_41, fv_41_0, fv_41_1, fv_41_2, fv_41_3, fv_41_4, ly_41_4, fv_41_5, fv_41_6, ly_41_6, fv_41_7, ly_41_7, fv_41_8, ly_41_8, fv_41_9, ly_41_9, fv_41_10, ly_41_10, fv_41_11, ly_41_11, fv_41_12, fv_41_13, fv_41_14, ly_41_14, fv_41_15, fv_41_16, fv_41_17, fv_41_18, fv_41_19, fv_41_20, fv_41_21, fv_41_22, ly_41_22, fv_41_23, ly_41_23, fv_41_24, ly_41_24, fv_41_25, ly_41_25, fv_41_26, ly_41_26, rd_42, al_42, rd_43, al_43, rd_44, al_44, rd_45, al_45, rd_46, al_46, rd_47, al_47, rd_48, al_48, rd_49, al_49, rd_50, al_50, rd_51, al_51, rd_52, al_52, rd_53, al_53, rd_54, al_54, rd_55, al_55, lck_0, lck_i, lck_r, lck_n, lck_l, csum_0, csum_i, csum_r, csum_l, pops_0, pops_s, psh_n, psh_s, List.getElem?_cons_zero, List.getElem?_cons_succ, List.set_cons_zero, List.set_cons_succ, true_and, and_true, Nat.reduceAdd, Nat.reduceLeDiff, S6_copyRow, RW_b, upA_44, upA_42, hb, upA_sw]
    exact ⟨fun _ => nx, fun c => absurd hlt c⟩
  | d + 1, t, e, hQ, s, hs, hh => by
    have hlt : ¬ nI m < nI t := nI_nlt (by omega) (by omega)
    have hb := back42 hh
    have h5 : s (15 + 4 * ix o + 2) = occN (mv (h 42)) t 5 (ix o) := by rw [← hs]; rfl
    have hIt := inv_occN hI t
    rw [← hs] at hIt
    by_cases hr : room ≤ occN (mv (h 42)) t 5 (ix o)
    · have e1 : fstT (mv (h 42)) (ix o) room (d + 1) t = t := by rw [fstT, if_pos hr]
      have nx := hQ (cp47 (h 42) (h 44))
      rw [e1] at nx
      rw [← h5] at hr
      refine Rn_go C6_passesBy 60 ?_
      simp only [x6_passesBy_0, x6_passesBy_1, x6_passesBy_4, x6_passesBy_5, x6_passesBy_8, x6_passesBy_11, x6_passesBy_12, k6_passesBy_14, t6_passesBy_14, x6_passesBy_16, x6_passesBy_17, x6_passesBy_20, x6_passesBy_21, x6_passesBy_22, x6_passesBy_23, x6_passesBy_26, x6_passesBy_27, x6_passesBy_30, x6_passesBy_31, x6_passesBy_34, x6_passesBy_37, x6_passesBy_40, x6_passesBy_41, x6_passesBy_44, x6_passesBy_45, x6_passesBy_48, x6_passesBy_51, x6_passesBy_53, i_ald, i_cS, i_cV, i_get, i_goto, i_ic, i_ic_ge, i_ic_gt, i_ild, i_inc, i_iret, i_ist, oc_41, fv_41_0, fv_41_1, fv_41_2, fv_41_3, fv_41_4, ly_41_4, fv_41_5, fv_41_6, ly_41_6, fv_41_7, ly_41_7, fv_41_8, ly_41_8, fv_41_9, ly_41_9, fv_41_10, ly_41_10, fv_41_11, ly_41_11, fv_41_12, fv_41_13, fv_41_14, ly_41_14, fv_41_15, fv_41_16, fv_41_17, fv_41_18, fv_41_19, fv_41_20, fv_41_21, fv_41_22, ly_41_22, fv_41_23, ly_41_23, fv_41_24, ly_41_24, fv_41_25, ly_41_25, fv_41_26, ly_41_26, rd_42, al_42, rd_43, al_43, rd_44, al_44, rd_45, al_45, rd_46, al_46, rd_47, al_47, rd_48, al_48, rd_49, al_49, rd_50, al_50, rd_51, al_51, rd_52, al_52, rd_53, al_53, rd_54, al_54, rd_55, al_55, lck_0, lck_i, lck_r, lck_n, lck_l, csum_0, csum_i, csum_r, csum_l, pops_0, pops_s, psh_n, psh_s, List.getElem?_cons_zero, List.getElem?_cons_succ, List.set_cons_zero, List.set_cons_succ, true_and, and_true, Nat.reduceAdd, Nat.reduceLeDiff, S6_copyRow, S6_its, S6_goesOn, t4, ix2, RW_b, upA_44, upA_42, hb, upA_sw]
      exact ⟨fun c => absurd c hlt, fun _ => ⟨ho, fun _ => nx, fun c => absurd hr c⟩⟩
    · have e1 : fstT (mv (h 42)) (ix o) room (d + 1) t = fstT (mv (h 42)) (ix o) room d (t + 1) := by rw [fstT, if_neg hr]
      rw [e1] at hQ
      have ih := fun s1 h1 h2 => lp6_passesBy (room := room) ho hm hI d (t + 1) (by omega) hQ s1 h1 h2
      simp only [← nI_1] at ih
      rw [← h5] at hr
      refine Rn_go C6_passesBy 60 ?_
      simp only [x6_passesBy_0, x6_passesBy_1, x6_passesBy_4, x6_passesBy_5, x6_passesBy_8, x6_passesBy_11, x6_passesBy_12, k6_passesBy_14, t6_passesBy_14, x6_passesBy_16, x6_passesBy_17, x6_passesBy_20, x6_passesBy_21, x6_passesBy_22, x6_passesBy_23, x6_passesBy_26, x6_passesBy_27, x6_passesBy_30, x6_passesBy_31, x6_passesBy_34, x6_passesBy_37, x6_passesBy_40, x6_passesBy_41, x6_passesBy_44, x6_passesBy_45, x6_passesBy_48, x6_passesBy_51, x6_passesBy_53, i_ald, i_cS, i_cV, i_get, i_goto, i_ic, i_ic_ge, i_ic_gt, i_ild, i_inc, i_iret, i_ist, oc_41, fv_41_0, fv_41_1, fv_41_2, fv_41_3, fv_41_4, ly_41_4, fv_41_5, fv_41_6, ly_41_6, fv_41_7, ly_41_7, fv_41_8, ly_41_8, fv_41_9, ly_41_9, fv_41_10, ly_41_10, fv_41_11, ly_41_11, fv_41_12, fv_41_13, fv_41_14, ly_41_14, fv_41_15, fv_41_16, fv_41_17, fv_41_18, fv_41_19, fv_41_20, fv_41_21, fv_41_22, ly_41_22, fv_41_23, ly_41_23, fv_41_24, ly_41_24, fv_41_25, ly_41_25, fv_41_26, ly_41_26, rd_42, al_42, rd_43, al_43, rd_44, al_44, rd_45, al_45, rd_46, al_46, rd_47, al_47, rd_48, al_48, rd_49, al_49, rd_50, al_50, rd_51, al_51, rd_52, al_52, rd_53, al_53, rd_54, al_54, rd_55, al_55, lck_0, lck_i, lck_r, lck_n, lck_l, csum_0, csum_i, csum_r, csum_l, pops_0, pops_s, psh_n, psh_s, List.getElem?_cons_zero, List.getElem?_cons_succ, List.set_cons_zero, List.set_cons_succ, true_and, and_true, Nat.reduceAdd, Nat.reduceLeDiff, S6_copyRow, S6_its, S6_goesOn, t4, ix2, RW_b, upA_44, upA_42, hb, upA_sw, upA_same]
      refine ⟨fun c => absurd c hlt, fun _ => ⟨ho, fun c => absurd c hr, fun _ => ⟨hIt, fun s1 x1 x2 => ?_⟩⟩⟩
      exact ih s1 (by rw [x1, hs, occN]) (fun k hk => by rw [x2 k hk]; exact hh k hk)
theorem rn6_passesBy {h : Hp} {Q : Po} {m : Nat} {o : Int32} {room : Int32} {n : Int32} (hS : S6_passesBy [.ref m, .int o, .int room, .int n] h Q) : Rn (T6_passesBy Q S6_copyRow S6_its S6_goesOn) (0, [some (.ref m), some (.int o), some (.int room), some (.int n), none], [], h) := by
  obtain ⟨rfl, ho, hl, hI, hQ⟩ := hS
  have hm : nI (ix n) = n := nI_ix hl.1
  have hm2 : ix n ≤ 60 := by
    have := ix_lt (n := 61) hl.1 (show n < (61 : Int32) by grind) (by decide)
    omega
  have := lp6_passesBy ho hm2 hI (ix n + 1) 0 (by omega) hQ (h 42) rfl (fun _ _ => rfl)
  rw [hm] at this
  have e : upA (upA h 44 (cp47 (h 42) (h 44))) 42 (h 42) = upA h 44 (cp47 (h 42) (h 44)) := by
    funext a b; simp only [upA]; grind
  rw [e] at this
  refine Rn_in C6_passesBy 60 ?_
  simp only [x6_passesBy_0, x6_passesBy_1, x6_passesBy_4, x6_passesBy_5, x6_passesBy_8, x6_passesBy_11, x6_passesBy_12, k6_passesBy_14, t6_passesBy_14, x6_passesBy_16, x6_passesBy_17, x6_passesBy_20, x6_passesBy_21, x6_passesBy_22, x6_passesBy_23, x6_passesBy_26, x6_passesBy_27, x6_passesBy_30, x6_passesBy_31, x6_passesBy_34, x6_passesBy_37, x6_passesBy_40, x6_passesBy_41, x6_passesBy_44, x6_passesBy_45, x6_passesBy_48, x6_passesBy_51, x6_passesBy_53, i_ald, i_cS, i_cV, i_get, i_goto, i_ic, i_ic_ge, i_ic_gt, i_ild, i_inc, i_iret, i_ist, oc_41, fv_41_0, fv_41_1, fv_41_2, fv_41_3, fv_41_4, ly_41_4, fv_41_5, fv_41_6, ly_41_6, fv_41_7, ly_41_7, fv_41_8, ly_41_8, fv_41_9, ly_41_9, fv_41_10, ly_41_10, fv_41_11, ly_41_11, fv_41_12, fv_41_13, fv_41_14, ly_41_14, fv_41_15, fv_41_16, fv_41_17, fv_41_18, fv_41_19, fv_41_20, fv_41_21, fv_41_22, ly_41_22, fv_41_23, ly_41_23, fv_41_24, ly_41_24, fv_41_25, ly_41_25, fv_41_26, ly_41_26, rd_42, al_42, rd_43, al_43, rd_44, al_44, rd_45, al_45, rd_46, al_46, rd_47, al_47, rd_48, al_48, rd_49, al_49, rd_50, al_50, rd_51, al_51, rd_52, al_52, rd_53, al_53, rd_54, al_54, rd_55, al_55, lck_0, lck_i, lck_r, lck_n, lck_l, csum_0, csum_i, csum_r, csum_l, pops_0, pops_s, psh_n, psh_s, List.getElem?_cons_zero, List.getElem?_cons_succ, List.set_cons_zero, List.set_cons_succ, true_and, and_true, Nat.reduceAdd, Nat.reduceLeDiff, S6_copyRow, RW_a]
  exact this
def S6_occasion : Sp := fun av h Q => match av with | [.ref m] => m = 41 ∧ InvR (mv (h 42)) ∧ (∀ s1, mv s1 = drwG (mv (h 42)) → (∀ k, 47 ≤ k → s1 k = h 42 k) → Q (some (.int (outG (drwG (mv (h 42)))))) (upA h 42 s1)) | _ => False
theorem inv_snz {G : GG} (h : InvR G) : InvR (snzG G) := by
  unfold snzG
  split
  · rename_i c0
    have o := one_rng c0 h.1.2
    split
    · rename_i c1
      refine ⟨?_, fun i hi => ?_⟩
      · simp [up2]; exact h.1
      · have hn : nG (up2 (up2 G 0 8 (drawZ (drawZ (G 0 8)))) 5 (ix (oneI G)) (G 5 (ix (oneI G)) + 1)) = nG G := by
          rw [upd_count (fun q => absurd q.1 (by decide)), upd_count (by decide)]
        rw [hn] at hi
        have a := h.2 i hi
        refine ⟨?_, ?_⟩
        · simp only [up2]
          by_cases e : i = ix (oneI G)
          · subst e
            have c2 := c1.2
            simp
            grind
          · simp [e]; exact a.1
        · simp [up2]; exact a.2
    · refine ⟨?_, fun i hi => ?_⟩
      · simp [up2]; exact h.1
      · rw [upd_count (by decide)] at hi
        have a := h.2 i hi
        simp [up2]
        exact a
  · exact h
theorem up42b (h : Hp) (k : Nat) (v : Int32) : up2 h 42 k v = upA h 42 (upd (h 42) k v) := by
  funext p q; simp only [up2, upA, upd]; grind
theorem upd_same (f : Nat → Int32) (k : Nat) (x y : Int32) : upd (upd f k x) k y = upd f k y := by
  funext j; simp only [upd]; grind
theorem upd_ap (f : Nat → Int32) (k j : Nat) (x : Int32) : upd f k x j = if j = k then x else f j := rfl
theorem rn6_occasion {h : Hp} {Q : Po} {m : Nat} (hS : S6_occasion [.ref m] h Q) : Rn (T6_occasion Q S6_drawn S6_isOut S6_goesOn S6_thoseIn S6_size) (0, [some (.ref m), none, none], [], h) := by
  obtain ⟨rfl, hI, hQ⟩ := hS
  have hI2 := inv_occ (inv_snz hI)
  have hc2 : 0 ≤ drwG (mv (h 42)) 0 6 ∧ drwG (mv (h 42)) 0 6 ≤ 8 := hI2.1
  have h1 := fun h0 => one_rng (G := mv (h 42)) h0 hI.1.2
  have fin : ∀ s, mv s = snzG (mv (h 42)) → (∀ k, 47 ≤ k → s k = h 42 k) → InvR (mv s) ∧ ∀ s1 : Nat → Int32, mv s1 = occG (mv s) → (∀ k, 47 ≤ k → s1 k = s k) → (0 ≤ s1 0 ∧ s1 0 ≤ 8) ∧ (0 ≤ thG (mv s1) 8 (nG (mv s1)) ∧ thG (mv s1) 8 (nG (mv s1)) < 256) ∧ Q (some (.int (pc8 (thG (mv s1) 8 (nG (mv s1)))))) (upA h 42 s1) := by
    intro s e1 e2
    refine ⟨by rw [e1]; exact inv_snz hI, fun s1 x1 x2 => ?_⟩
    have e3 : mv s1 = drwG (mv (h 42)) := by rw [x1, e1, drwG]
    have e4 : s1 0 = drwG (mv (h 42)) 0 6 := by rw [← e3]; rfl
    have hn : nG (mv s1) ≤ 8 := by
      obtain ⟨n, n8, hn, hi⟩ := cntN (x := s1 0) (by rw [e4]; exact hc2.1) (by rw [e4]; exact hc2.2)
      exact Nat.le_trans (Nat.le_of_eq hi) n8
    refine ⟨by rw [e4]; exact hc2, thG_256 _ _ hn, ?_⟩
    have := hQ s1 e3 (fun k hk => by rw [x2 k hk]; exact e2 k hk)
    rw [← e3] at this
    exact this
  by_cases c0 : 0 < mv (h 42) 0 6
  · have hone : drawV (drawZ (h 42 2)) - drawV (drawZ (h 42 2)) / h 42 0 * h 42 0 = oneI (mv (h 42)) := rfl
    have hch : drawV (drawZ (drawZ (h 42 2))) - drawV (drawZ (drawZ (h 42 2))) / 100 * 100 = chI (mv (h 42)) := rfl
    have o1 := h1 c0
    have c1 : 0 < h 42 0 := c0
    have o8 : h 42 0 ≤ 8 := hI.1.2
    have o2 : 0 ≤ oneI (mv (h 42)) ∧ oneI (mv (h 42)) < 8 := ⟨o1.1, Int32.lt_of_lt_of_le o1.2 o8⟩
    obtain ⟨a0, a1, a2, a3⟩ := at_ix o2
    have u0 : ∀ z, upd (h 42) 2 z 0 = h 42 0 := fun z => by simp [upd]
    have u6 : ∀ z, upd (h 42) 2 z 6 = h 42 6 := fun z => by simp [upd]
    have u2 : ∀ z, upd (h 42) 2 z 2 = z := fun z => by simp [upd]
    have u5 : ∀ z, upd (h 42) 2 z (15 + 4 * ix (oneI (mv (h 42))) + 2) = h 42 (15 + 4 * ix (oneI (mv (h 42))) + 2) := fun z => by
      simp only [upd]
      rw [if_neg (by omega)]
    have g5 : ∀ z, mv (upd (h 42) 2 z) 5 (ix (oneI (mv (h 42)))) = mv (h 42) 5 (ix (oneI (mv (h 42)))) := fun z => by
      rw [mv_u08]; simp [up2]
    have hi5 : ∀ z y k, 47 ≤ k → upd (upd (h 42) 2 z) (15 + 4 * ix (oneI (mv (h 42))) + 2) y k = h 42 k := fun z y k hk => by
      have := ix_lt (n := 8) o2.1 o2.2 (by decide)
      simp only [upd]
      rw [if_neg (by omega), if_neg (by omega)]
    have m0 : mv (upd (upd (h 42) 2 (drawZ (drawZ (h 42 2)))) (15 + 4 * ix (oneI (mv (h 42))) + 2) (h 42 (15 + 4 * ix (oneI (mv (h 42))) + 2) + 0)) = up2 (mv (h 42)) 0 8 (drawZ (drawZ (h 42 2))) := by
      rw [mv_u5, mv_u08, Int32.add_zero, ← mv_5 (h 42)]
      funext a b; simp only [up2]; grind
    have m1 : mv (upd (upd (h 42) 2 (drawZ (drawZ (h 42 2)))) (15 + 4 * ix (oneI (mv (h 42))) + 2) (h 42 (15 + 4 * ix (oneI (mv (h 42))) + 2) + 1)) = up2 (up2 (mv (h 42)) 0 8 (drawZ (drawZ (h 42 2)))) 5 (ix (oneI (mv (h 42)))) (mv (h 42) 5 (ix (oneI (mv (h 42)))) + 1) := by
      rw [mv_u5, mv_u08, ← mv_5 (h 42)]
    have e20 : ¬ (100 : Int32) = 0 := by decide
    have ec0 : ¬ h 42 0 = 0 := by grind
    refine Rn_in C6_occasion 90 ?_
    simp only [x6_occasion_0, x6_occasion_1, x6_occasion_4, x6_occasion_5, x6_occasion_6, x6_occasion_9, x6_occasion_10, x6_occasion_13, x6_occasion_14, x6_occasion_17, x6_occasion_18, x6_occasion_19, x6_occasion_20, x6_occasion_21, x6_occasion_22, x6_occasion_25, x6_occasion_27, x6_occasion_28, x6_occasion_29, x6_occasion_32, x6_occasion_34, x6_occasion_35, x6_occasion_38, x6_occasion_39, x6_occasion_42, x6_occasion_43, x6_occasion_44, x6_occasion_45, x6_occasion_48, x6_occasion_50, x6_occasion_51, x6_occasion_52, x6_occasion_53, x6_occasion_54, x6_occasion_55, x6_occasion_56, x6_occasion_57, x6_occasion_58, x6_occasion_59, x6_occasion_62, x6_occasion_63, x6_occasion_64, x6_occasion_67, x6_occasion_70, x6_occasion_71, x6_occasion_74, x6_occasion_75, x6_occasion_76, x6_occasion_77, x6_occasion_78, x6_occasion_81, x6_occasion_82, x6_occasion_84, x6_occasion_87, x6_occasion_90, i_ald, i_cS, i_cV, i_dup2, i_get, i_goto, i_iadd, i_iald, i_iast, i_ic, i_ic_ge, i_if_eq, i_if_le, i_if_ne, i_ild, i_imul, i_irem, i_iret, i_ist, oc_41, fv_41_0, fv_41_1, fv_41_2, fv_41_3, fv_41_4, ly_41_4, fv_41_5, fv_41_6, ly_41_6, fv_41_7, ly_41_7, fv_41_8, ly_41_8, fv_41_9, ly_41_9, fv_41_10, ly_41_10, fv_41_11, ly_41_11, fv_41_12, fv_41_13, fv_41_14, ly_41_14, fv_41_15, fv_41_16, fv_41_17, fv_41_18, fv_41_19, fv_41_20, fv_41_21, fv_41_22, ly_41_22, fv_41_23, ly_41_23, fv_41_24, ly_41_24, fv_41_25, ly_41_25, fv_41_26, ly_41_26, rd_42, al_42, rd_43, al_43, rd_44, al_44, rd_45, al_45, rd_46, al_46, rd_47, al_47, rd_48, al_48, rd_49, al_49, rd_50, al_50, rd_51, al_51, rd_52, al_52, rd_53, al_53, rd_54, al_54, rd_55, al_55, lck_0, lck_i, lck_r, lck_n, lck_l, csum_0, csum_i, csum_r, csum_l, pops_0, pops_s, psh_n, psh_s, List.getElem?_cons_zero, List.getElem?_cons_succ, List.set_cons_zero, List.set_cons_succ, true_and, and_true, Nat.reduceAdd, Nat.reduceLeDiff, v47, w47, ixL, ix0, ix2, S6_drawn, S6_isOut, S6_goesOn, S6_thoseIn, S6_size, up42b, upA_42, upA_same, upd_same, u0, u2, u6, hone, hch, a2.2, u5, g5, if_true, if_false, Nat.reduceEqDiff, i10, i00, not_true_eq_false, not_false_eq_true, true_implies, false_implies, ix, outB_0]
    refine ⟨fun c => absurd c (by grind), fun _ => ⟨ec0, e20, fun c => ⟨a2.1, a2.1, ?_⟩, fun c => ⟨a2.1, o2, fun c2 => ⟨a2.1, ?_⟩, fun c2 => ⟨a2.1, ?_⟩⟩⟩⟩
    · refine fin _ ?_ (hi5 _ _)
      rw [m0, snzG, if_pos c0, if_neg (fun q => absurd q.1 (Int32.not_lt.mpr c))]; rfl
    · refine fin _ ?_ (hi5 _ _)
      rw [m0, snzG, if_pos c0, if_neg (fun q => c2 q.2)]; rfl
    · refine fin _ ?_ (hi5 _ _)
      rw [m1, snzG, if_pos c0, if_pos ⟨Int32.not_le.mp c, c2⟩]; rfl
  · have c1 : ¬ 0 < h 42 0 := c0
    have := fin (h 42) (by rw [snzG, if_neg c0]) (fun _ _ => rfl)
    refine Rn_in C6_occasion 90 ?_
    simp only [x6_occasion_0, x6_occasion_1, x6_occasion_4, x6_occasion_5, x6_occasion_6, x6_occasion_9, x6_occasion_10, x6_occasion_13, x6_occasion_14, x6_occasion_17, x6_occasion_18, x6_occasion_19, x6_occasion_20, x6_occasion_21, x6_occasion_22, x6_occasion_25, x6_occasion_27, x6_occasion_28, x6_occasion_29, x6_occasion_32, x6_occasion_34, x6_occasion_35, x6_occasion_38, x6_occasion_39, x6_occasion_42, x6_occasion_43, x6_occasion_44, x6_occasion_45, x6_occasion_48, x6_occasion_50, x6_occasion_51, x6_occasion_52, x6_occasion_53, x6_occasion_54, x6_occasion_55, x6_occasion_56, x6_occasion_57, x6_occasion_58, x6_occasion_59, x6_occasion_62, x6_occasion_63, x6_occasion_64, x6_occasion_67, x6_occasion_70, x6_occasion_71, x6_occasion_74, x6_occasion_75, x6_occasion_76, x6_occasion_77, x6_occasion_78, x6_occasion_81, x6_occasion_82, x6_occasion_84, x6_occasion_87, x6_occasion_90, i_ald, i_cS, i_cV, i_dup2, i_get, i_goto, i_iadd, i_iald, i_iast, i_ic, i_ic_ge, i_if_eq, i_if_le, i_if_ne, i_ild, i_imul, i_irem, i_iret, i_ist, oc_41, fv_41_0, fv_41_1, fv_41_2, fv_41_3, fv_41_4, ly_41_4, fv_41_5, fv_41_6, ly_41_6, fv_41_7, ly_41_7, fv_41_8, ly_41_8, fv_41_9, ly_41_9, fv_41_10, ly_41_10, fv_41_11, ly_41_11, fv_41_12, fv_41_13, fv_41_14, ly_41_14, fv_41_15, fv_41_16, fv_41_17, fv_41_18, fv_41_19, fv_41_20, fv_41_21, fv_41_22, ly_41_22, fv_41_23, ly_41_23, fv_41_24, ly_41_24, fv_41_25, ly_41_25, fv_41_26, ly_41_26, rd_42, al_42, rd_43, al_43, rd_44, al_44, rd_45, al_45, rd_46, al_46, rd_47, al_47, rd_48, al_48, rd_49, al_49, rd_50, al_50, rd_51, al_51, rd_52, al_52, rd_53, al_53, rd_54, al_54, rd_55, al_55, lck_0, lck_i, lck_r, lck_n, lck_l, csum_0, csum_i, csum_r, csum_l, pops_0, pops_s, psh_n, psh_s, List.getElem?_cons_zero, List.getElem?_cons_succ, List.set_cons_zero, List.set_cons_succ, true_and, and_true, Nat.reduceAdd, Nat.reduceLeDiff, v47, w47, ixL, ix0, ix2, S6_drawn, S6_isOut, S6_goesOn, S6_thoseIn, S6_size, upA_42]
    exact ⟨fun _ => this, fun c => absurd (by grind) c⟩
