/-! pairs: the least rudeness, the reference -/
theorem sh_n : ∀ n, n ≤ 8 → (1 : Int32) <<< (nI n &&& 31) = nI (2 ^ n) := by decide
/-- the row while some inmates are tried without their hosts -/
def rsI (g s : Nat → Int32) (q n j : Nat) : Prop := (∀ k, k < j → s (15 + 4 * k + 3) = if q.testBit k = true then 0 else g (15 + 4 * k + 3)) ∧ ∀ a, (∀ k, k < n → a ≠ 15 + 4 * k + 3) → s a = g a
theorem rsI_G {g s : Nat → Int32} {q n : Nat} (h : rsI g s q n n) (hn : nG (mv g) = n) (hn8 : n ≤ 8) : Geq (mv s) (rdG (mv g) q) := by
  have lo : ∀ a, a < 18 → s a = g a := fun a ha => h.2 a (fun k _ => by omega)
  have e0 : s 0 = g 0 := lo 0 (by omega)
  have hn2 : nG (mv s) = n := by rw [← hn]; show ix (s 0) = ix (g 0); rw [e0]
  refine ⟨⟨?_, ?_, ?_⟩, fun k hk => ?_, fun k hk => ?_, fun i hi => ?_⟩
  · exact e0
  · exact lo 1 (by omega)
  · exact lo 2 (by omega)
  · rw [rdG, rdJ_n _ _ _ (by decide)]
    simp only [mv, hk]
    exact lo (3 + k) (by omega)
  · rw [rdG, rdJ_n _ _ _ (by decide), mv_2 _ hk, mv_2 _ hk]
    exact lo (7 + k) (by omega)
  · rw [hn2] at hi
    rw [rdG, rdJ_n (a := 3) _ _ _ (by decide), rdJ_n (a := 4) _ _ _ (by decide), rdJ_n (a := 5) _ _ _ (by decide), hn]
    refine ⟨h.2 _ (fun k _ => by omega), h.2 _ (fun k _ => by omega), h.2 _ (fun k _ => by omega), ?_⟩
    rw [mv_6, h.1 i hi]
    simp only [rdJ, hi, mv_6]
    by_cases c : q.testBit i = true
    · simp [c]
    · simp [c]
theorem rdP_c {G H : GG} (h : Geq G H) (hI : InvG G) {i m q : Nat} (hi : i < nG G) : rdP G i m q ↔ rdP H i m q := by
  unfold rdP
  rw [byN_c (rdG_c h q) (rdJ_i hI _ _).1 (by rw [rdG_n]; exact hi) m]
theorem upA_74 (h : Hp) (b a : Nat → Int32) : upA (upA h 44 a) 47 b = upA (upA h 47 b) 44 a := by
  funext p q; simp only [upA]; grind
theorem upA_47a (h : Hp) (b a s : Nat → Int32) : upA (upA (upA h 47 b) 44 a) 42 s 47 = b := by
  funext q; simp [upA]
theorem upA_4742 (h : Hp) (b : Nat → Int32) : upA h 47 b 42 = h 42 := upA_ne (by decide)
theorem up47 (h : Hp) (b : Nat → Int32) (k : Nat) (v : Int32) : up2 (upA h 47 b) 47 k v = upA h 47 (upd b k v) := by
  funext p q; simp only [up2, upA, upd]; grind
theorem it_ix {k : Nat} (hk : k < 8) : (0 ≤ 15 + 4 * nI k + 3 ∧ 15 + 4 * nI k + 3 < 47) ∧ (15 + 4 * nI k + 3).toNatClampNeg = 15 + 4 * k + 3 := by
  obtain ⟨a0, a1, a2, a3⟩ := at_ix (nlt8 hk)
  rw [show ix (nI k) = k from ix_nI (by omega)] at a3
  exact a3
theorem rdR_skip {P : Nat → Prop} {j b : Nat} (h : rdR P j (nI b)) (hb : b < 256) (hj : j < 256) (c : ¬ pcn j < pcn b) : rdR P (j + 1) (nI b) := by
  rcases h with ⟨a, _⟩ | ⟨q, a1, a2, a3, a4⟩
  · exact absurd a (fun q => by
      have : (0 : Int32) ≤ -3 := by rw [← q]; exact nI_pos' (by omega)
      exact absurd this (by decide))
  · have : q = b := ((nI_eq (by omega) (by omega)).mp a2).symm
    subst this
    refine Or.inr ⟨q, by omega, rfl, a3, fun p p1 p2 => ?_⟩
    rcases Nat.lt_or_ge p j with x | x
    · exact a4 p x p2
    · have : p = j := by omega
      subst this
      unfold lexP; omega
theorem rdR_no {P : Nat → Prop} {j : Nat} {R : Int32} (h : rdR P j R) (c : ¬ P j) : rdR P (j + 1) R := by
  rcases h with ⟨a, b⟩ | ⟨q, a1, a2, a3, a4⟩
  · refine Or.inl ⟨a, fun q hq => ?_⟩
    rcases Nat.lt_or_ge q j with x | x
    · exact b q x
    · rw [show q = j by omega]; exact c
  · refine Or.inr ⟨q, by omega, a2, a3, fun p p1 p2 => ?_⟩
    rcases Nat.lt_or_ge p j with x | x
    · exact a4 p x p2
    · rw [show p = j by omega] at p2; exact absurd p2 c
theorem rdR_yes {P : Nat → Prop} {j : Nat} {R : Int32} (h : rdR P j R) (hj : j < 256) (c : P j) (d : R = -3 ∨ ∃ b, b < 256 ∧ R = nI b ∧ pcn j < pcn b) : rdR P (j + 1) (nI j) := by
  refine Or.inr ⟨j, by omega, rfl, c, fun p p1 p2 => ?_⟩
  rcases Nat.lt_or_ge p j with x | x
  · rcases h with ⟨a, b⟩ | ⟨q, a1, a2, a3, a4⟩
    · exact absurd p2 (b p x)
    · rcases d with d | ⟨b, b1, b2, b3⟩
      · exact absurd d (fun q2 => by
          have : (0 : Int32) ≤ -3 := by rw [← q2, a2]; exact nI_pos' (by omega)
          exact absurd this (by decide))
      · have : q = b := (nI_eq (by omega) (by omega)).mp (by rw [← a2, b2])
        subst this
        have := a4 p x p2
        unfold lexP at *; omega
  · rw [show p = j by omega]; unfold lexP; omega
theorem lp6_rudeH {h : Hp} {Q : Po} {o m : Int32} {n : Nat} (hc : h 42 0 = nI n) (hn8 : n ≤ 8) (next : ∀ b : Nat → Int32, (∀ k, k < n → b k = h 42 (15 + 4 * k + 3)) → Rn (T6_rudeFor Q S6_isOne S6_isShort S6_its S6_size S6_passesBy) (53, [some (.ref 41), some (.int o), some (.int m), some (.int (-3)), some (.int 0), none], [], upA h 47 b)) : ∀ d j, d + j = n → ∀ b : Nat → Int32, (∀ k, k < j → b k = h 42 (15 + 4 * k + 3)) → Rn (T6_rudeFor Q S6_isOne S6_isShort S6_its S6_size S6_passesBy) (19, [some (.ref 41), some (.int o), some (.int m), some (.int (nI j)), none, none], [], upA h 47 b)
  | 0, j, e, b, hb => by
    have e : j = n := by omega
    subst e
    have nx := next b hb
    refine Rn_go C6_rudeFor 60 ?_
    simp only [x6_rudeFor_0, x6_rudeFor_1, x6_rudeFor_2, x6_rudeFor_5, x6_rudeFor_8, x6_rudeFor_9, x6_rudeFor_12, x6_rudeFor_15, x6_rudeFor_16, x6_rudeFor_17, x6_rudeFor_18, k6_rudeFor_19, t6_rudeFor_19, x6_rudeFor_20, x6_rudeFor_21, x6_rudeFor_24, x6_rudeFor_25, x6_rudeFor_26, x6_rudeFor_29, x6_rudeFor_30, x6_rudeFor_33, x6_rudeFor_34, x6_rudeFor_35, x6_rudeFor_36, x6_rudeFor_37, x6_rudeFor_40, x6_rudeFor_41, x6_rudeFor_44, x6_rudeFor_47, x6_rudeFor_49, x6_rudeFor_50, x6_rudeFor_51, k6_rudeFor_53, t6_rudeFor_53, x6_rudeFor_55, x6_rudeFor_56, x6_rudeFor_57, x6_rudeFor_60, x6_rudeFor_61, x6_rudeFor_62, x6_rudeFor_63, x6_rudeFor_66, x6_rudeFor_67, x6_rudeFor_70, x6_rudeFor_72, x6_rudeFor_75, x6_rudeFor_76, x6_rudeFor_79, x6_rudeFor_82, x6_rudeFor_83, k6_rudeFor_85, t6_rudeFor_85, x6_rudeFor_87, x6_rudeFor_88, x6_rudeFor_91, x6_rudeFor_92, x6_rudeFor_93, x6_rudeFor_96, x6_rudeFor_97, x6_rudeFor_100, x6_rudeFor_102, x6_rudeFor_103, x6_rudeFor_105, x6_rudeFor_106, x6_rudeFor_107, x6_rudeFor_108, x6_rudeFor_109, x6_rudeFor_111, x6_rudeFor_113, x6_rudeFor_114, x6_rudeFor_115, x6_rudeFor_116, x6_rudeFor_117, x6_rudeFor_120, x6_rudeFor_121, x6_rudeFor_124, x6_rudeFor_125, x6_rudeFor_128, x6_rudeFor_130, x6_rudeFor_131, x6_rudeFor_132, x6_rudeFor_135, x6_rudeFor_138, x6_rudeFor_139, x6_rudeFor_140, x6_rudeFor_142, x6_rudeFor_143, x6_rudeFor_146, x6_rudeFor_147, x6_rudeFor_150, x6_rudeFor_152, x6_rudeFor_155, x6_rudeFor_156, x6_rudeFor_157, x6_rudeFor_160, x6_rudeFor_163, x6_rudeFor_164, k6_rudeFor_166, t6_rudeFor_166, x6_rudeFor_168, x6_rudeFor_169, x6_rudeFor_172, x6_rudeFor_173, x6_rudeFor_174, x6_rudeFor_177, x6_rudeFor_178, x6_rudeFor_181, x6_rudeFor_183, x6_rudeFor_184, x6_rudeFor_186, x6_rudeFor_187, x6_rudeFor_188, x6_rudeFor_189, x6_rudeFor_190, x6_rudeFor_191, x6_rudeFor_194, x6_rudeFor_196, x6_rudeFor_197, x6_rudeFor_198, x6_rudeFor_201, x6_rudeFor_204, x6_rudeFor_205, i_ald, i_cS, i_cV, i_get, i_goto, i_iadd, i_iald, i_iand, i_iast, i_ic, i_ic_ge, i_ic_gt, i_ic_ne, i_if_eq, i_if_lt, i_if_ne, i_ild, i_imul, i_inc, i_iret, i_ishl, i_ishr, i_ist, oc_41, fv_41_0, fv_41_1, fv_41_2, fv_41_3, fv_41_4, ly_41_4, fv_41_5, fv_41_6, ly_41_6, fv_41_7, ly_41_7, fv_41_8, ly_41_8, fv_41_9, ly_41_9, fv_41_10, ly_41_10, fv_41_11, ly_41_11, fv_41_12, fv_41_13, fv_41_14, ly_41_14, fv_41_15, fv_41_16, fv_41_17, fv_41_18, fv_41_19, fv_41_20, fv_41_21, fv_41_22, ly_41_22, fv_41_23, ly_41_23, fv_41_24, ly_41_24, fv_41_25, ly_41_25, fv_41_26, ly_41_26, rd_42, al_42, rd_43, al_43, rd_44, al_44, rd_45, al_45, rd_46, al_46, rd_47, al_47, rd_48, al_48, rd_49, al_49, rd_50, al_50, rd_51, al_51, rd_52, al_52, rd_53, al_53, rd_54, al_54, rd_55, al_55, lck_0, lck_i, lck_r, lck_n, lck_l, csum_0, csum_i, csum_r, csum_l, pops_0, pops_s, psh_n, psh_s, List.getElem?_cons_zero, List.getElem?_cons_succ, List.set_cons_zero, List.set_cons_succ, true_and, and_true, Nat.reduceAdd, Nat.reduceLeDiff, v47, w47, ix0, upA_4742, hc]
    exact ⟨fun _ => nx, fun c => absurd (Int32.le_refl _) c⟩
  | d + 1, j, e, b, hb => by
    have ih := lp6_rudeH hc hn8 next d (j + 1) (by omega)
    rw [← nI_1] at ih
    have hlt : ¬ nI n ≤ nI j := nI_ge (by omega) (by omega)
    have j8 := nlt8 (j := j) (by omega)
    have hxj : (nI j).toNatClampNeg = j := ix_nI (by omega)
    refine Rn_go C6_rudeFor 60 ?_
    simp only [x6_rudeFor_0, x6_rudeFor_1, x6_rudeFor_2, x6_rudeFor_5, x6_rudeFor_8, x6_rudeFor_9, x6_rudeFor_12, x6_rudeFor_15, x6_rudeFor_16, x6_rudeFor_17, x6_rudeFor_18, k6_rudeFor_19, t6_rudeFor_19, x6_rudeFor_20, x6_rudeFor_21, x6_rudeFor_24, x6_rudeFor_25, x6_rudeFor_26, x6_rudeFor_29, x6_rudeFor_30, x6_rudeFor_33, x6_rudeFor_34, x6_rudeFor_35, x6_rudeFor_36, x6_rudeFor_37, x6_rudeFor_40, x6_rudeFor_41, x6_rudeFor_44, x6_rudeFor_47, x6_rudeFor_49, x6_rudeFor_50, x6_rudeFor_51, k6_rudeFor_53, t6_rudeFor_53, x6_rudeFor_55, x6_rudeFor_56, x6_rudeFor_57, x6_rudeFor_60, x6_rudeFor_61, x6_rudeFor_62, x6_rudeFor_63, x6_rudeFor_66, x6_rudeFor_67, x6_rudeFor_70, x6_rudeFor_72, x6_rudeFor_75, x6_rudeFor_76, x6_rudeFor_79, x6_rudeFor_82, x6_rudeFor_83, k6_rudeFor_85, t6_rudeFor_85, x6_rudeFor_87, x6_rudeFor_88, x6_rudeFor_91, x6_rudeFor_92, x6_rudeFor_93, x6_rudeFor_96, x6_rudeFor_97, x6_rudeFor_100, x6_rudeFor_102, x6_rudeFor_103, x6_rudeFor_105, x6_rudeFor_106, x6_rudeFor_107, x6_rudeFor_108, x6_rudeFor_109, x6_rudeFor_111, x6_rudeFor_113, x6_rudeFor_114, x6_rudeFor_115, x6_rudeFor_116, x6_rudeFor_117, x6_rudeFor_120, x6_rudeFor_121, x6_rudeFor_124, x6_rudeFor_125, x6_rudeFor_128, x6_rudeFor_130, x6_rudeFor_131, x6_rudeFor_132, x6_rudeFor_135, x6_rudeFor_138, x6_rudeFor_139, x6_rudeFor_140, x6_rudeFor_142, x6_rudeFor_143, x6_rudeFor_146, x6_rudeFor_147, x6_rudeFor_150, x6_rudeFor_152, x6_rudeFor_155, x6_rudeFor_156, x6_rudeFor_157, x6_rudeFor_160, x6_rudeFor_163, x6_rudeFor_164, k6_rudeFor_166, t6_rudeFor_166, x6_rudeFor_168, x6_rudeFor_169, x6_rudeFor_172, x6_rudeFor_173, x6_rudeFor_174, x6_rudeFor_177, x6_rudeFor_178, x6_rudeFor_181, x6_rudeFor_183, x6_rudeFor_184, x6_rudeFor_186, x6_rudeFor_187, x6_rudeFor_188, x6_rudeFor_189, x6_rudeFor_190, x6_rudeFor_191, x6_rudeFor_194, x6_rudeFor_196, x6_rudeFor_197, x6_rudeFor_198, x6_rudeFor_201, x6_rudeFor_204, x6_rudeFor_205, i_ald, i_cS, i_cV, i_get, i_goto, i_iadd, i_iald, i_iand, i_iast, i_ic, i_ic_ge, i_ic_gt, i_ic_ne, i_if_eq, i_if_lt, i_if_ne, i_ild, i_imul, i_inc, i_iret, i_ishl, i_ishr, i_ist, oc_41, fv_41_0, fv_41_1, fv_41_2, fv_41_3, fv_41_4, ly_41_4, fv_41_5, fv_41_6, ly_41_6, fv_41_7, ly_41_7, fv_41_8, ly_41_8, fv_41_9, ly_41_9, fv_41_10, ly_41_10, fv_41_11, ly_41_11, fv_41_12, fv_41_13, fv_41_14, ly_41_14, fv_41_15, fv_41_16, fv_41_17, fv_41_18, fv_41_19, fv_41_20, fv_41_21, fv_41_22, ly_41_22, fv_41_23, ly_41_23, fv_41_24, ly_41_24, fv_41_25, ly_41_25, fv_41_26, ly_41_26, rd_42, al_42, rd_43, al_43, rd_44, al_44, rd_45, al_45, rd_46, al_46, rd_47, al_47, rd_48, al_48, rd_49, al_49, rd_50, al_50, rd_51, al_51, rd_52, al_52, rd_53, al_53, rd_54, al_54, rd_55, al_55, lck_0, lck_i, lck_r, lck_n, lck_l, csum_0, csum_i, csum_r, csum_l, pops_0, pops_s, psh_n, psh_s, List.getElem?_cons_zero, List.getElem?_cons_succ, List.set_cons_zero, List.set_cons_succ, true_and, and_true, Nat.reduceAdd, Nat.reduceLeDiff, v47, w47, ix0, upA_4742, hc, S6_its, t4, ix3, ix, hxj, v8, up47]
    refine ⟨fun c => absurd c hlt, fun _ => ⟨j8, j8, ih _ (fun k hk => ?_)⟩⟩
    rw [upd_ap]
    split
    · rename_i x; rw [x]
    · exact hb k (by omega)
theorem lp6_rudeB {h : Hp} {Q : Po} {o m R : Int32} {n : Nat} (hc : h 42 0 = nI n) (hn8 : n ≤ 8) {b a : Nat → Int32} (hb : ∀ k, k < n → b k = h 42 (15 + 4 * k + 3)) (hQ : Q (some (.int R)) (upA (upA h 47 b) 44 a)) : ∀ d j, d + j = n → ∀ s : Nat → Int32, rsI (h 42) s 0 n j → ∀ y, Rn (T6_rudeFor Q S6_isOne S6_isShort S6_its S6_size S6_passesBy) (166, [some (.ref 41), some (.int o), some (.int m), some (.int R), some (.int (nI j)), y], [], upA (upA (upA h 47 b) 44 a) 42 s)
  | 0, j, e, s, hs, y => by
    have e : j = n := by omega
    subst e
    have s0 : s 0 = nI j := by rw [hs.2 0 (fun k _ => by omega), hc]
    have es : s = h 42 := by
      funext c
      by_cases x : ∀ k, k < j → c ≠ 15 + 4 * k + 3
      · exact hs.2 c x
      · obtain ⟨k, hk⟩ := Classical.not_forall.mp x
        obtain ⟨k1, k2⟩ := Classical.not_imp.mp hk
        have : c = 15 + 4 * k + 3 := Classical.not_not.mp k2
        rw [this, hs.1 k k1]; simp
    have e2 : upA (upA (upA h 47 b) 44 a) 42 s = upA (upA h 47 b) 44 a := by
      rw [es]
      have := upA_4442b (upA h 47 b) a
      rw [upA_4742] at this
      exact this
    refine Rn_go C6_rudeFor 60 ?_
    simp only [x6_rudeFor_0, x6_rudeFor_1, x6_rudeFor_2, x6_rudeFor_5, x6_rudeFor_8, x6_rudeFor_9, x6_rudeFor_12, x6_rudeFor_15, x6_rudeFor_16, x6_rudeFor_17, x6_rudeFor_18, k6_rudeFor_19, t6_rudeFor_19, x6_rudeFor_20, x6_rudeFor_21, x6_rudeFor_24, x6_rudeFor_25, x6_rudeFor_26, x6_rudeFor_29, x6_rudeFor_30, x6_rudeFor_33, x6_rudeFor_34, x6_rudeFor_35, x6_rudeFor_36, x6_rudeFor_37, x6_rudeFor_40, x6_rudeFor_41, x6_rudeFor_44, x6_rudeFor_47, x6_rudeFor_49, x6_rudeFor_50, x6_rudeFor_51, k6_rudeFor_53, t6_rudeFor_53, x6_rudeFor_55, x6_rudeFor_56, x6_rudeFor_57, x6_rudeFor_60, x6_rudeFor_61, x6_rudeFor_62, x6_rudeFor_63, x6_rudeFor_66, x6_rudeFor_67, x6_rudeFor_70, x6_rudeFor_72, x6_rudeFor_75, x6_rudeFor_76, x6_rudeFor_79, x6_rudeFor_82, x6_rudeFor_83, k6_rudeFor_85, t6_rudeFor_85, x6_rudeFor_87, x6_rudeFor_88, x6_rudeFor_91, x6_rudeFor_92, x6_rudeFor_93, x6_rudeFor_96, x6_rudeFor_97, x6_rudeFor_100, x6_rudeFor_102, x6_rudeFor_103, x6_rudeFor_105, x6_rudeFor_106, x6_rudeFor_107, x6_rudeFor_108, x6_rudeFor_109, x6_rudeFor_111, x6_rudeFor_113, x6_rudeFor_114, x6_rudeFor_115, x6_rudeFor_116, x6_rudeFor_117, x6_rudeFor_120, x6_rudeFor_121, x6_rudeFor_124, x6_rudeFor_125, x6_rudeFor_128, x6_rudeFor_130, x6_rudeFor_131, x6_rudeFor_132, x6_rudeFor_135, x6_rudeFor_138, x6_rudeFor_139, x6_rudeFor_140, x6_rudeFor_142, x6_rudeFor_143, x6_rudeFor_146, x6_rudeFor_147, x6_rudeFor_150, x6_rudeFor_152, x6_rudeFor_155, x6_rudeFor_156, x6_rudeFor_157, x6_rudeFor_160, x6_rudeFor_163, x6_rudeFor_164, k6_rudeFor_166, t6_rudeFor_166, x6_rudeFor_168, x6_rudeFor_169, x6_rudeFor_172, x6_rudeFor_173, x6_rudeFor_174, x6_rudeFor_177, x6_rudeFor_178, x6_rudeFor_181, x6_rudeFor_183, x6_rudeFor_184, x6_rudeFor_186, x6_rudeFor_187, x6_rudeFor_188, x6_rudeFor_189, x6_rudeFor_190, x6_rudeFor_191, x6_rudeFor_194, x6_rudeFor_196, x6_rudeFor_197, x6_rudeFor_198, x6_rudeFor_201, x6_rudeFor_204, x6_rudeFor_205, i_ald, i_cS, i_cV, i_get, i_goto, i_iadd, i_iald, i_iand, i_iast, i_ic, i_ic_ge, i_ic_gt, i_ic_ne, i_if_eq, i_if_lt, i_if_ne, i_ild, i_imul, i_inc, i_iret, i_ishl, i_ishr, i_ist, oc_41, fv_41_0, fv_41_1, fv_41_2, fv_41_3, fv_41_4, ly_41_4, fv_41_5, fv_41_6, ly_41_6, fv_41_7, ly_41_7, fv_41_8, ly_41_8, fv_41_9, ly_41_9, fv_41_10, ly_41_10, fv_41_11, ly_41_11, fv_41_12, fv_41_13, fv_41_14, ly_41_14, fv_41_15, fv_41_16, fv_41_17, fv_41_18, fv_41_19, fv_41_20, fv_41_21, fv_41_22, ly_41_22, fv_41_23, ly_41_23, fv_41_24, ly_41_24, fv_41_25, ly_41_25, fv_41_26, ly_41_26, rd_42, al_42, rd_43, al_43, rd_44, al_44, rd_45, al_45, rd_46, al_46, rd_47, al_47, rd_48, al_48, rd_49, al_49, rd_50, al_50, rd_51, al_51, rd_52, al_52, rd_53, al_53, rd_54, al_54, rd_55, al_55, lck_0, lck_i, lck_r, lck_n, lck_l, csum_0, csum_i, csum_r, csum_l, pops_0, pops_s, psh_n, psh_s, List.getElem?_cons_zero, List.getElem?_cons_succ, List.set_cons_zero, List.set_cons_succ, true_and, and_true, Nat.reduceAdd, Nat.reduceLeDiff, v47, w47, ix0, upA_42, s0]
    rw [e2]
    exact ⟨fun _ => hQ, fun c => absurd (Int32.le_refl _) c⟩
  | d + 1, j, e, s, hs, y => by
    have ih := lp6_rudeB (o := o) (m := m) hc hn8 hb hQ d (j + 1) (by omega)
    rw [← nI_1] at ih
    have s0 : s 0 = nI n := by rw [hs.2 0 (fun k _ => by omega), hc]
    have hlt : ¬ nI n ≤ nI j := nI_ge (by omega) (by omega)
    have j8 := nlt8 (j := j) (by omega)
    have hxj : (nI j).toNatClampNeg = j := ix_nI (by omega)
    obtain ⟨i1, i2⟩ := it_ix (k := j) (by omega)
    refine Rn_go C6_rudeFor 60 ?_
    simp only [x6_rudeFor_0, x6_rudeFor_1, x6_rudeFor_2, x6_rudeFor_5, x6_rudeFor_8, x6_rudeFor_9, x6_rudeFor_12, x6_rudeFor_15, x6_rudeFor_16, x6_rudeFor_17, x6_rudeFor_18, k6_rudeFor_19, t6_rudeFor_19, x6_rudeFor_20, x6_rudeFor_21, x6_rudeFor_24, x6_rudeFor_25, x6_rudeFor_26, x6_rudeFor_29, x6_rudeFor_30, x6_rudeFor_33, x6_rudeFor_34, x6_rudeFor_35, x6_rudeFor_36, x6_rudeFor_37, x6_rudeFor_40, x6_rudeFor_41, x6_rudeFor_44, x6_rudeFor_47, x6_rudeFor_49, x6_rudeFor_50, x6_rudeFor_51, k6_rudeFor_53, t6_rudeFor_53, x6_rudeFor_55, x6_rudeFor_56, x6_rudeFor_57, x6_rudeFor_60, x6_rudeFor_61, x6_rudeFor_62, x6_rudeFor_63, x6_rudeFor_66, x6_rudeFor_67, x6_rudeFor_70, x6_rudeFor_72, x6_rudeFor_75, x6_rudeFor_76, x6_rudeFor_79, x6_rudeFor_82, x6_rudeFor_83, k6_rudeFor_85, t6_rudeFor_85, x6_rudeFor_87, x6_rudeFor_88, x6_rudeFor_91, x6_rudeFor_92, x6_rudeFor_93, x6_rudeFor_96, x6_rudeFor_97, x6_rudeFor_100, x6_rudeFor_102, x6_rudeFor_103, x6_rudeFor_105, x6_rudeFor_106, x6_rudeFor_107, x6_rudeFor_108, x6_rudeFor_109, x6_rudeFor_111, x6_rudeFor_113, x6_rudeFor_114, x6_rudeFor_115, x6_rudeFor_116, x6_rudeFor_117, x6_rudeFor_120, x6_rudeFor_121, x6_rudeFor_124, x6_rudeFor_125, x6_rudeFor_128, x6_rudeFor_130, x6_rudeFor_131, x6_rudeFor_132, x6_rudeFor_135, x6_rudeFor_138, x6_rudeFor_139, x6_rudeFor_140, x6_rudeFor_142, x6_rudeFor_143, x6_rudeFor_146, x6_rudeFor_147, x6_rudeFor_150, x6_rudeFor_152, x6_rudeFor_155, x6_rudeFor_156, x6_rudeFor_157, x6_rudeFor_160, x6_rudeFor_163, x6_rudeFor_164, k6_rudeFor_166, t6_rudeFor_166, x6_rudeFor_168, x6_rudeFor_169, x6_rudeFor_172, x6_rudeFor_173, x6_rudeFor_174, x6_rudeFor_177, x6_rudeFor_178, x6_rudeFor_181, x6_rudeFor_183, x6_rudeFor_184, x6_rudeFor_186, x6_rudeFor_187, x6_rudeFor_188, x6_rudeFor_189, x6_rudeFor_190, x6_rudeFor_191, x6_rudeFor_194, x6_rudeFor_196, x6_rudeFor_197, x6_rudeFor_198, x6_rudeFor_201, x6_rudeFor_204, x6_rudeFor_205, i_ald, i_cS, i_cV, i_get, i_goto, i_iadd, i_iald, i_iand, i_iast, i_ic, i_ic_ge, i_ic_gt, i_ic_ne, i_if_eq, i_if_lt, i_if_ne, i_ild, i_imul, i_inc, i_iret, i_ishl, i_ishr, i_ist, oc_41, fv_41_0, fv_41_1, fv_41_2, fv_41_3, fv_41_4, ly_41_4, fv_41_5, fv_41_6, ly_41_6, fv_41_7, ly_41_7, fv_41_8, ly_41_8, fv_41_9, ly_41_9, fv_41_10, ly_41_10, fv_41_11, ly_41_11, fv_41_12, fv_41_13, fv_41_14, ly_41_14, fv_41_15, fv_41_16, fv_41_17, fv_41_18, fv_41_19, fv_41_20, fv_41_21, fv_41_22, ly_41_22, fv_41_23, ly_41_23, fv_41_24, ly_41_24, fv_41_25, ly_41_25, fv_41_26, ly_41_26, rd_42, al_42, rd_43, al_43, rd_44, al_44, rd_45, al_45, rd_46, al_46, rd_47, al_47, rd_48, al_48, rd_49, al_49, rd_50, al_50, rd_51, al_51, rd_52, al_52, rd_53, al_53, rd_54, al_54, rd_55, al_55, lck_0, lck_i, lck_r, lck_n, lck_l, csum_0, csum_i, csum_r, csum_l, pops_0, pops_s, psh_n, psh_s, List.getElem?_cons_zero, List.getElem?_cons_succ, List.set_cons_zero, List.set_cons_succ, true_and, and_true, Nat.reduceAdd, Nat.reduceLeDiff, v47, w47, ix0, upA_42, s0, v8, hxj, upA_47a, i2, up42b, upA_same]
    refine ⟨fun c => absurd c hlt, fun _ => ⟨j8, i1, ih _ ⟨fun k hk => ?_, fun c hc2 => ?_⟩ y⟩⟩
    · rw [upd_ap]
      split
      · rename_i x
        have : k = j := by omega
        rw [this, hb j (by omega)]; simp
      · exact hs.1 k (by omega)
    · rw [upd_ap, if_neg (hc2 j (by omega))]
      exact hs.2 c hc2
theorem lp6_rudeS {h : Hp} {Q : Po} (hI : InvG (mv (h 42))) {k m n : Nat} (hn : nG (mv (h 42)) = n) (hc : h 42 0 = nI n) (hn8 : n ≤ 8) (hk : k < n) (hm : m ≤ 40) {b : Nat → Int32} (hb : ∀ k, k < n → b k = h 42 (15 + 4 * k + 3)) {q : Nat} (hq : q < 256) {R : Int32} (next : ∀ R1, (rdP (mv (h 42)) k m q → R1 = nI q) → (¬ rdP (mv (h 42)) k m q → R1 = R) → ∀ a s, (∀ c, (∀ k, k < n → c ≠ 15 + 4 * k + 3) → s c = h 42 c) → ∀ y, Rn (T6_rudeFor Q S6_isOne S6_isShort S6_its S6_size S6_passesBy) (53, [some (.ref 41), some (.int (nI k)), some (.int (nI m)), some (.int R1), some (.int (nI q + 1)), y], [], upA (upA (upA h 47 b) 44 a) 42 s)) : ∀ d j, d + j = n → ∀ a s, rsI (h 42) s q n j → Rn (T6_rudeFor Q S6_isOne S6_isShort S6_its S6_size S6_passesBy) (85, [some (.ref 41), some (.int (nI k)), some (.int (nI m)), some (.int R), some (.int (nI q)), some (.int (nI j))], [], upA (upA (upA h 47 b) 44 a) 42 s)
  | 0, j, e, a, s, hs => by
    have e : j = n := by omega
    subst e
    have s0 : s 0 = nI j := by rw [hs.2 0 (fun k _ => by omega), hc]
    have hx : (nI k).toNatClampNeg = k := ix_nI (by omega)
    have hxm : (nI m).toNatClampNeg = m := ix_nI (by omega)
    have k8 := nlt8 (j := k) (by omega)
    have m60 : 0 ≤ nI m ∧ nI m ≤ 60 := ⟨nI_pos' (by omega), nI_le (b := 60) (by omega) (by decide)⟩
    have eG := rsI_G hs hn hn8
    have iS : InvG (mv s) := InvG_c eG.symm (rdJ_i hI _ _)
    have iS1 := iS.1
    have eB := byN_c eG iS.1 (i := k) (by rw [Geq_n eG, rdG_n, hn]; exact hk) m
    have l1 := byN_le (rdG (mv (h 42)) q) k m
    refine Rn_go C6_rudeFor 60 ?_
    simp only [x6_rudeFor_0, x6_rudeFor_1, x6_rudeFor_2, x6_rudeFor_5, x6_rudeFor_8, x6_rudeFor_9, x6_rudeFor_12, x6_rudeFor_15, x6_rudeFor_16, x6_rudeFor_17, x6_rudeFor_18, k6_rudeFor_19, t6_rudeFor_19, x6_rudeFor_20, x6_rudeFor_21, x6_rudeFor_24, x6_rudeFor_25, x6_rudeFor_26, x6_rudeFor_29, x6_rudeFor_30, x6_rudeFor_33, x6_rudeFor_34, x6_rudeFor_35, x6_rudeFor_36, x6_rudeFor_37, x6_rudeFor_40, x6_rudeFor_41, x6_rudeFor_44, x6_rudeFor_47, x6_rudeFor_49, x6_rudeFor_50, x6_rudeFor_51, k6_rudeFor_53, t6_rudeFor_53, x6_rudeFor_55, x6_rudeFor_56, x6_rudeFor_57, x6_rudeFor_60, x6_rudeFor_61, x6_rudeFor_62, x6_rudeFor_63, x6_rudeFor_66, x6_rudeFor_67, x6_rudeFor_70, x6_rudeFor_72, x6_rudeFor_75, x6_rudeFor_76, x6_rudeFor_79, x6_rudeFor_82, x6_rudeFor_83, k6_rudeFor_85, t6_rudeFor_85, x6_rudeFor_87, x6_rudeFor_88, x6_rudeFor_91, x6_rudeFor_92, x6_rudeFor_93, x6_rudeFor_96, x6_rudeFor_97, x6_rudeFor_100, x6_rudeFor_102, x6_rudeFor_103, x6_rudeFor_105, x6_rudeFor_106, x6_rudeFor_107, x6_rudeFor_108, x6_rudeFor_109, x6_rudeFor_111, x6_rudeFor_113, x6_rudeFor_114, x6_rudeFor_115, x6_rudeFor_116, x6_rudeFor_117, x6_rudeFor_120, x6_rudeFor_121, x6_rudeFor_124, x6_rudeFor_125, x6_rudeFor_128, x6_rudeFor_130, x6_rudeFor_131, x6_rudeFor_132, x6_rudeFor_135, x6_rudeFor_138, x6_rudeFor_139, x6_rudeFor_140, x6_rudeFor_142, x6_rudeFor_143, x6_rudeFor_146, x6_rudeFor_147, x6_rudeFor_150, x6_rudeFor_152, x6_rudeFor_155, x6_rudeFor_156, x6_rudeFor_157, x6_rudeFor_160, x6_rudeFor_163, x6_rudeFor_164, k6_rudeFor_166, t6_rudeFor_166, x6_rudeFor_168, x6_rudeFor_169, x6_rudeFor_172, x6_rudeFor_173, x6_rudeFor_174, x6_rudeFor_177, x6_rudeFor_178, x6_rudeFor_181, x6_rudeFor_183, x6_rudeFor_184, x6_rudeFor_186, x6_rudeFor_187, x6_rudeFor_188, x6_rudeFor_189, x6_rudeFor_190, x6_rudeFor_191, x6_rudeFor_194, x6_rudeFor_196, x6_rudeFor_197, x6_rudeFor_198, x6_rudeFor_201, x6_rudeFor_204, x6_rudeFor_205, i_ald, i_cS, i_cV, i_get, i_goto, i_iadd, i_iald, i_iand, i_iast, i_ic, i_ic_ge, i_ic_gt, i_ic_ne, i_if_eq, i_if_lt, i_if_ne, i_ild, i_imul, i_inc, i_iret, i_ishl, i_ishr, i_ist, oc_41, fv_41_0, fv_41_1, fv_41_2, fv_41_3, fv_41_4, ly_41_4, fv_41_5, fv_41_6, ly_41_6, fv_41_7, ly_41_7, fv_41_8, ly_41_8, fv_41_9, ly_41_9, fv_41_10, ly_41_10, fv_41_11, ly_41_11, fv_41_12, fv_41_13, fv_41_14, ly_41_14, fv_41_15, fv_41_16, fv_41_17, fv_41_18, fv_41_19, fv_41_20, fv_41_21, fv_41_22, ly_41_22, fv_41_23, ly_41_23, fv_41_24, ly_41_24, fv_41_25, ly_41_25, fv_41_26, ly_41_26, rd_42, al_42, rd_43, al_43, rd_44, al_44, rd_45, al_45, rd_46, al_46, rd_47, al_47, rd_48, al_48, rd_49, al_49, rd_50, al_50, rd_51, al_51, rd_52, al_52, rd_53, al_53, rd_54, al_54, rd_55, al_55, lck_0, lck_i, lck_r, lck_n, lck_l, csum_0, csum_i, csum_r, csum_l, pops_0, pops_s, psh_n, psh_s, List.getElem?_cons_zero, List.getElem?_cons_succ, List.set_cons_zero, List.set_cons_succ, true_and, and_true, Nat.reduceAdd, Nat.reduceLeDiff, v47, w47, ix0, upA_42, s0, S6_passesBy, k8, m60, iS1, ix, hx, hxm, byK, upA_cm, upA_same]
    refine ⟨fun _ c => ?_, fun c => absurd (Int32.le_refl _) c⟩
    rw [eB]
    refine ⟨fun c2 => ?_, fun c2 => ?_⟩
    · have c3 : ¬ rdP (mv (h 42)) k m q := fun x => absurd c2 (nI_nlt x (by omega))
      exact next R (fun x => absurd x c3) (fun _ => rfl) c s hs.2 _
    · have c3 : rdP (mv (h 42)) k m q := by
        rcases Nat.lt_or_ge m (byN (rdG (mv (h 42)) q) k m) with x | x
        · exact absurd (nI_lt x (by omega)) c2
        · exact x
      exact next _ (fun _ => rfl) (fun x => absurd c3 x) c s hs.2 _
  | d + 1, j, e, a, s, hs => by
    have ih := lp6_rudeS hI hn hc hn8 hk hm hb hq next d (j + 1) (by omega)
    rw [← nI_1] at ih
    have s0 : s 0 = nI n := by rw [hs.2 0 (fun k _ => by omega), hc]
    have hlt : ¬ nI n ≤ nI j := nI_ge (by omega) (by omega)
    have j8 := nlt8 (j := j) (by omega)
    have hxj : (nI j).toNatClampNeg = j := ix_nI (by omega)
    obtain ⟨i1, i2⟩ := it_ix (k := j) (by omega)
    obtain ⟨k1, -⟩ := bt_key q hq j (by omega)
    have step : ∀ v : Int32, v = (if q.testBit j = true then 0 else h 42 (15 + 4 * j + 3)) → rsI (h 42) (upd s (15 + 4 * j + 3) v) q n (j + 1) := by
      intro v hv
      refine ⟨fun k hk => ?_, fun c hc2 => ?_⟩
      · rw [upd_ap]
        split
        · rename_i x
          have : k = j := by omega
          rw [this]; exact hv
        · exact hs.1 k (by omega)
      · rw [upd_ap, if_neg (hc2 j (by omega))]
        exact hs.2 c hc2
    refine Rn_go C6_rudeFor 60 ?_
    simp only [x6_rudeFor_0, x6_rudeFor_1, x6_rudeFor_2, x6_rudeFor_5, x6_rudeFor_8, x6_rudeFor_9, x6_rudeFor_12, x6_rudeFor_15, x6_rudeFor_16, x6_rudeFor_17, x6_rudeFor_18, k6_rudeFor_19, t6_rudeFor_19, x6_rudeFor_20, x6_rudeFor_21, x6_rudeFor_24, x6_rudeFor_25, x6_rudeFor_26, x6_rudeFor_29, x6_rudeFor_30, x6_rudeFor_33, x6_rudeFor_34, x6_rudeFor_35, x6_rudeFor_36, x6_rudeFor_37, x6_rudeFor_40, x6_rudeFor_41, x6_rudeFor_44, x6_rudeFor_47, x6_rudeFor_49, x6_rudeFor_50, x6_rudeFor_51, k6_rudeFor_53, t6_rudeFor_53, x6_rudeFor_55, x6_rudeFor_56, x6_rudeFor_57, x6_rudeFor_60, x6_rudeFor_61, x6_rudeFor_62, x6_rudeFor_63, x6_rudeFor_66, x6_rudeFor_67, x6_rudeFor_70, x6_rudeFor_72, x6_rudeFor_75, x6_rudeFor_76, x6_rudeFor_79, x6_rudeFor_82, x6_rudeFor_83, k6_rudeFor_85, t6_rudeFor_85, x6_rudeFor_87, x6_rudeFor_88, x6_rudeFor_91, x6_rudeFor_92, x6_rudeFor_93, x6_rudeFor_96, x6_rudeFor_97, x6_rudeFor_100, x6_rudeFor_102, x6_rudeFor_103, x6_rudeFor_105, x6_rudeFor_106, x6_rudeFor_107, x6_rudeFor_108, x6_rudeFor_109, x6_rudeFor_111, x6_rudeFor_113, x6_rudeFor_114, x6_rudeFor_115, x6_rudeFor_116, x6_rudeFor_117, x6_rudeFor_120, x6_rudeFor_121, x6_rudeFor_124, x6_rudeFor_125, x6_rudeFor_128, x6_rudeFor_130, x6_rudeFor_131, x6_rudeFor_132, x6_rudeFor_135, x6_rudeFor_138, x6_rudeFor_139, x6_rudeFor_140, x6_rudeFor_142, x6_rudeFor_143, x6_rudeFor_146, x6_rudeFor_147, x6_rudeFor_150, x6_rudeFor_152, x6_rudeFor_155, x6_rudeFor_156, x6_rudeFor_157, x6_rudeFor_160, x6_rudeFor_163, x6_rudeFor_164, k6_rudeFor_166, t6_rudeFor_166, x6_rudeFor_168, x6_rudeFor_169, x6_rudeFor_172, x6_rudeFor_173, x6_rudeFor_174, x6_rudeFor_177, x6_rudeFor_178, x6_rudeFor_181, x6_rudeFor_183, x6_rudeFor_184, x6_rudeFor_186, x6_rudeFor_187, x6_rudeFor_188, x6_rudeFor_189, x6_rudeFor_190, x6_rudeFor_191, x6_rudeFor_194, x6_rudeFor_196, x6_rudeFor_197, x6_rudeFor_198, x6_rudeFor_201, x6_rudeFor_204, x6_rudeFor_205, i_ald, i_cS, i_cV, i_get, i_goto, i_iadd, i_iald, i_iand, i_iast, i_ic, i_ic_ge, i_ic_gt, i_ic_ne, i_if_eq, i_if_lt, i_if_ne, i_ild, i_imul, i_inc, i_iret, i_ishl, i_ishr, i_ist, oc_41, fv_41_0, fv_41_1, fv_41_2, fv_41_3, fv_41_4, ly_41_4, fv_41_5, fv_41_6, ly_41_6, fv_41_7, ly_41_7, fv_41_8, ly_41_8, fv_41_9, ly_41_9, fv_41_10, ly_41_10, fv_41_11, ly_41_11, fv_41_12, fv_41_13, fv_41_14, ly_41_14, fv_41_15, fv_41_16, fv_41_17, fv_41_18, fv_41_19, fv_41_20, fv_41_21, fv_41_22, ly_41_22, fv_41_23, ly_41_23, fv_41_24, ly_41_24, fv_41_25, ly_41_25, fv_41_26, ly_41_26, rd_42, al_42, rd_43, al_43, rd_44, al_44, rd_45, al_45, rd_46, al_46, rd_47, al_47, rd_48, al_48, rd_49, al_49, rd_50, al_50, rd_51, al_51, rd_52, al_52, rd_53, al_53, rd_54, al_54, rd_55, al_55, lck_0, lck_i, lck_r, lck_n, lck_l, csum_0, csum_i, csum_r, csum_l, pops_0, pops_s, psh_n, psh_s, List.getElem?_cons_zero, List.getElem?_cons_succ, List.set_cons_zero, List.set_cons_succ, true_and, and_true, Nat.reduceAdd, Nat.reduceLeDiff, v47, w47, ix0, upA_42, s0, v8, hxj, upA_47a, i2, up42b, upA_same, k1]
    refine ⟨fun c => absurd c hlt, fun _ => ⟨fun c => ⟨j8, i1, ih a _ (step _ ?_)⟩, fun c => ⟨i1, ih a _ (step _ ?_)⟩⟩⟩
    · rw [if_neg (fun x => by rw [if_pos x] at c; exact c rfl), hb j (by omega)]
    · rw [if_pos (Classical.byContradiction (fun x => by rw [if_neg x] at c; exact absurd c (by decide)))]
