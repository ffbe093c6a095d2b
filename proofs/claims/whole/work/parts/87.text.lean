/-! String members; names, numbers, ends: the class -/
def SJ3_checkIndex : Sp := fun av h Q => match av with | [.int i, .int n, v] => (v = .null ∨ v = .ref 400) ∧ (0 ≤ i ∧ i < n) ∧ Q (some (.int i)) h | _ => False
theorem rnJ3_checkIndex {h : Hp} {Q : Po} {i n : Int32} {v : Value} (hS : SJ3_checkIndex [.int i, .int n, v] h Q) : Rn (TJ3_checkIndex Q) (0, [some (.int i), some (.int n), some v], [], h) := by
  obtain ⟨-, ⟨h0, h1⟩, hQ⟩ := hS
  have c1 : ¬ i < 0 := Int32.not_lt.mpr h0
  refine Rn_in CJ3_checkIndex 60 ?_
  simp only [xJ3_checkIndex_0, xJ3_checkIndex_1, xJ3_checkIndex_4, xJ3_checkIndex_5, xJ3_checkIndex_6, xJ3_checkIndex_16, xJ3_checkIndex_17, i_ic_lt, i_if_lt, i_ild, i_iret, lck_0, lck_i, lck_r, lck_n, lck_l, csum_0, csum_i, csum_r, csum_l, pops_0, pops_s, psh_n, psh_s, List.getElem?_cons_zero, List.getElem?_cons_succ, List.set_cons_zero, List.set_cons_succ, true_and, and_true, Nat.reduceAdd, Nat.reduceLeDiff, c1, h1, nn, false_implies, true_implies, implies_true, and_true, true_and, not_true_eq_false, not_false_eq_true, eq_self]
  exact hQ
def SJ0_checkIndex : Sp := fun av h Q => match av with | [.int i, .int n] => (0 ≤ i ∧ i < n) ∧ Q none h | _ => False
theorem rnJ0_checkIndex {h : Hp} {Q : Po} {i : Int32} {n : Int32} (hS : SJ0_checkIndex [.int i, .int n] h Q) : Rn (TJ0_checkIndex Q SJ3_checkIndex) (0, [some (.int i), some (.int n)], [], h) := by
  obtain ⟨h1, hQ⟩ := hS
  refine Rn_in CJ0_checkIndex 60 ?_
  simp only [xJ0_checkIndex_0, xJ0_checkIndex_1, xJ0_checkIndex_2, xJ0_checkIndex_5, xJ0_checkIndex_8, xJ0_checkIndex_9, i_cS, i_gsf, i_ild, i_pop, i_vret, st_200, st_201, st_202, st_203, st_204, st_205, st_206, st_207, st_208, st_209, st_210, st_211, st_212, st_213, st_214, st_215, lck_0, lck_i, lck_r, lck_n, lck_l, csum_0, csum_i, csum_r, csum_l, pops_0, pops_s, psh_n, psh_s, List.getElem?_cons_zero, List.getElem?_cons_succ, List.set_cons_zero, List.set_cons_succ, true_and, and_true, Nat.reduceAdd, Nat.reduceLeDiff, SJ3_checkIndex]
  exact ⟨⟨Or.inl trivial, h1, hQ⟩, Or.inr trivial, h1, hQ⟩
theorem str_lt : ∀ j, j < 16 → (strs.getD j []).all (fun c => decide (c < 128)) = true := by decide
theorem st_lt {p : Nat} {t : List Nat} (h : stc p = some t) (k : Nat) : t.getD k 0 < 128 := by
  obtain ⟨j, h1, h2⟩ : ∃ j, j < 16 ∧ strs[j]? = some t := by
    unfold stc at h
    split at h
    · cases h
    · exact ⟨p - 200, (List.getElem?_eq_some_iff.mp h).1, h⟩
  have e := str_lt j h1
  rw [List.getD_eq_getElem?_getD, h2] at e
  simp only [Option.getD_some, List.all_eq_true, decide_eq_true_eq] at e
  rw [List.getD_eq_getElem?_getD]
  cases hk : t[k]? with
  | none => simp
  | some c => exact e c (List.mem_of_getElem? hk)
theorem sb_of {p : Nat} {t : List Nat} (h : stc p = some t) : sba (p + 100) = some t := by
  unfold stc at h
  unfold sba
  split at h
  · cases h
  · rename_i c
    rw [if_neg (by omega), show p + 100 - 300 = p - 200 by omega]
    exact h
theorem ch_ok : ∀ n, n < 128 → ((nI n &&& 255).toUInt32 % 65536).toInt32 = nI n := by decide
def SJ1_charAt : Sp := fun av h Q => match av with | [.ref p, .int i] => (match sba p with | some t => (0 ≤ i ∧ i < nI t.length) ∧ (t.length < 1000 ∧ t.getD (ix i) 0 < 128) ∧ Q (some (.int (nI (t.getD (ix i) 0)))) h | none => False) | _ => False
theorem rnJ1_charAt {h : Hp} {Q : Po} {p : Nat} {i : Int32} (hS : SJ1_charAt [.ref p, .int i] h Q) : Rn (TJ1_charAt Q SJ0_checkIndex) (0, [some (.ref p), some (.int i)], [], h) := by
  simp only [SJ1_charAt] at hS
  split at hS
  · rename_i t ht
    obtain ⟨h1, ⟨h2, h3⟩, hQ⟩ := hS
    have e := ch_ok _ h3
    have vi := vpi (n := t.length) (by omega) h1.1 h1.2
    refine Rn_in CJ1_charAt 60 ?_
    simp only [xJ1_charAt_0, xJ1_charAt_1, xJ1_charAt_2, xJ1_charAt_3, xJ1_charAt_6, xJ1_charAt_7, xJ1_charAt_8, xJ1_charAt_9, xJ1_charAt_12, xJ1_charAt_13, xJ1_charAt_14, i_ald, i_bald, i_balen, i_cS, i_cret, i_i2c, i_iand, i_ic, i_ild, sb_300, sb_301, sb_302, sb_303, sb_304, sb_305, sb_306, sb_307, sb_308, sb_309, sb_310, sb_311, sb_312, sb_313, sb_314, sb_315, lck_0, lck_i, lck_r, lck_n, lck_l, csum_0, csum_i, csum_r, csum_l, pops_0, pops_s, psh_n, psh_s, List.getElem?_cons_zero, List.getElem?_cons_succ, List.set_cons_zero, List.set_cons_succ, true_and, and_true, Nat.reduceAdd, Nat.reduceLeDiff, SJ0_checkIndex, ht, e, ix, h1, nn, false_implies, true_implies, implies_true, and_true, true_and, not_true_eq_false, not_false_eq_true, eq_self]
    exact ⟨vi, ⟨_, Nat.lt_trans h3 (by decide), rfl⟩, hQ⟩
  · exact hS.elim
def SJ0_isLatin1 : Sp := fun av h Q => match av with | [.ref p] => (match stc p with | some _ => Q (some (.int 1)) h | none => False) | _ => False
def SJ0_coder : Sp := fun av h Q => match av with | [.ref p] => (match stc p with | some _ => Q (some (.int 0)) h | none => False) | _ => False
def SJ0_length : Sp := fun av h Q => match av with | [.ref p] => (match stc p with | some t => Q (some (.int (nI t.length))) h | none => False) | _ => False
def SJ0_charAt : Sp := fun av h Q => match av with | [.ref p, .int i] => (match stc p with | some t => (0 ≤ i ∧ i < nI t.length) ∧ t.length < 1000 ∧ Q (some (.int (nI (t.getD (ix i) 0)))) h | none => False) | _ => False
theorem rnJ0_isLatin1 {h : Hp} {Q : Po} {p : Nat} (hS : SJ0_isLatin1 [.ref p] h Q) : Rn (TJ0_isLatin1 Q) (0, [some (.ref p)], [], h) := by
  simp only [SJ0_isLatin1] at hS
  split at hS
  · rename_i t ht
    refine Rn_in CJ0_isLatin1 60 ?_
    simp only [xJ0_isLatin1_0, xJ0_isLatin1_3, xJ0_isLatin1_6, xJ0_isLatin1_7, xJ0_isLatin1_10, xJ0_isLatin1_13, xJ0_isLatin1_14, xJ0_isLatin1_17, xJ0_isLatin1_18, i_ald, i_goto, i_ic, i_if_eq, i_if_ne, i_sgc, i_zret, st_200, st_201, st_202, st_203, st_204, st_205, st_206, st_207, st_208, st_209, st_210, st_211, st_212, st_213, st_214, st_215, lck_0, lck_i, lck_r, lck_n, lck_l, csum_0, csum_i, csum_r, csum_l, pops_0, pops_s, psh_n, psh_s, List.getElem?_cons_zero, List.getElem?_cons_succ, List.set_cons_zero, List.set_cons_succ, true_and, and_true, Nat.reduceAdd, Nat.reduceLeDiff, ht, ne_1_0, l01_1, or_true, nn, false_implies, true_implies, implies_true, and_true, true_and, not_true_eq_false, not_false_eq_true, eq_self]
    exact hS
  · exact hS.elim
theorem rnJ0_coder {h : Hp} {Q : Po} {p : Nat} (hS : SJ0_coder [.ref p] h Q) : Rn (TJ0_coder Q) (0, [some (.ref p)], [], h) := by
  simp only [SJ0_coder] at hS
  split at hS
  · rename_i t ht
    refine Rn_in CJ0_coder 60 ?_
    simp only [xJ0_coder_0, xJ0_coder_3, xJ0_coder_6, xJ0_coder_7, xJ0_coder_10, xJ0_coder_13, xJ0_coder_14, i_ald, i_bret, i_goto, i_ic, i_if_eq, i_sgc, st_200, st_201, st_202, st_203, st_204, st_205, st_206, st_207, st_208, st_209, st_210, st_211, st_212, st_213, st_214, st_215, lck_0, lck_i, lck_r, lck_n, lck_l, csum_0, csum_i, csum_r, csum_l, pops_0, pops_s, psh_n, psh_s, List.getElem?_cons_zero, List.getElem?_cons_succ, List.set_cons_zero, List.set_cons_succ, true_and, and_true, Nat.reduceAdd, Nat.reduceLeDiff, ht, ne_1_0, nn, false_implies, true_implies, implies_true, and_true, true_and, not_true_eq_false, not_false_eq_true, eq_self]
    exact hS
  · exact hS.elim
theorem shr0 (x : Int32) : x >>> ((0 : Int32) &&& 31) = x := by rw [show ((0 : Int32) &&& 31) = 0 from rfl, Int32.shiftRight_zero]
theorem ex_t {p : Nat} {t : List Nat} (h : stc p = some t) : (∃ u, stc p = some u) = True := by simp [h]
theorem rnJ0_length {h : Hp} {Q : Po} {p : Nat} (hS : SJ0_length [.ref p] h Q) : Rn (TJ0_length Q SJ0_coder) (0, [some (.ref p)], [], h) := by
  simp only [SJ0_length] at hS
  split at hS
  · rename_i t ht
    have hb := sb_of ht
    refine Rn_in CJ0_length 60 ?_
    simp only [xJ0_length_0, xJ0_length_1, xJ0_length_4, xJ0_length_5, xJ0_length_6, xJ0_length_9, xJ0_length_10, i_ald, i_balen, i_cE, i_iret, i_ishr, i_sgv, st_200, st_201, st_202, st_203, st_204, st_205, st_206, st_207, st_208, st_209, st_210, st_211, st_212, st_213, st_214, st_215, lck_0, lck_i, lck_r, lck_n, lck_l, csum_0, csum_i, csum_r, csum_l, pops_0, pops_s, psh_n, psh_s, List.getElem?_cons_zero, List.getElem?_cons_succ, List.set_cons_zero, List.set_cons_succ, true_and, and_true, Nat.reduceAdd, Nat.reduceLeDiff, SJ0_coder, ht, hb, shr0, nn, false_implies, true_implies, implies_true, and_true, true_and, not_true_eq_false, not_false_eq_true, eq_self]
    exact ⟨⟨t, rfl⟩, hS⟩
  · exact hS.elim
theorem rnJ0_charAt {h : Hp} {Q : Po} {p : Nat} {i : Int32} (hS : SJ0_charAt [.ref p, .int i] h Q) : Rn (TJ0_charAt Q SJ0_isLatin1 SJ1_charAt) (0, [some (.ref p), some (.int i)], [], h) := by
  simp only [SJ0_charAt] at hS
  split at hS
  · rename_i t ht
    obtain ⟨h1, h2, hQ⟩ := hS
    have hb := sb_of ht
    have l := st_lt ht (ix i)
    refine Rn_in CJ0_charAt 60 ?_
    simp only [xJ0_charAt_0, xJ0_charAt_1, xJ0_charAt_4, xJ0_charAt_7, xJ0_charAt_8, xJ0_charAt_11, xJ0_charAt_12, xJ0_charAt_15, i_ald, i_cE, i_cS, i_cret, i_if_eq, i_ild, i_sgv, st_200, st_201, st_202, st_203, st_204, st_205, st_206, st_207, st_208, st_209, st_210, st_211, st_212, st_213, st_214, st_215, lck_0, lck_i, lck_r, lck_n, lck_l, csum_0, csum_i, csum_r, csum_l, pops_0, pops_s, psh_n, psh_s, List.getElem?_cons_zero, List.getElem?_cons_succ, List.set_cons_zero, List.set_cons_succ, true_and, and_true, Nat.reduceAdd, Nat.reduceLeDiff, SJ0_isLatin1, SJ1_charAt, ht, hb, ne_1_0, nn, false_implies, true_implies, implies_true, and_true, true_and, not_true_eq_false, not_false_eq_true, eq_self]
    exact ⟨⟨t, rfl⟩, h1, ⟨h2, l⟩, ⟨_, Nat.lt_trans l (by decide), rfl⟩, hQ⟩
  · exact hS.elim
/-! names -/
def nmE (t : Nat → Int32) : Nat → List Nat → Bool
  | _, [] => true
  | s, c :: r => decide (t s = nI c) && nmE t (s + 1) r
def nmH (h : Hp) (w : List Nat) : Int32 := if h 22 2 = 1 ∧ h 22 4 - h 22 3 = nI w.length ∧ nmE (h 23) (ix (h 22 3)) w = true then 1 else 0
def TQ (h : Hp) : Prop := 0 ≤ h 22 3 ∧ h 22 3 ≤ h 22 4 ∧ h 22 4 ≤ 200
def S4_isName : Sp := fun av h Q => match av with | [.ref q, .ref p] => q = 22 ∧ TQ h ∧ (match stc p with | some w => w.length < 1000 ∧ Q (some (.int (nmH h w))) h | none => False) | _ => False
theorem nmE_d {t : Nat → Int32} {s : Nat} {w : List Nat} {j : Nat} (hj : j < w.length) : nmE t (s + j) (w.drop j) = (decide (t (s + j) = nI (w.getD j 0)) && nmE t (s + (j + 1)) (w.drop (j + 1))) := by
  rw [List.drop_eq_getElem_cons hj, nmE, List.getD_eq_getElem?_getD, List.getElem?_eq_getElem hj]
  rfl
theorem lp4_nm {h : Hp} {Q : Po} {p s e : Nat} {w : List Nat} (hp : stc p = some w) (hs : h 22 3 = nI s) (he : s + w.length = e) (h2 : e ≤ 200) : ∀ d j, d + j = w.length → Q (some (.int (if nmE (h 23) (s + j) (w.drop j) = true then 1 else 0))) h → Rn (T4_isName Q SJ0_length SJ0_charAt) (28, [some (.ref 22), some (.ref p), some (.int (nI j))], [], h)
  | 0, j, ej, hQ => by
    have ej : j = w.length := by omega
    subst ej
    rw [List.drop_length, nmE, if_pos rfl] at hQ
    have le : nI w.length ≤ nI w.length := Int32.le_refl _
    refine Rn_go C4_isName 60 ?_
    simp only [x4_isName_0, x4_isName_1, x4_isName_4, x4_isName_5, x4_isName_8, x4_isName_9, x4_isName_12, x4_isName_13, x4_isName_16, x4_isName_17, x4_isName_18, x4_isName_21, x4_isName_24, x4_isName_25, x4_isName_26, x4_isName_27, k4_isName_28, t4_isName_28, x4_isName_29, x4_isName_30, x4_isName_33, x4_isName_36, x4_isName_37, x4_isName_40, x4_isName_41, x4_isName_44, x4_isName_45, x4_isName_46, x4_isName_47, x4_isName_48, x4_isName_49, x4_isName_52, x4_isName_55, x4_isName_56, x4_isName_57, x4_isName_60, x4_isName_63, x4_isName_64, i_ald, i_cE, i_get, i_goto, i_iadd, i_iald, i_ic, i_ic_eq, i_ic_ge, i_ic_ne, i_ild, i_inc, i_ist, i_isub, i_zret, oc_22, fv_22_0, fv_22_1, ly_22_1, fv_22_2, ly_22_2, fv_22_3, ly_22_3, fv_22_4, ly_22_4, fv_22_5, ly_22_5, fv_22_6, ly_22_6, rd_23, al_23, lck_0, lck_i, lck_r, lck_n, lck_l, csum_0, csum_i, csum_r, csum_l, pops_0, pops_s, psh_n, psh_s, List.getElem?_cons_zero, List.getElem?_cons_succ, List.set_cons_zero, List.set_cons_succ, true_and, and_true, Nat.reduceAdd, Nat.reduceLeDiff, SJ0_length, hp, le, l01_1, or_true, nn, false_implies, true_implies, implies_true, and_true, true_and, not_true_eq_false, not_false_eq_true, eq_self]
    exact ⟨⟨w, rfl⟩, hQ⟩
  | d + 1, j, ej, hQ => by
    have lt : ¬ nI w.length ≤ nI j := nI_ge (by omega) (by omega)
    have lt2 : 0 ≤ nI j ∧ nI j < nI w.length := ⟨nI_pos' (by omega), nI_lt (by omega) (by omega)⟩
    have ea : nI s + nI j = nI (s + j) := nI_add s j
    have hx : (nI (s + j)).toNatClampNeg = s + j := ix_nI (by omega)
    have hxj : (nI j).toNatClampNeg = j := ix_nI (by omega)
    have i2 : 0 ≤ nI (s + j) ∧ nI (s + j) < 200 := ⟨nI_pos' (by omega), nI_lt (b := 200) (by omega) (by decide)⟩
    have l1 : w.length < 1000 := by omega
    have ex : ∃ u, w = u := ⟨w, rfl⟩
    rw [nmE_d (by omega)] at hQ
    by_cases c : h 23 (s + j) = nI (w.getD j 0)
    · rw [decide_eq_true c, Bool.true_and] at hQ
      have ih := lp4_nm hp hs he h2 d (j + 1) (by omega) hQ
      rw [← nI_1] at ih
      refine Rn_go C4_isName 60 ?_
      simp only [x4_isName_0, x4_isName_1, x4_isName_4, x4_isName_5, x4_isName_8, x4_isName_9, x4_isName_12, x4_isName_13, x4_isName_16, x4_isName_17, x4_isName_18, x4_isName_21, x4_isName_24, x4_isName_25, x4_isName_26, x4_isName_27, k4_isName_28, t4_isName_28, x4_isName_29, x4_isName_30, x4_isName_33, x4_isName_36, x4_isName_37, x4_isName_40, x4_isName_41, x4_isName_44, x4_isName_45, x4_isName_46, x4_isName_47, x4_isName_48, x4_isName_49, x4_isName_52, x4_isName_55, x4_isName_56, x4_isName_57, x4_isName_60, x4_isName_63, x4_isName_64, i_ald, i_cE, i_get, i_goto, i_iadd, i_iald, i_ic, i_ic_eq, i_ic_ge, i_ic_ne, i_ild, i_inc, i_ist, i_isub, i_zret, oc_22, fv_22_0, fv_22_1, ly_22_1, fv_22_2, ly_22_2, fv_22_3, ly_22_3, fv_22_4, ly_22_4, fv_22_5, ly_22_5, fv_22_6, ly_22_6, rd_23, al_23, st_200, st_201, st_202, st_203, st_204, st_205, st_206, st_207, st_208, st_209, st_210, st_211, st_212, st_213, st_214, st_215, lck_0, lck_i, lck_r, lck_n, lck_l, csum_0, csum_i, csum_r, csum_l, pops_0, pops_s, psh_n, psh_s, List.getElem?_cons_zero, List.getElem?_cons_succ, List.set_cons_zero, List.set_cons_succ, true_and, and_true, Nat.reduceAdd, Nat.reduceLeDiff, SJ0_length, SJ0_charAt, hp, lt, lt2, l1, hs, ea, v200, i2, hx, hxj, ix, c, ex, Option.some.injEq, nn, false_implies, true_implies, implies_true, and_true, true_and, not_true_eq_false, not_false_eq_true, eq_self]
      exact ih
    · rw [decide_eq_false c, Bool.false_and, if_neg (by decide)] at hQ
      refine Rn_go C4_isName 60 ?_
      simp only [x4_isName_0, x4_isName_1, x4_isName_4, x4_isName_5, x4_isName_8, x4_isName_9, x4_isName_12, x4_isName_13, x4_isName_16, x4_isName_17, x4_isName_18, x4_isName_21, x4_isName_24, x4_isName_25, x4_isName_26, x4_isName_27, k4_isName_28, t4_isName_28, x4_isName_29, x4_isName_30, x4_isName_33, x4_isName_36, x4_isName_37, x4_isName_40, x4_isName_41, x4_isName_44, x4_isName_45, x4_isName_46, x4_isName_47, x4_isName_48, x4_isName_49, x4_isName_52, x4_isName_55, x4_isName_56, x4_isName_57, x4_isName_60, x4_isName_63, x4_isName_64, i_ald, i_cE, i_get, i_goto, i_iadd, i_iald, i_ic, i_ic_eq, i_ic_ge, i_ic_ne, i_ild, i_inc, i_ist, i_isub, i_zret, oc_22, fv_22_0, fv_22_1, ly_22_1, fv_22_2, ly_22_2, fv_22_3, ly_22_3, fv_22_4, ly_22_4, fv_22_5, ly_22_5, fv_22_6, ly_22_6, rd_23, al_23, st_200, st_201, st_202, st_203, st_204, st_205, st_206, st_207, st_208, st_209, st_210, st_211, st_212, st_213, st_214, st_215, lck_0, lck_i, lck_r, lck_n, lck_l, csum_0, csum_i, csum_r, csum_l, pops_0, pops_s, psh_n, psh_s, List.getElem?_cons_zero, List.getElem?_cons_succ, List.set_cons_zero, List.set_cons_succ, true_and, and_true, Nat.reduceAdd, Nat.reduceLeDiff, SJ0_length, SJ0_charAt, hp, lt, lt2, l1, hs, ea, v200, i2, hx, hxj, ix, c, ex, Option.some.injEq, l01_0, true_or, nn, false_implies, true_implies, implies_true, and_true, true_and, not_true_eq_false, not_false_eq_true, eq_self]
      exact hQ
theorem nI_s {a b : Nat} (h : b ≤ a) : nI a - nI b = nI (a - b) := by
  have e : nI (a - b) + nI b = nI a := by rw [nI_add, Nat.sub_add_cancel h]
  rw [← e, Int32.add_sub_cancel]
theorem rn4_isName {h : Hp} {Q : Po} {q : Nat} {p : Nat} (hS : S4_isName [.ref q, .ref p] h Q) : Rn (T4_isName Q SJ0_length SJ0_charAt) (0, [some (.ref q), some (.ref p), none], [], h) := by
  obtain ⟨rfl, ⟨a1, a2, a3⟩, hQ⟩ := hS
  split at hQ
  · rename_i w hw
    obtain ⟨l1, hQ⟩ := hQ
    obtain ⟨s, s1, s2⟩ := nI_of (x := h 22 3) (Int32.not_lt.mpr a1)
    obtain ⟨e, e1, e2⟩ := nI_of (x := h 22 4) (Int32.not_lt.mpr (Int32.le_trans a1 a2))
    rw [s2, e2] at a2
    rw [e2] at a3
    have se : s ≤ e := (nI_leI s1 e1).mp a2
    have e200 : e ≤ 200 := (nI_leI (b := 200) e1 (by decide)).mp a3
    have sub := nI_s se
    have ex : ∃ u, w = u := ⟨w, rfl⟩
    unfold nmH at hQ
    by_cases c1 : h 22 2 = 1
    · by_cases c2 : e - s = w.length
      · have c3 : nI (e - s) = nI w.length := by rw [c2]
        rw [s2, e2, sub, show ix (nI s) = s from ix_nI s1] at hQ
        have nx := lp4_nm hw s2 (show s + w.length = e by omega) e200 w.length 0 (by omega) (Q := Q) (by
          by_cases c4 : nmE (h 23) s w = true
          · rw [if_pos ⟨c1, c3, c4⟩] at hQ
            rw [Nat.add_zero, List.drop_zero, if_pos c4]; exact hQ
          · rw [if_neg (fun q => c4 q.2.2)] at hQ
            rw [Nat.add_zero, List.drop_zero, if_neg c4]; exact hQ)
        refine Rn_in C4_isName 60 ?_
        simp only [x4_isName_0, x4_isName_1, x4_isName_4, x4_isName_5, x4_isName_8, x4_isName_9, x4_isName_12, x4_isName_13, x4_isName_16, x4_isName_17, x4_isName_18, x4_isName_21, x4_isName_24, x4_isName_25, x4_isName_26, x4_isName_27, k4_isName_28, t4_isName_28, x4_isName_29, x4_isName_30, x4_isName_33, x4_isName_36, x4_isName_37, x4_isName_40, x4_isName_41, x4_isName_44, x4_isName_45, x4_isName_46, x4_isName_47, x4_isName_48, x4_isName_49, x4_isName_52, x4_isName_55, x4_isName_56, x4_isName_57, x4_isName_60, x4_isName_63, x4_isName_64, i_ald, i_cE, i_get, i_goto, i_iadd, i_iald, i_ic, i_ic_eq, i_ic_ge, i_ic_ne, i_ild, i_inc, i_ist, i_isub, i_zret, oc_22, fv_22_0, fv_22_1, ly_22_1, fv_22_2, ly_22_2, fv_22_3, ly_22_3, fv_22_4, ly_22_4, fv_22_5, ly_22_5, fv_22_6, ly_22_6, rd_23, al_23, lck_0, lck_i, lck_r, lck_n, lck_l, csum_0, csum_i, csum_r, csum_l, pops_0, pops_s, psh_n, psh_s, List.getElem?_cons_zero, List.getElem?_cons_succ, List.set_cons_zero, List.set_cons_succ, true_and, and_true, Nat.reduceAdd, Nat.reduceLeDiff, SJ0_length, hw, c1, s2, e2, sub, c3, ex, Option.some.injEq, nn, false_implies, true_implies, implies_true, and_true, true_and, not_true_eq_false, not_false_eq_true, eq_self]
        exact nx
      · have c3 : ¬ nI (e - s) = nI w.length := fun q => c2 ((nI_eq (by omega) (by omega)).mp q)
        rw [s2, e2, sub, if_neg (fun q => c3 q.2.1)] at hQ
        refine Rn_in C4_isName 60 ?_
        simp only [x4_isName_0, x4_isName_1, x4_isName_4, x4_isName_5, x4_isName_8, x4_isName_9, x4_isName_12, x4_isName_13, x4_isName_16, x4_isName_17, x4_isName_18, x4_isName_21, x4_isName_24, x4_isName_25, x4_isName_26, x4_isName_27, k4_isName_28, t4_isName_28, x4_isName_29, x4_isName_30, x4_isName_33, x4_isName_36, x4_isName_37, x4_isName_40, x4_isName_41, x4_isName_44, x4_isName_45, x4_isName_46, x4_isName_47, x4_isName_48, x4_isName_49, x4_isName_52, x4_isName_55, x4_isName_56, x4_isName_57, x4_isName_60, x4_isName_63, x4_isName_64, i_ald, i_cE, i_get, i_goto, i_iadd, i_iald, i_ic, i_ic_eq, i_ic_ge, i_ic_ne, i_ild, i_inc, i_ist, i_isub, i_zret, oc_22, fv_22_0, fv_22_1, ly_22_1, fv_22_2, ly_22_2, fv_22_3, ly_22_3, fv_22_4, ly_22_4, fv_22_5, ly_22_5, fv_22_6, ly_22_6, rd_23, al_23, lck_0, lck_i, lck_r, lck_n, lck_l, csum_0, csum_i, csum_r, csum_l, pops_0, pops_s, psh_n, psh_s, List.getElem?_cons_zero, List.getElem?_cons_succ, List.set_cons_zero, List.set_cons_succ, true_and, and_true, Nat.reduceAdd, Nat.reduceLeDiff, SJ0_length, hw, c1, s2, e2, sub, c3, ex, Option.some.injEq, l01_0, true_or, nn, false_implies, true_implies, implies_true, and_true, true_and, not_true_eq_false, not_false_eq_true, eq_self]
        exact hQ
    · rw [if_neg (fun q => c1 q.1)] at hQ
      refine Rn_in C4_isName 60 ?_
      simp only [x4_isName_0, x4_isName_1, x4_isName_4, x4_isName_5, x4_isName_8, x4_isName_9, x4_isName_12, x4_isName_13, x4_isName_16, x4_isName_17, x4_isName_18, x4_isName_21, x4_isName_24, x4_isName_25, x4_isName_26, x4_isName_27, k4_isName_28, t4_isName_28, x4_isName_29, x4_isName_30, x4_isName_33, x4_isName_36, x4_isName_37, x4_isName_40, x4_isName_41, x4_isName_44, x4_isName_45, x4_isName_46, x4_isName_47, x4_isName_48, x4_isName_49, x4_isName_52, x4_isName_55, x4_isName_56, x4_isName_57, x4_isName_60, x4_isName_63, x4_isName_64, i_ald, i_cE, i_get, i_goto, i_iadd, i_iald, i_ic, i_ic_eq, i_ic_ge, i_ic_ne, i_ild, i_inc, i_ist, i_isub, i_zret, oc_22, fv_22_0, fv_22_1, ly_22_1, fv_22_2, ly_22_2, fv_22_3, ly_22_3, fv_22_4, ly_22_4, fv_22_5, ly_22_5, fv_22_6, ly_22_6, rd_23, al_23, lck_0, lck_i, lck_r, lck_n, lck_l, csum_0, csum_i, csum_r, csum_l, pops_0, pops_s, psh_n, psh_s, List.getElem?_cons_zero, List.getElem?_cons_succ, List.set_cons_zero, List.set_cons_succ, true_and, and_true, Nat.reduceAdd, Nat.reduceLeDiff, SJ0_length, hw, c1, ex, Option.some.injEq, l01_0, true_or, nn, false_implies, true_implies, implies_true, and_true, true_and, not_true_eq_false, not_false_eq_true, eq_self]
      exact hQ
  · exact hQ.elim
def flH (h : Hp) : Hp := if h 22 6 = -1 then up2 h 22 6 (h 22 3) else h
def S4_fail : Sp := fun av h Q => match av with | [.ref q] => q = 22 ∧ Q none (flH h) | _ => False
theorem rn4_fail {h : Hp} {Q : Po} {q : Nat} (hS : S4_fail [.ref q] h Q) : Rn (T4_fail Q) (0, [some (.ref q)], [], h) := by
  obtain ⟨rfl, hQ⟩ := hS
  unfold flH at hQ
  refine Rn_in C4_fail 60 ?_
  by_cases c : h 22 6 = -1
  · rw [if_pos c] at hQ
    simp only [x4_fail_0, x4_fail_1, x4_fail_4, x4_fail_5, x4_fail_8, x4_fail_9, x4_fail_10, x4_fail_13, x4_fail_16, i_ald, i_get, i_ic, i_ic_ne, i_put, i_vret, oc_22, fv_22_0, fv_22_1, ly_22_1, fv_22_2, ly_22_2, fv_22_3, ly_22_3, fv_22_4, ly_22_4, fv_22_5, ly_22_5, fv_22_6, ly_22_6, rd_23, al_23, lck_0, lck_i, lck_r, lck_n, lck_l, csum_0, csum_i, csum_r, csum_l, pops_0, pops_s, psh_n, psh_s, List.getElem?_cons_zero, List.getElem?_cons_succ, List.set_cons_zero, List.set_cons_succ, true_and, and_true, Nat.reduceAdd, Nat.reduceLeDiff, c, nn, false_implies, true_implies, implies_true, and_true, true_and, not_true_eq_false, not_false_eq_true, eq_self]
    exact hQ
  · rw [if_neg c] at hQ
    simp only [x4_fail_0, x4_fail_1, x4_fail_4, x4_fail_5, x4_fail_8, x4_fail_9, x4_fail_10, x4_fail_13, x4_fail_16, i_ald, i_get, i_ic, i_ic_ne, i_put, i_vret, oc_22, fv_22_0, fv_22_1, ly_22_1, fv_22_2, ly_22_2, fv_22_3, ly_22_3, fv_22_4, ly_22_4, fv_22_5, ly_22_5, fv_22_6, ly_22_6, rd_23, al_23, lck_0, lck_i, lck_r, lck_n, lck_l, csum_0, csum_i, csum_r, csum_l, pops_0, pops_s, psh_n, psh_s, List.getElem?_cons_zero, List.getElem?_cons_succ, List.set_cons_zero, List.set_cons_succ, true_and, and_true, Nat.reduceAdd, Nat.reduceLeDiff, c, nn, false_implies, true_implies, implies_true, and_true, true_and, not_true_eq_false, not_false_eq_true, eq_self]
    exact hQ
def S4_takeName : Sp := fun av h Q => match av with | [.ref q, .ref p] => q = 22 ∧ TP h ∧ TQ h ∧ (match stc p with | some w => w.length < 1000 ∧ (nmH h w = 0 → Q none (flH h)) ∧ (¬ nmH h w = 0 → Q none (stp h)) | none => False) | _ => False
theorem rn4_takeName {h : Hp} {Q : Po} {q : Nat} {p : Nat} (hS : S4_takeName [.ref q, .ref p] h Q) : Rn (T4_takeName Q S4_isName S4_step S4_fail) (0, [some (.ref q), some (.ref p)], [], h) := by
  obtain ⟨rfl, tp, tq, hQ⟩ := hS
  split at hQ
  · rename_i w hw
    obtain ⟨l1, q1, q2⟩ := hQ
    refine Rn_in C4_takeName 60 ?_
    simp only [x4_takeName_0, x4_takeName_1, x4_takeName_2, x4_takeName_5, x4_takeName_8, x4_takeName_9, x4_takeName_12, x4_takeName_15, x4_takeName_16, x4_takeName_19, i_ald, i_cV, i_goto, i_if_eq, i_vret, oc_22, fv_22_0, fv_22_1, ly_22_1, fv_22_2, ly_22_2, fv_22_3, ly_22_3, fv_22_4, ly_22_4, fv_22_5, ly_22_5, fv_22_6, ly_22_6, rd_23, al_23, lck_0, lck_i, lck_r, lck_n, lck_l, csum_0, csum_i, csum_r, csum_l, pops_0, pops_s, psh_n, psh_s, List.getElem?_cons_zero, List.getElem?_cons_succ, List.set_cons_zero, List.set_cons_succ, true_and, and_true, Nat.reduceAdd, Nat.reduceLeDiff, S4_isName, S4_step, S4_fail, hw, tp, tq, l1, nn, false_implies, true_implies, implies_true, and_true, true_and, not_true_eq_false, not_false_eq_true, eq_self]
    exact ⟨q1, q2⟩
  · exact hQ.elim
def nuH (h : Hp) (top : Int32) : Int32 := if h 22 2 = 2 ∧ ¬ 3 < h 22 4 - h 22 3 ∧ h 22 5 ≤ top then 1 else 0
def S4_takeNumber : Sp := fun av h Q => match av with | [.ref q, .int top] => q = 22 ∧ TP h ∧ (nuH h top = 0 → Q (some (.int 0)) (flH h)) ∧ (¬ nuH h top = 0 → Q (some (.int (h 22 5))) (stp h)) | _ => False
theorem rn4_takeNumber {h : Hp} {Q : Po} {q : Nat} {top : Int32} (hS : S4_takeNumber [.ref q, .int top] h Q) : Rn (T4_takeNumber Q S4_fail S4_step) (0, [some (.ref q), some (.int top), none], [], h) := by
  obtain ⟨rfl, tp, q1, q2⟩ := hS
  unfold nuH at q1 q2
  refine Rn_in C4_takeNumber 60 ?_
  simp only [x4_takeNumber_0, x4_takeNumber_1, x4_takeNumber_4, x4_takeNumber_5, x4_takeNumber_8, x4_takeNumber_9, x4_takeNumber_12, x4_takeNumber_13, x4_takeNumber_16, x4_takeNumber_17, x4_takeNumber_18, x4_takeNumber_21, x4_takeNumber_22, x4_takeNumber_25, x4_takeNumber_26, x4_takeNumber_29, x4_takeNumber_30, x4_takeNumber_33, x4_takeNumber_34, x4_takeNumber_35, x4_takeNumber_36, x4_takeNumber_39, x4_takeNumber_40, x4_takeNumber_41, x4_takeNumber_44, x4_takeNumber_45, i_ald, i_cV, i_get, i_ic, i_ic_gt, i_ic_le, i_ic_ne, i_ild, i_iret, i_ist, i_isub, oc_22, fv_22_0, fv_22_1, ly_22_1, fv_22_2, ly_22_2, fv_22_3, ly_22_3, fv_22_4, ly_22_4, fv_22_5, ly_22_5, fv_22_6, ly_22_6, rd_23, al_23, lck_0, lck_i, lck_r, lck_n, lck_l, csum_0, csum_i, csum_r, csum_l, pops_0, pops_s, psh_n, psh_s, List.getElem?_cons_zero, List.getElem?_cons_succ, List.set_cons_zero, List.set_cons_succ, true_and, and_true, Nat.reduceAdd, Nat.reduceLeDiff, S4_step, S4_fail, tp, nn, false_implies, true_implies, implies_true, and_true, true_and, not_true_eq_false, not_false_eq_true, eq_self]
  grind
def seH (h : Hp) : Int32 := if h 22 2 = 3 ∧ h 23 (ix (h 22 3)) = 59 then 1 else 0
def TE (h : Hp) : Prop := h 22 2 = 3 → 0 ≤ h 22 3 ∧ h 22 3 < 200
def S4_takeEnd : Sp := fun av h Q => match av with | [.ref q] => q = 22 ∧ TP h ∧ TE h ∧ (seH h = 0 → Q none (flH h)) ∧ (¬ seH h = 0 → Q none (stp h)) | _ => False
theorem rn4_takeEnd {h : Hp} {Q : Po} {q : Nat} (hS : S4_takeEnd [.ref q] h Q) : Rn (T4_takeEnd Q S4_step S4_fail) (0, [some (.ref q)], [], h) := by
  obtain ⟨rfl, tp, b1, q1, q2⟩ := hS
  unfold seH at q1 q2
  unfold TE at b1
  simp only [ix] at q1 q2
  refine Rn_in C4_takeEnd 60 ?_
  simp only [x4_takeEnd_0, x4_takeEnd_1, x4_takeEnd_4, x4_takeEnd_5, x4_takeEnd_8, x4_takeEnd_9, x4_takeEnd_12, x4_takeEnd_13, x4_takeEnd_16, x4_takeEnd_17, x4_takeEnd_19, x4_takeEnd_22, x4_takeEnd_23, x4_takeEnd_26, x4_takeEnd_29, x4_takeEnd_30, x4_takeEnd_33, i_ald, i_cV, i_get, i_goto, i_iald, i_ic, i_ic_ne, i_vret, oc_22, fv_22_0, fv_22_1, ly_22_1, fv_22_2, ly_22_2, fv_22_3, ly_22_3, fv_22_4, ly_22_4, fv_22_5, ly_22_5, fv_22_6, ly_22_6, rd_23, al_23, lck_0, lck_i, lck_r, lck_n, lck_l, csum_0, csum_i, csum_r, csum_l, pops_0, pops_s, psh_n, psh_s, List.getElem?_cons_zero, List.getElem?_cons_succ, List.set_cons_zero, List.set_cons_succ, true_and, and_true, Nat.reduceAdd, Nat.reduceLeDiff, S4_step, S4_fail, tp, v200, nn, false_implies, true_implies, implies_true, and_true, true_and, not_true_eq_false, not_false_eq_true, eq_self]
  grind
