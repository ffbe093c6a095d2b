/-! pairs: hope, odds -/
def eu : Nat → Int64 → Int64 → Int64
  | 0, a, _ => a
  | d + 1, a, b => if b = 0 then a else eu d b (a - a / b * b)
def euZ : Nat → Int64 → Int64 → Prop
  | 0, _, b => b = 0
  | d + 1, a, b => b = 0 ∨ euZ d b (a - a / b * b)
theorem eu_ne : ∀ d a b, ¬ a = 0 → ¬ eu d a b = 0
  | 0, _, _, h => h
  | d + 1, a, b, h => by
    unfold eu
    split
    · exact h
    · rename_i c
      exact eu_ne d b _ c
theorem i64_0 {a : Int64} (h : a.toInt = 0) : a = 0 := Int64.toInt_inj.mp (by rw [h]; rfl)
theorem rem64 {a b : Int64} (ha : 0 ≤ a.toInt) (hb : 0 < b.toInt) : (a - a / b * b).toInt = a.toInt % b.toInt := by
  have a2 : a.toInt < 2 ^ 63 := Int64.toInt_lt a
  have b2 : b.toInt < 2 ^ 63 := Int64.toInt_lt b
  have hne : a ≠ Int64.minValue := by
    intro e
    rw [e] at ha
    exact absurd ha (by decide)
  have q : (a / b).toInt = a.toInt / b.toInt := by
    rw [Int64.toInt_div_of_ne_left a b hne, Int.tdiv_eq_ediv_of_nonneg ha]
  have q0 : 0 ≤ a.toInt / b.toInt := Int.ediv_nonneg ha (by omega)
  have m0 : a.toInt / b.toInt * b.toInt = a.toInt - a.toInt % b.toInt := by
    have := Int.mul_ediv_add_emod a.toInt b.toInt
    rw [Int.mul_comm] at this
    omega
  have r0 : 0 ≤ a.toInt % b.toInt := Int.emod_nonneg _ (by omega)
  have r1 : a.toInt % b.toInt < b.toInt := Int.emod_lt_of_pos _ hb
  have r2 : 0 ≤ a.toInt / b.toInt * b.toInt := Int.mul_nonneg q0 (by omega)
  rw [Int64.toInt_sub, Int64.toInt_mul, q]
  rw [Int.bmod_eq_of_le (n := a.toInt / b.toInt * b.toInt) (by omega) (by omega), m0, show a.toInt - (a.toInt - a.toInt % b.toInt) = a.toInt % b.toInt by omega]
  exact Int.bmod_eq_of_le (by omega) (by omega)
theorem emod2 {b r : Int} (h0 : 0 < r) (h1 : r < b) : 2 * (b % r) < b := by
  have m := Int.mul_ediv_add_emod b r
  have q : 1 ≤ b / r := by
    have := Int.le_ediv_of_mul_le h0 (show 1 * r ≤ b by omega)
    exact this
  have r1 : b % r < r := Int.emod_lt_of_pos _ h0
  have q2 : r ≤ r * (b / r) := by
    have := Int.mul_le_mul_of_nonneg_left q (show 0 ≤ r by omega)
    omega
  omega
theorem euZ_2 : ∀ (d : Nat) (a b : Int64), 0 ≤ a.toInt → 0 ≤ b.toInt → b.toInt < 2 ^ d → euZ (2 * d + 1) a b
  | 0, a, b, _, hb, h => Or.inl (i64_0 (by simp at h; omega))
  | d + 1, a, b, ha, hb, h => by
    by_cases c : b.toInt = 0
    · exact Or.inl (i64_0 c)
    · right
      have e := rem64 ha (show 0 < b.toInt by omega)
      have r0 : 0 ≤ a.toInt % b.toInt := Int.emod_nonneg _ c
      have r1 : a.toInt % b.toInt < b.toInt := Int.emod_lt_of_pos _ (by omega)
      show euZ (2 * d + 1 + 1) b (a - a / b * b)
      by_cases c2 : (a - a / b * b).toInt = 0
      · exact Or.inl (i64_0 c2)
      · right
        have e2 := rem64 hb (show 0 < (a - a / b * b).toInt by omega)
        have h2 := emod2 (b := b.toInt) (r := (a - a / b * b).toInt) (by omega) (by omega)
        have r2 : 0 ≤ b.toInt % (a - a / b * b).toInt := Int.emod_nonneg _ c2
        refine euZ_2 d _ _ (by omega) (by rw [e2]; exact r2) ?_
        rw [e2]
        rw [Int.pow_succ] at h
        omega
theorem euZ_all {a b : Int64} (ha : 0 ≤ a.toInt) (hb : 0 ≤ b.toInt) : euZ 127 a b := euZ_2 63 a b ha hb (Int64.toInt_lt b)
theorem lgc0 (a b : Int64) : (lg_cmp a b = 0) = (a = b) := by
  unfold lg_cmp
  split
  · rename_i c
    have : ¬ a = b := fun e => by rw [e] at c; exact absurd c (Int64.lt_irrefl)
    simp [this]
  · split
    · rename_i c; simp [c]
    · rename_i c; simp [c]
def pOf (A B : Int64) (pt : Int32) : Int64 := if pt = 0 then A / eu 127 B A else B / eu 127 B A
def S5_partOf : Sp := fun av h Q => match av with | [.long A, .long B, .int pt] => ¬ B = 0 ∧ euZ 127 B A ∧ Q (some (.long (pOf A B pt))) h | _ => False
def S6_partOf : Sp := fun av h Q => match av with | [.long A, .long B, .int pt] => ¬ B = 0 ∧ euZ 127 B A ∧ Q (some (.long (pOf A B pt))) h | _ => False
theorem lp5_partOf {h : Hp} {Q : Po} {A B : Int64} {pt : Int32} : ∀ d j, d + j ≤ 200 → ∀ a b, ¬ a = 0 → euZ d a b → Q (some (.long (if pt = 0 then A / eu d a b else B / eu d a b))) h → ∀ y, Rn (T5_partOf Q) (9, [some (.long A), none, some (.long B), none, some (.int pt), some (.long a), none, some (.long b), none, some (.int (nI j)), y, none], [], h)
  | 0, j, e, a, b, ha, hz, hQ, y => by
    have hz : b = 0 := hz
    subst hz
    unfold eu at hQ
    refine Rn_go C5_partOf 60 ?_
    simp only [x5_partOf_0, x5_partOf_1, x5_partOf_3, x5_partOf_4, x5_partOf_6, x5_partOf_7, k5_partOf_9, t5_partOf_9, x5_partOf_11, x5_partOf_14, x5_partOf_17, x5_partOf_19, x5_partOf_20, x5_partOf_21, x5_partOf_24, x5_partOf_26, x5_partOf_28, x5_partOf_29, x5_partOf_31, x5_partOf_33, x5_partOf_35, x5_partOf_37, x5_partOf_39, x5_partOf_42, x5_partOf_45, x5_partOf_47, x5_partOf_48, x5_partOf_49, x5_partOf_52, x5_partOf_53, x5_partOf_54, x5_partOf_56, x5_partOf_59, x5_partOf_60, x5_partOf_62, x5_partOf_63, x5_partOf_66, x5_partOf_67, x5_partOf_69, x5_partOf_70, i_goto, i_ic, i_ic_ge, i_if_eq, i_if_ne, i_ild, i_inc, i_ist, i_lc, i_lcmp, i_ldiv, i_lld, i_lrem, i_lret, i_lst, oc_0, fv_0_0, fv_0_1, fv_0_2, fv_0_3, ly_0_3, fv_0_4, fv_0_5, fv_0_6, ly_0_6, fv_0_7, fv_0_8, fv_0_9, oc_1, fv_1_0, fv_1_1, fv_1_2, fv_1_3, fv_1_4, fv_1_5, fv_1_6, ly_1_6, fv_1_7, ly_1_7, fv_1_8, ly_1_8, rd_2, al_2, rd_3, al_3, rd_4, al_4, rd_5, al_5, rd_6, al_6, rd_7, al_7, oc_8, fv_8_0, fv_8_1, fv_8_2, fv_8_3, fv_8_4, fv_8_5, fv_8_6, ly_8_6, fv_8_7, ly_8_7, fv_8_8, ly_8_8, rd_9, al_9, rd_10, al_10, rd_11, al_11, rd_12, al_12, rd_13, al_13, rd_14, al_14, oc_15, fv_15_0, fv_15_1, fv_15_2, fv_15_3, fv_15_4, fv_15_5, fv_15_6, ly_15_6, fv_15_7, ly_15_7, fv_15_8, ly_15_8, rd_16, al_16, rd_17, al_17, rd_18, al_18, rd_19, al_19, rd_20, al_20, rd_21, al_21, oc_22, fv_22_0, fv_22_1, ly_22_1, fv_22_2, ly_22_2, fv_22_3, ly_22_3, fv_22_4, ly_22_4, fv_22_5, ly_22_5, fv_22_6, ly_22_6, rd_23, al_23, rd_24, al_24, ra_25, oc_26, fv_26_0, fv_26_1, ly_26_1, fv_26_2, ly_26_2, oc_27, fv_27_0, fv_27_1, ly_27_1, fv_27_2, ly_27_2, oc_28, fv_28_0, fv_28_1, ly_28_1, fv_28_2, ly_28_2, oc_29, fv_29_0, fv_29_1, ly_29_1, fv_29_2, ly_29_2, rd_30, al_30, rd_31, al_31, rd_32, al_32, rd_33, al_33, ra_34, oc_35, fv_35_0, ly_35_0, fv_35_1, ly_35_1, fv_35_2, ly_35_2, fv_35_3, ly_35_3, oc_36, fv_36_0, ly_36_0, fv_36_1, ly_36_1, fv_36_2, ly_36_2, fv_36_3, ly_36_3, oc_37, fv_37_0, ly_37_0, fv_37_1, ly_37_1, fv_37_2, ly_37_2, fv_37_3, ly_37_3, oc_38, fv_38_0, ly_38_0, fv_38_1, ly_38_1, fv_38_2, ly_38_2, fv_38_3, ly_38_3, oc_39, fv_39_0, fv_39_1, ly_39_1, fv_39_2, ly_39_2, fv_39_3, ly_39_3, fv_39_4, ly_39_4, fv_39_5, ly_39_5, rd_40, al_40, rd_90, rd_91, rd_92, rd_93, lck_0, lck_i, lck_r, lck_n, lck_l, csum_0, csum_i, csum_r, csum_l, pops_0, pops_s, psh_n, psh_s, List.getElem?_cons_zero, List.getElem?_cons_succ, List.set_cons_zero, List.set_cons_succ, true_and, and_true, Nat.reduceAdd, Nat.reduceLeDiff, lgc0, List.length_cons, List.length_nil, Nat.reduceLT]
    have k : (pt = 0 → Q (some (.long (A / a))) h) ∧ (¬ pt = 0 → Q (some (.long (B / a))) h) := ⟨fun c => by rw [if_pos c] at hQ; exact hQ, fun c => by rw [if_neg c] at hQ; exact hQ⟩
    refine ⟨fun _ => ⟨fun _ => ⟨fun c => ⟨ha, k.2 c⟩, fun c => ⟨ha, k.1 c⟩⟩, fun c => absurd c ha⟩, fun _ => ⟨fun _ => ⟨fun _ => ⟨fun c => ⟨ha, k.2 c⟩, fun c => ⟨ha, k.1 c⟩⟩, fun c => absurd c ha⟩, fun c => absurd trivial c⟩⟩
  | d + 1, j, e, a, b, ha, hz, hQ, y => by
    have hlt : ¬ 200 ≤ nI j := Int32.not_le.mpr (nI_lt (b := 200) (by omega) (by decide))
    by_cases cb : b = 0
    · subst cb
      rw [eu, if_pos rfl] at hQ
      refine Rn_go C5_partOf 60 ?_
      simp only [x5_partOf_0, x5_partOf_1, x5_partOf_3, x5_partOf_4, x5_partOf_6, x5_partOf_7, k5_partOf_9, t5_partOf_9, x5_partOf_11, x5_partOf_14, x5_partOf_17, x5_partOf_19, x5_partOf_20, x5_partOf_21, x5_partOf_24, x5_partOf_26, x5_partOf_28, x5_partOf_29, x5_partOf_31, x5_partOf_33, x5_partOf_35, x5_partOf_37, x5_partOf_39, x5_partOf_42, x5_partOf_45, x5_partOf_47, x5_partOf_48, x5_partOf_49, x5_partOf_52, x5_partOf_53, x5_partOf_54, x5_partOf_56, x5_partOf_59, x5_partOf_60, x5_partOf_62, x5_partOf_63, x5_partOf_66, x5_partOf_67, x5_partOf_69, x5_partOf_70, i_goto, i_ic, i_ic_ge, i_if_eq, i_if_ne, i_ild, i_inc, i_ist, i_lc, i_lcmp, i_ldiv, i_lld, i_lrem, i_lret, i_lst, oc_0, fv_0_0, fv_0_1, fv_0_2, fv_0_3, ly_0_3, fv_0_4, fv_0_5, fv_0_6, ly_0_6, fv_0_7, fv_0_8, fv_0_9, oc_1, fv_1_0, fv_1_1, fv_1_2, fv_1_3, fv_1_4, fv_1_5, fv_1_6, ly_1_6, fv_1_7, ly_1_7, fv_1_8, ly_1_8, rd_2, al_2, rd_3, al_3, rd_4, al_4, rd_5, al_5, rd_6, al_6, rd_7, al_7, oc_8, fv_8_0, fv_8_1, fv_8_2, fv_8_3, fv_8_4, fv_8_5, fv_8_6, ly_8_6, fv_8_7, ly_8_7, fv_8_8, ly_8_8, rd_9, al_9, rd_10, al_10, rd_11, al_11, rd_12, al_12, rd_13, al_13, rd_14, al_14, oc_15, fv_15_0, fv_15_1, fv_15_2, fv_15_3, fv_15_4, fv_15_5, fv_15_6, ly_15_6, fv_15_7, ly_15_7, fv_15_8, ly_15_8, rd_16, al_16, rd_17, al_17, rd_18, al_18, rd_19, al_19, rd_20, al_20, rd_21, al_21, oc_22, fv_22_0, fv_22_1, ly_22_1, fv_22_2, ly_22_2, fv_22_3, ly_22_3, fv_22_4, ly_22_4, fv_22_5, ly_22_5, fv_22_6, ly_22_6, rd_23, al_23, rd_24, al_24, ra_25, oc_26, fv_26_0, fv_26_1, ly_26_1, fv_26_2, ly_26_2, oc_27, fv_27_0, fv_27_1, ly_27_1, fv_27_2, ly_27_2, oc_28, fv_28_0, fv_28_1, ly_28_1, fv_28_2, ly_28_2, oc_29, fv_29_0, fv_29_1, ly_29_1, fv_29_2, ly_29_2, rd_30, al_30, rd_31, al_31, rd_32, al_32, rd_33, al_33, ra_34, oc_35, fv_35_0, ly_35_0, fv_35_1, ly_35_1, fv_35_2, ly_35_2, fv_35_3, ly_35_3, oc_36, fv_36_0, ly_36_0, fv_36_1, ly_36_1, fv_36_2, ly_36_2, fv_36_3, ly_36_3, oc_37, fv_37_0, ly_37_0, fv_37_1, ly_37_1, fv_37_2, ly_37_2, fv_37_3, ly_37_3, oc_38, fv_38_0, ly_38_0, fv_38_1, ly_38_1, fv_38_2, ly_38_2, fv_38_3, ly_38_3, oc_39, fv_39_0, fv_39_1, ly_39_1, fv_39_2, ly_39_2, fv_39_3, ly_39_3, fv_39_4, ly_39_4, fv_39_5, ly_39_5, rd_40, al_40, rd_90, rd_91, rd_92, rd_93, lck_0, lck_i, lck_r, lck_n, lck_l, csum_0, csum_i, csum_r, csum_l, pops_0, pops_s, psh_n, psh_s, List.getElem?_cons_zero, List.getElem?_cons_succ, List.set_cons_zero, List.set_cons_succ, true_and, and_true, Nat.reduceAdd, Nat.reduceLeDiff, lgc0, List.length_cons, List.length_nil, Nat.reduceLT]
      have k : (pt = 0 → Q (some (.long (A / a))) h) ∧ (¬ pt = 0 → Q (some (.long (B / a))) h) := ⟨fun c => by rw [if_pos c] at hQ; exact hQ, fun c => by rw [if_neg c] at hQ; exact hQ⟩
      refine ⟨fun _ => ⟨fun _ => ⟨fun c => ⟨ha, k.2 c⟩, fun c => ⟨ha, k.1 c⟩⟩, fun c => absurd c ha⟩, fun _ => ⟨fun _ => ⟨fun _ => ⟨fun c => ⟨ha, k.2 c⟩, fun c => ⟨ha, k.1 c⟩⟩, fun c => absurd c ha⟩, fun c => absurd trivial c⟩⟩
    · rw [eu, if_neg cb] at hQ
      have nx := lp5_partOf d (j + 1) (by omega) b _ cb (hz.resolve_left cb) hQ
      rw [← nI_1] at nx
      refine Rn_go C5_partOf 60 ?_
      simp only [x5_partOf_0, x5_partOf_1, x5_partOf_3, x5_partOf_4, x5_partOf_6, x5_partOf_7, k5_partOf_9, t5_partOf_9, x5_partOf_11, x5_partOf_14, x5_partOf_17, x5_partOf_19, x5_partOf_20, x5_partOf_21, x5_partOf_24, x5_partOf_26, x5_partOf_28, x5_partOf_29, x5_partOf_31, x5_partOf_33, x5_partOf_35, x5_partOf_37, x5_partOf_39, x5_partOf_42, x5_partOf_45, x5_partOf_47, x5_partOf_48, x5_partOf_49, x5_partOf_52, x5_partOf_53, x5_partOf_54, x5_partOf_56, x5_partOf_59, x5_partOf_60, x5_partOf_62, x5_partOf_63, x5_partOf_66, x5_partOf_67, x5_partOf_69, x5_partOf_70, i_goto, i_ic, i_ic_ge, i_if_eq, i_if_ne, i_ild, i_inc, i_ist, i_lc, i_lcmp, i_ldiv, i_lld, i_lrem, i_lret, i_lst, oc_0, fv_0_0, fv_0_1, fv_0_2, fv_0_3, ly_0_3, fv_0_4, fv_0_5, fv_0_6, ly_0_6, fv_0_7, fv_0_8, fv_0_9, oc_1, fv_1_0, fv_1_1, fv_1_2, fv_1_3, fv_1_4, fv_1_5, fv_1_6, ly_1_6, fv_1_7, ly_1_7, fv_1_8, ly_1_8, rd_2, al_2, rd_3, al_3, rd_4, al_4, rd_5, al_5, rd_6, al_6, rd_7, al_7, oc_8, fv_8_0, fv_8_1, fv_8_2, fv_8_3, fv_8_4, fv_8_5, fv_8_6, ly_8_6, fv_8_7, ly_8_7, fv_8_8, ly_8_8, rd_9, al_9, rd_10, al_10, rd_11, al_11, rd_12, al_12, rd_13, al_13, rd_14, al_14, oc_15, fv_15_0, fv_15_1, fv_15_2, fv_15_3, fv_15_4, fv_15_5, fv_15_6, ly_15_6, fv_15_7, ly_15_7, fv_15_8, ly_15_8, rd_16, al_16, rd_17, al_17, rd_18, al_18, rd_19, al_19, rd_20, al_20, rd_21, al_21, oc_22, fv_22_0, fv_22_1, ly_22_1, fv_22_2, ly_22_2, fv_22_3, ly_22_3, fv_22_4, ly_22_4, fv_22_5, ly_22_5, fv_22_6, ly_22_6, rd_23, al_23, rd_24, al_24, ra_25, oc_26, fv_26_0, fv_26_1, ly_26_1, fv_26_2, ly_26_2, oc_27, fv_27_0, fv_27_1, ly_27_1, fv_27_2, ly_27_2, oc_28, fv_28_0, fv_28_1, ly_28_1, fv_28_2, ly_28_2, oc_29, fv_29_0, fv_29_1, ly_29_1, fv_29_2, ly_29_2, rd_30, al_30, rd_31, al_31, rd_32, al_32, rd_33, al_33, ra_34, oc_35, fv_35_0, ly_35_0, fv_35_1, ly_35_1, fv_35_2, ly_35_2, fv_35_3, ly_35_3, oc_36, fv_36_0, ly_36_0, fv_36_1, ly_36_1, fv_36_2, ly_36_2, fv_36_3, ly_36_3, oc_37, fv_37_0, ly_37_0, fv_37_1, ly_37_1, fv_37_2, ly_37_2, fv_37_3, ly_37_3, oc_38, fv_38_0, ly_38_0, fv_38_1, ly_38_1, fv_38_2, ly_38_2, fv_38_3, ly_38_3, oc_39, fv_39_0, fv_39_1, ly_39_1, fv_39_2, ly_39_2, fv_39_3, ly_39_3, fv_39_4, ly_39_4, fv_39_5, ly_39_5, rd_40, al_40, rd_90, rd_91, rd_92, rd_93, lck_0, lck_i, lck_r, lck_n, lck_l, csum_0, csum_i, csum_r, csum_l, pops_0, pops_s, psh_n, psh_s, List.getElem?_cons_zero, List.getElem?_cons_succ, List.set_cons_zero, List.set_cons_succ, true_and, and_true, Nat.reduceAdd, Nat.reduceLeDiff, lgc0, List.length_cons, List.length_nil, Nat.reduceLT]
      exact ⟨fun c => absurd c hlt, fun _ => ⟨fun c => absurd c cb, fun _ => ⟨cb, nx _⟩⟩⟩
theorem lp6_partOf {h : Hp} {Q : Po} {A B : Int64} {pt : Int32} : ∀ d a b, ¬ a = 0 → euZ d a b → Q (some (.long (if pt = 0 then A / eu d a b else B / eu d a b))) h → ∀ y, Rn (T6_partOf Q) (6, [some (.long A), none, some (.long B), none, some (.int pt), some (.long a), none, some (.long b), none, y, none], [], h)
  | 0, a, b, ha, hz, hQ, y => by
    have hz : b = 0 := hz
    subst hz
    unfold eu at hQ
    refine Rn_go C6_partOf 60 ?_
    simp only [x6_partOf_0, x6_partOf_1, x6_partOf_3, x6_partOf_4, k6_partOf_6, t6_partOf_6, x6_partOf_8, x6_partOf_9, x6_partOf_10, x6_partOf_13, x6_partOf_15, x6_partOf_17, x6_partOf_18, x6_partOf_20, x6_partOf_22, x6_partOf_24, x6_partOf_26, x6_partOf_28, x6_partOf_31, x6_partOf_33, x6_partOf_36, x6_partOf_37, x6_partOf_39, x6_partOf_40, x6_partOf_43, x6_partOf_44, x6_partOf_46, x6_partOf_47, i_goto, i_if_eq, i_if_ne, i_ild, i_lc, i_lcmp, i_ldiv, i_lld, i_lrem, i_lret, i_lst, oc_41, fv_41_0, fv_41_1, fv_41_2, fv_41_3, fv_41_4, ly_41_4, fv_41_5, fv_41_6, ly_41_6, fv_41_7, ly_41_7, fv_41_8, ly_41_8, fv_41_9, ly_41_9, fv_41_10, ly_41_10, fv_41_11, ly_41_11, fv_41_12, fv_41_13, fv_41_14, ly_41_14, fv_41_15, fv_41_16, fv_41_17, fv_41_18, fv_41_19, fv_41_20, fv_41_21, fv_41_22, ly_41_22, fv_41_23, ly_41_23, fv_41_24, ly_41_24, fv_41_25, ly_41_25, fv_41_26, ly_41_26, rd_42, al_42, rd_43, al_43, rd_44, al_44, rd_45, al_45, rd_46, al_46, rd_47, al_47, rd_48, al_48, rd_49, al_49, rd_50, al_50, rd_51, al_51, rd_52, al_52, rd_53, al_53, rd_54, al_54, rd_55, al_55, lck_0, lck_i, lck_r, lck_n, lck_l, csum_0, csum_i, csum_r, csum_l, pops_0, pops_s, psh_n, psh_s, List.getElem?_cons_zero, List.getElem?_cons_succ, List.set_cons_zero, List.set_cons_succ, true_and, and_true, Nat.reduceAdd, Nat.reduceLeDiff, lgc0, List.length_cons, List.length_nil, Nat.reduceLT]
    have k : (pt = 0 → Q (some (.long (A / a))) h) ∧ (¬ pt = 0 → Q (some (.long (B / a))) h) := ⟨fun c => by rw [if_pos c] at hQ; exact hQ, fun c => by rw [if_neg c] at hQ; exact hQ⟩
    refine ⟨fun _ => ⟨fun c => ⟨ha, k.2 c⟩, fun c => ⟨ha, k.1 c⟩⟩, fun c => absurd trivial c⟩
  | d + 1, a, b, ha, hz, hQ, y => by
    by_cases cb : b = 0
    · subst cb
      rw [eu, if_pos rfl] at hQ
      refine Rn_go C6_partOf 60 ?_
      simp only [x6_partOf_0, x6_partOf_1, x6_partOf_3, x6_partOf_4, k6_partOf_6, t6_partOf_6, x6_partOf_8, x6_partOf_9, x6_partOf_10, x6_partOf_13, x6_partOf_15, x6_partOf_17, x6_partOf_18, x6_partOf_20, x6_partOf_22, x6_partOf_24, x6_partOf_26, x6_partOf_28, x6_partOf_31, x6_partOf_33, x6_partOf_36, x6_partOf_37, x6_partOf_39, x6_partOf_40, x6_partOf_43, x6_partOf_44, x6_partOf_46, x6_partOf_47, i_goto, i_if_eq, i_if_ne, i_ild, i_lc, i_lcmp, i_ldiv, i_lld, i_lrem, i_lret, i_lst, oc_41, fv_41_0, fv_41_1, fv_41_2, fv_41_3, fv_41_4, ly_41_4, fv_41_5, fv_41_6, ly_41_6, fv_41_7, ly_41_7, fv_41_8, ly_41_8, fv_41_9, ly_41_9, fv_41_10, ly_41_10, fv_41_11, ly_41_11, fv_41_12, fv_41_13, fv_41_14, ly_41_14, fv_41_15, fv_41_16, fv_41_17, fv_41_18, fv_41_19, fv_41_20, fv_41_21, fv_41_22, ly_41_22, fv_41_23, ly_41_23, fv_41_24, ly_41_24, fv_41_25, ly_41_25, fv_41_26, ly_41_26, rd_42, al_42, rd_43, al_43, rd_44, al_44, rd_45, al_45, rd_46, al_46, rd_47, al_47, rd_48, al_48, rd_49, al_49, rd_50, al_50, rd_51, al_51, rd_52, al_52, rd_53, al_53, rd_54, al_54, rd_55, al_55, lck_0, lck_i, lck_r, lck_n, lck_l, csum_0, csum_i, csum_r, csum_l, pops_0, pops_s, psh_n, psh_s, List.getElem?_cons_zero, List.getElem?_cons_succ, List.set_cons_zero, List.set_cons_succ, true_and, and_true, Nat.reduceAdd, Nat.reduceLeDiff, lgc0, List.length_cons, List.length_nil, Nat.reduceLT]
      have k : (pt = 0 → Q (some (.long (A / a))) h) ∧ (¬ pt = 0 → Q (some (.long (B / a))) h) := ⟨fun c => by rw [if_pos c] at hQ; exact hQ, fun c => by rw [if_neg c] at hQ; exact hQ⟩
      refine ⟨fun _ => ⟨fun c => ⟨ha, k.2 c⟩, fun c => ⟨ha, k.1 c⟩⟩, fun c => absurd trivial c⟩
    · rw [eu, if_neg cb] at hQ
      have nx := lp6_partOf d b _ cb (hz.resolve_left cb) hQ
      refine Rn_go C6_partOf 60 ?_
      simp only [x6_partOf_0, x6_partOf_1, x6_partOf_3, x6_partOf_4, k6_partOf_6, t6_partOf_6, x6_partOf_8, x6_partOf_9, x6_partOf_10, x6_partOf_13, x6_partOf_15, x6_partOf_17, x6_partOf_18, x6_partOf_20, x6_partOf_22, x6_partOf_24, x6_partOf_26, x6_partOf_28, x6_partOf_31, x6_partOf_33, x6_partOf_36, x6_partOf_37, x6_partOf_39, x6_partOf_40, x6_partOf_43, x6_partOf_44, x6_partOf_46, x6_partOf_47, i_goto, i_if_eq, i_if_ne, i_ild, i_lc, i_lcmp, i_ldiv, i_lld, i_lrem, i_lret, i_lst, oc_41, fv_41_0, fv_41_1, fv_41_2, fv_41_3, fv_41_4, ly_41_4, fv_41_5, fv_41_6, ly_41_6, fv_41_7, ly_41_7, fv_41_8, ly_41_8, fv_41_9, ly_41_9, fv_41_10, ly_41_10, fv_41_11, ly_41_11, fv_41_12, fv_41_13, fv_41_14, ly_41_14, fv_41_15, fv_41_16, fv_41_17, fv_41_18, fv_41_19, fv_41_20, fv_41_21, fv_41_22, ly_41_22, fv_41_23, ly_41_23, fv_41_24, ly_41_24, fv_41_25, ly_41_25, fv_41_26, ly_41_26, rd_42, al_42, rd_43, al_43, rd_44, al_44, rd_45, al_45, rd_46, al_46, rd_47, al_47, rd_48, al_48, rd_49, al_49, rd_50, al_50, rd_51, al_51, rd_52, al_52, rd_53, al_53, rd_54, al_54, rd_55, al_55, lck_0, lck_i, lck_r, lck_n, lck_l, csum_0, csum_i, csum_r, csum_l, pops_0, pops_s, psh_n, psh_s, List.getElem?_cons_zero, List.getElem?_cons_succ, List.set_cons_zero, List.set_cons_succ, true_and, and_true, Nat.reduceAdd, Nat.reduceLeDiff, lgc0, List.length_cons, List.length_nil, Nat.reduceLT]
      exact ⟨fun c => absurd c cb, fun _ => ⟨cb, nx _⟩⟩
theorem rn5_partOf {h : Hp} {Q : Po} {A : Int64} {B : Int64} {pt : Int32} (hS : S5_partOf [.long A, .long B, .int pt] h Q) : Rn (T5_partOf Q) (0, [some (.long A), none, some (.long B), none, some (.int pt), none, none, none, none, none, none, none], [], h) := by
  obtain ⟨h1, h2, hQ⟩ := hS
  have nx := lp5_partOf (A := A) (B := B) (pt := pt) 127 0 (by decide) B A h1 h2 hQ none
  refine Rn_in C5_partOf 60 ?_
  simp only [x5_partOf_0, x5_partOf_1, x5_partOf_3, x5_partOf_4, x5_partOf_6, x5_partOf_7, k5_partOf_9, t5_partOf_9, x5_partOf_11, x5_partOf_14, x5_partOf_17, x5_partOf_19, x5_partOf_20, x5_partOf_21, x5_partOf_24, x5_partOf_26, x5_partOf_28, x5_partOf_29, x5_partOf_31, x5_partOf_33, x5_partOf_35, x5_partOf_37, x5_partOf_39, x5_partOf_42, x5_partOf_45, x5_partOf_47, x5_partOf_48, x5_partOf_49, x5_partOf_52, x5_partOf_53, x5_partOf_54, x5_partOf_56, x5_partOf_59, x5_partOf_60, x5_partOf_62, x5_partOf_63, x5_partOf_66, x5_partOf_67, x5_partOf_69, x5_partOf_70, i_goto, i_ic, i_ic_ge, i_if_eq, i_if_ne, i_ild, i_inc, i_ist, i_lc, i_lcmp, i_ldiv, i_lld, i_lrem, i_lret, i_lst, oc_0, fv_0_0, fv_0_1, fv_0_2, fv_0_3, ly_0_3, fv_0_4, fv_0_5, fv_0_6, ly_0_6, fv_0_7, fv_0_8, fv_0_9, oc_1, fv_1_0, fv_1_1, fv_1_2, fv_1_3, fv_1_4, fv_1_5, fv_1_6, ly_1_6, fv_1_7, ly_1_7, fv_1_8, ly_1_8, rd_2, al_2, rd_3, al_3, rd_4, al_4, rd_5, al_5, rd_6, al_6, rd_7, al_7, oc_8, fv_8_0, fv_8_1, fv_8_2, fv_8_3, fv_8_4, fv_8_5, fv_8_6, ly_8_6, fv_8_7, ly_8_7, fv_8_8, ly_8_8, rd_9, al_9, rd_10, al_10, rd_11, al_11, rd_12, al_12, rd_13, al_13, rd_14, al_14, oc_15, fv_15_0, fv_15_1, fv_15_2, fv_15_3, fv_15_4, fv_15_5, fv_15_6, ly_15_6, fv_15_7, ly_15_7, fv_15_8, ly_15_8, rd_16, al_16, rd_17, al_17, rd_18, al_18, rd_19, al_19, rd_20, al_20, rd_21, al_21, oc_22, fv_22_0, fv_22_1, ly_22_1, fv_22_2, ly_22_2, fv_22_3, ly_22_3, fv_22_4, ly_22_4, fv_22_5, ly_22_5, fv_22_6, ly_22_6, rd_23, al_23, rd_24, al_24, ra_25, oc_26, fv_26_0, fv_26_1, ly_26_1, fv_26_2, ly_26_2, oc_27, fv_27_0, fv_27_1, ly_27_1, fv_27_2, ly_27_2, oc_28, fv_28_0, fv_28_1, ly_28_1, fv_28_2, ly_28_2, oc_29, fv_29_0, fv_29_1, ly_29_1, fv_29_2, ly_29_2, rd_30, al_30, rd_31, al_31, rd_32, al_32, rd_33, al_33, ra_34, oc_35, fv_35_0, ly_35_0, fv_35_1, ly_35_1, fv_35_2, ly_35_2, fv_35_3, ly_35_3, oc_36, fv_36_0, ly_36_0, fv_36_1, ly_36_1, fv_36_2, ly_36_2, fv_36_3, ly_36_3, oc_37, fv_37_0, ly_37_0, fv_37_1, ly_37_1, fv_37_2, ly_37_2, fv_37_3, ly_37_3, oc_38, fv_38_0, ly_38_0, fv_38_1, ly_38_1, fv_38_2, ly_38_2, fv_38_3, ly_38_3, oc_39, fv_39_0, fv_39_1, ly_39_1, fv_39_2, ly_39_2, fv_39_3, ly_39_3, fv_39_4, ly_39_4, fv_39_5, ly_39_5, rd_40, al_40, rd_90, rd_91, rd_92, rd_93, lck_0, lck_i, lck_r, lck_n, lck_l, csum_0, csum_i, csum_r, csum_l, pops_0, pops_s, psh_n, psh_s, List.getElem?_cons_zero, List.getElem?_cons_succ, List.set_cons_zero, List.set_cons_succ, true_and, and_true, Nat.reduceAdd, Nat.reduceLeDiff, List.length_cons, List.length_nil, Nat.reduceLT]
  exact nx
theorem rn6_partOf {h : Hp} {Q : Po} {A : Int64} {B : Int64} {pt : Int32} (hS : S6_partOf [.long A, .long B, .int pt] h Q) : Rn (T6_partOf Q) (0, [some (.long A), none, some (.long B), none, some (.int pt), none, none, none, none, none, none], [], h) := by
  obtain ⟨h1, h2, hQ⟩ := hS
  have nx := lp6_partOf (A := A) (B := B) (pt := pt) 127 B A h1 h2 hQ none
  refine Rn_in C6_partOf 60 ?_
  simp only [x6_partOf_0, x6_partOf_1, x6_partOf_3, x6_partOf_4, k6_partOf_6, t6_partOf_6, x6_partOf_8, x6_partOf_9, x6_partOf_10, x6_partOf_13, x6_partOf_15, x6_partOf_17, x6_partOf_18, x6_partOf_20, x6_partOf_22, x6_partOf_24, x6_partOf_26, x6_partOf_28, x6_partOf_31, x6_partOf_33, x6_partOf_36, x6_partOf_37, x6_partOf_39, x6_partOf_40, x6_partOf_43, x6_partOf_44, x6_partOf_46, x6_partOf_47, i_goto, i_if_eq, i_if_ne, i_ild, i_lc, i_lcmp, i_ldiv, i_lld, i_lrem, i_lret, i_lst, oc_41, fv_41_0, fv_41_1, fv_41_2, fv_41_3, fv_41_4, ly_41_4, fv_41_5, fv_41_6, ly_41_6, fv_41_7, ly_41_7, fv_41_8, ly_41_8, fv_41_9, ly_41_9, fv_41_10, ly_41_10, fv_41_11, ly_41_11, fv_41_12, fv_41_13, fv_41_14, ly_41_14, fv_41_15, fv_41_16, fv_41_17, fv_41_18, fv_41_19, fv_41_20, fv_41_21, fv_41_22, ly_41_22, fv_41_23, ly_41_23, fv_41_24, ly_41_24, fv_41_25, ly_41_25, fv_41_26, ly_41_26, rd_42, al_42, rd_43, al_43, rd_44, al_44, rd_45, al_45, rd_46, al_46, rd_47, al_47, rd_48, al_48, rd_49, al_49, rd_50, al_50, rd_51, al_51, rd_52, al_52, rd_53, al_53, rd_54, al_54, rd_55, al_55, lck_0, lck_i, lck_r, lck_n, lck_l, csum_0, csum_i, csum_r, csum_l, pops_0, pops_s, psh_n, psh_s, List.getElem?_cons_zero, List.getElem?_cons_succ, List.set_cons_zero, List.set_cons_succ, true_and, and_true, Nat.reduceAdd, Nat.reduceLeDiff, List.length_cons, List.length_nil, Nat.reduceLT]
  exact nx
def S5_hope : Sp := fun av h Q => match av with | [.ref x, .int n, .int p] => wpn (T5_hope Q S5_partOf) C5_hope 250 (fun _ => False) (0, [some (.ref x), some (.int n), some (.int p)], [], h) | _ => False
theorem rn5_hope {h : Hp} {Q : Po} {x : Nat} {n : Int32} {p : Int32} (hS : S5_hope [.ref x, .int n, .int p] h Q) : Rn (T5_hope Q S5_partOf) (0, [some (.ref x), some (.int n), some (.int p)], [], h) := Rn_wp (C := C5_hope) (K := fun _ => False) (fun _ h => False.elim h) 250 _ hS
def S6_hope : Sp := fun av h Q => match av with | [.ref x, .int n, .int p] => wpn (T6_hope Q S6_isIn S6_partOf) C6_hope 250 (fun _ => False) (0, [some (.ref x), some (.int n), some (.int p)], [], h) | _ => False
theorem rn6_hope {h : Hp} {Q : Po} {x : Nat} {n : Int32} {p : Int32} (hS : S6_hope [.ref x, .int n, .int p] h Q) : Rn (T6_hope Q S6_isIn S6_partOf) (0, [some (.ref x), some (.int n), some (.int p)], [], h) := Rn_wp (C := C6_hope) (K := fun _ => False) (fun _ h => False.elim h) 250 _ hS
theorem lN_nn {n : Nat} (h : n < 2 ^ 63) : 0 ≤ (lN n).toInt := by
  have e : (lN n).toInt = n := lg_ofNat_toInt h
  omega
theorem of99 {n : Int32} (h0 : 0 ≤ n) (h1 : n ≤ 99) : ∃ m, m ≤ 99 ∧ n = nI m := by
  have := ix_lt (n := 100) h0 (show n < (100 : Int32) by grind) (by decide)
  exact ⟨ix n, by omega, (nI_ix h0).symm⟩
theorem pr_hope {h : Hp} (r : Rel h) (n : Int32) (p : Int32) : S5_hope [.ref 0, .int n, .int p] h (fun rv h1 => S6_hope [.ref 41, .int n, .int p] h1 (fun rw h2 => rw = rv ∧ Rel h2)) := by
  obtain ⟨g0, g1, g2, g3, g4⟩ := raw r
  have s1 : h 2 3 = h 42 6 := g1 3 (by decide)
  have s2 : 0 ≤ h 2 3 ∧ h 2 3 ≤ 99 := r.1.2.2.1
  obtain ⟨u, hu, eu⟩ := of99 s2.1 s2.2
  have eu6 : h 42 6 = nI u := by rw [← s1]; exact eu
  by_cases cn : 0 ≤ n ∧ n ≤ 99
  · by_cases cp : 0 ≤ p ∧ p ≤ 1
    · obtain ⟨m, hm, rfl⟩ := of99 cn.1 cn.2
      have b1 : ¬ nI m < 0 := Int32.not_lt.mpr cn.1
      have b2 : ¬ 99 < nI m := Int32.not_lt.mpr cn.2
      have b3 : ¬ p < 0 := Int32.not_lt.mpr cp.1
      have b4 : p ≤ 1 := cp.2
      have e1 : (nI m).toInt64 * (nI u).toInt64 = lN (m * u) := by
        rw [nI_l (by omega), nI_l (by omega), lN_mul]
      have mu : m * u ≤ 99 * 99 := Nat.mul_le_mul hm hu
      have z := euZ_all (a := 100) (b := lN (m * u)) (by decide) (lN_nn (by omega))
      have n1 : ¬ (100 : Int64) = 0 := by decide
      simp only [x5_hope_0, x5_hope_1, x5_hope_4, x5_hope_5, x5_hope_7, x5_hope_10, x5_hope_11, x5_hope_14, x5_hope_15, x5_hope_16, x5_hope_19, x5_hope_22, x5_hope_23, x5_hope_24, x5_hope_25, x5_hope_26, x5_hope_29, x5_hope_32, x5_hope_33, x5_hope_34, x5_hope_35, x5_hope_36, x5_hope_39, x5_hope_40, x5_hope_43, i_ald, i_cS, i_get, i_i2l, i_iald, i_ic, i_ic_gt, i_ic_le, i_if_lt, i_ild, i_lc, i_lmul, i_lret, oc_0, fv_0_0, fv_0_1, fv_0_2, fv_0_3, ly_0_3, fv_0_4, fv_0_5, fv_0_6, ly_0_6, fv_0_7, fv_0_8, fv_0_9, oc_1, fv_1_0, fv_1_1, fv_1_2, fv_1_3, fv_1_4, fv_1_5, fv_1_6, ly_1_6, fv_1_7, ly_1_7, fv_1_8, ly_1_8, rd_2, al_2, rd_3, al_3, rd_4, al_4, rd_5, al_5, rd_6, al_6, rd_7, al_7, x6_hope_0, x6_hope_1, x6_hope_2, x6_hope_3, x6_hope_6, x6_hope_9, x6_hope_12, x6_hope_13, x6_hope_14, x6_hope_15, x6_hope_16, x6_hope_19, x6_hope_22, x6_hope_23, x6_hope_24, x6_hope_25, x6_hope_28, x6_hope_30, x6_hope_31, x6_hope_32, x6_hope_33, x6_hope_36, x6_hope_37, x6_hope_40, x6_hope_43, x6_hope_46, i_goto, i_if_eq, oc_41, fv_41_0, fv_41_1, fv_41_2, fv_41_3, fv_41_4, ly_41_4, fv_41_5, fv_41_6, ly_41_6, fv_41_7, ly_41_7, fv_41_8, ly_41_8, fv_41_9, ly_41_9, fv_41_10, ly_41_10, fv_41_11, ly_41_11, fv_41_12, fv_41_13, fv_41_14, ly_41_14, fv_41_15, fv_41_16, fv_41_17, fv_41_18, fv_41_19, fv_41_20, fv_41_21, fv_41_22, ly_41_22, fv_41_23, ly_41_23, fv_41_24, ly_41_24, fv_41_25, ly_41_25, fv_41_26, ly_41_26, rd_42, al_42, rd_43, al_43, rd_44, al_44, rd_45, al_45, rd_46, al_46, rd_47, al_47, rd_48, al_48, rd_49, al_49, rd_50, al_50, rd_51, al_51, rd_52, al_52, rd_53, al_53, rd_54, al_54, rd_55, al_55, lck_0, lck_i, lck_r, lck_n, lck_l, csum_0, csum_i, csum_r, csum_l, pops_0, pops_s, psh_n, psh_s, List.getElem?_cons_zero, List.getElem?_cons_succ, List.set_cons_zero, List.set_cons_succ, true_and, and_true, Nat.reduceAdd, Nat.reduceLeDiff, S5_hope, S6_hope, S5_partOf, S6_partOf, S6_isIn, bIn_0, lo_0, hi_99, hi_1, cn, cp, b1, b2, b3, b4, v4, v47, w47, t4, ixL, ix3, eu, eu6, e1, z, n1, nn, false_implies, true_implies, implies_true, not_true_eq_false, not_false_eq_true, eq_self]
      exact r
    · have k6 : S6_hope [.ref 41, .int n, .int p] h (fun rw h2 => rw = some (.long (-1)) ∧ Rel h2) := by
        simp only [x6_hope_0, x6_hope_1, x6_hope_2, x6_hope_3, x6_hope_6, x6_hope_9, x6_hope_12, x6_hope_13, x6_hope_14, x6_hope_15, x6_hope_16, x6_hope_19, x6_hope_22, x6_hope_23, x6_hope_24, x6_hope_25, x6_hope_28, x6_hope_30, x6_hope_31, x6_hope_32, x6_hope_33, x6_hope_36, x6_hope_37, x6_hope_40, x6_hope_43, x6_hope_46, i_ald, i_cS, i_get, i_goto, i_i2l, i_iald, i_ic, i_if_eq, i_ild, i_lc, i_lmul, i_lret, oc_41, fv_41_0, fv_41_1, fv_41_2, fv_41_3, fv_41_4, ly_41_4, fv_41_5, fv_41_6, ly_41_6, fv_41_7, ly_41_7, fv_41_8, ly_41_8, fv_41_9, ly_41_9, fv_41_10, ly_41_10, fv_41_11, ly_41_11, fv_41_12, fv_41_13, fv_41_14, ly_41_14, fv_41_15, fv_41_16, fv_41_17, fv_41_18, fv_41_19, fv_41_20, fv_41_21, fv_41_22, ly_41_22, fv_41_23, ly_41_23, fv_41_24, ly_41_24, fv_41_25, ly_41_25, fv_41_26, ly_41_26, rd_42, al_42, rd_43, al_43, rd_44, al_44, rd_45, al_45, rd_46, al_46, rd_47, al_47, rd_48, al_48, rd_49, al_49, rd_50, al_50, rd_51, al_51, rd_52, al_52, rd_53, al_53, rd_54, al_54, rd_55, al_55, lck_0, lck_i, lck_r, lck_n, lck_l, csum_0, csum_i, csum_r, csum_l, pops_0, pops_s, psh_n, psh_s, List.getElem?_cons_zero, List.getElem?_cons_succ, List.set_cons_zero, List.set_cons_succ, true_and, and_true, Nat.reduceAdd, Nat.reduceLeDiff, S6_hope, S6_isIn, bIn_0, lo_0, hi_99, hi_1, cn, cp, nn, false_implies, true_implies, implies_true, and_true, true_and, not_true_eq_false, not_false_eq_true, eq_self]
        exact r
      simp only [x5_hope_0, x5_hope_1, x5_hope_4, x5_hope_5, x5_hope_7, x5_hope_10, x5_hope_11, x5_hope_14, x5_hope_15, x5_hope_16, x5_hope_19, x5_hope_22, x5_hope_23, x5_hope_24, x5_hope_25, x5_hope_26, x5_hope_29, x5_hope_32, x5_hope_33, x5_hope_34, x5_hope_35, x5_hope_36, x5_hope_39, x5_hope_40, x5_hope_43, i_ald, i_cS, i_get, i_i2l, i_iald, i_ic, i_ic_gt, i_ic_le, i_if_lt, i_ild, i_lc, i_lmul, i_lret, oc_0, fv_0_0, fv_0_1, fv_0_2, fv_0_3, ly_0_3, fv_0_4, fv_0_5, fv_0_6, ly_0_6, fv_0_7, fv_0_8, fv_0_9, oc_1, fv_1_0, fv_1_1, fv_1_2, fv_1_3, fv_1_4, fv_1_5, fv_1_6, ly_1_6, fv_1_7, ly_1_7, fv_1_8, ly_1_8, rd_2, al_2, rd_3, al_3, rd_4, al_4, rd_5, al_5, rd_6, al_6, rd_7, al_7, lck_0, lck_i, lck_r, lck_n, lck_l, csum_0, csum_i, csum_r, csum_l, pops_0, pops_s, psh_n, psh_s, List.getElem?_cons_zero, List.getElem?_cons_succ, List.set_cons_zero, List.set_cons_succ, true_and, and_true, Nat.reduceAdd, Nat.reduceLeDiff, S5_hope]
      exact ⟨fun _ => k6, fun _ => ⟨fun _ => k6, fun _ => ⟨fun _ => k6, fun d1 => ⟨fun d2 => absurd ⟨Int32.not_lt.mp d1, d2⟩ cp, fun _ => k6⟩⟩⟩⟩
  · have k6 : S6_hope [.ref 41, .int n, .int p] h (fun rw h2 => rw = some (.long (-1)) ∧ Rel h2) := by
      simp only [x6_hope_0, x6_hope_1, x6_hope_2, x6_hope_3, x6_hope_6, x6_hope_9, x6_hope_12, x6_hope_13, x6_hope_14, x6_hope_15, x6_hope_16, x6_hope_19, x6_hope_22, x6_hope_23, x6_hope_24, x6_hope_25, x6_hope_28, x6_hope_30, x6_hope_31, x6_hope_32, x6_hope_33, x6_hope_36, x6_hope_37, x6_hope_40, x6_hope_43, x6_hope_46, i_ald, i_cS, i_get, i_goto, i_i2l, i_iald, i_ic, i_if_eq, i_ild, i_lc, i_lmul, i_lret, oc_41, fv_41_0, fv_41_1, fv_41_2, fv_41_3, fv_41_4, ly_41_4, fv_41_5, fv_41_6, ly_41_6, fv_41_7, ly_41_7, fv_41_8, ly_41_8, fv_41_9, ly_41_9, fv_41_10, ly_41_10, fv_41_11, ly_41_11, fv_41_12, fv_41_13, fv_41_14, ly_41_14, fv_41_15, fv_41_16, fv_41_17, fv_41_18, fv_41_19, fv_41_20, fv_41_21, fv_41_22, ly_41_22, fv_41_23, ly_41_23, fv_41_24, ly_41_24, fv_41_25, ly_41_25, fv_41_26, ly_41_26, rd_42, al_42, rd_43, al_43, rd_44, al_44, rd_45, al_45, rd_46, al_46, rd_47, al_47, rd_48, al_48, rd_49, al_49, rd_50, al_50, rd_51, al_51, rd_52, al_52, rd_53, al_53, rd_54, al_54, rd_55, al_55, lck_0, lck_i, lck_r, lck_n, lck_l, csum_0, csum_i, csum_r, csum_l, pops_0, pops_s, psh_n, psh_s, List.getElem?_cons_zero, List.getElem?_cons_succ, List.set_cons_zero, List.set_cons_succ, true_and, and_true, Nat.reduceAdd, Nat.reduceLeDiff, S6_hope, S6_isIn, bIn_0, lo_0, hi_99, hi_1, cn, nn, false_implies, true_implies, implies_true, and_true, true_and, not_true_eq_false, not_false_eq_true, eq_self]
      exact r
    simp only [x5_hope_0, x5_hope_1, x5_hope_4, x5_hope_5, x5_hope_7, x5_hope_10, x5_hope_11, x5_hope_14, x5_hope_15, x5_hope_16, x5_hope_19, x5_hope_22, x5_hope_23, x5_hope_24, x5_hope_25, x5_hope_26, x5_hope_29, x5_hope_32, x5_hope_33, x5_hope_34, x5_hope_35, x5_hope_36, x5_hope_39, x5_hope_40, x5_hope_43, i_ald, i_cS, i_get, i_i2l, i_iald, i_ic, i_ic_gt, i_ic_le, i_if_lt, i_ild, i_lc, i_lmul, i_lret, oc_0, fv_0_0, fv_0_1, fv_0_2, fv_0_3, ly_0_3, fv_0_4, fv_0_5, fv_0_6, ly_0_6, fv_0_7, fv_0_8, fv_0_9, oc_1, fv_1_0, fv_1_1, fv_1_2, fv_1_3, fv_1_4, fv_1_5, fv_1_6, ly_1_6, fv_1_7, ly_1_7, fv_1_8, ly_1_8, rd_2, al_2, rd_3, al_3, rd_4, al_4, rd_5, al_5, rd_6, al_6, rd_7, al_7, lck_0, lck_i, lck_r, lck_n, lck_l, csum_0, csum_i, csum_r, csum_l, pops_0, pops_s, psh_n, psh_s, List.getElem?_cons_zero, List.getElem?_cons_succ, List.set_cons_zero, List.set_cons_succ, true_and, and_true, Nat.reduceAdd, Nat.reduceLeDiff, S5_hope]
    exact ⟨fun _ => k6, fun d1 => ⟨fun _ => k6, fun d2 => absurd ⟨Int32.not_lt.mp d1, Int32.not_lt.mp d2⟩ cn⟩⟩
