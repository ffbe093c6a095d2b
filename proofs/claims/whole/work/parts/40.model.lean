/-! THE REFERENCE: its row of 47 numbers, seen as a gaol -/
def mv (s : Nat → Int32) (j k : Nat) : Int32 := if j = 0 then (if k = 6 then s 0 else if k = 7 then s 1 else if k = 8 then s 2 else 0) else if j = 1 then (if k < 4 then s (3 + k) else 0) else if j = 2 then (if k < 8 then s (7 + k) else 0) else if j = 3 then s (15 + 4 * k) else if j = 4 then s (15 + 4 * k + 1) else if j = 5 then s (15 + 4 * k + 2) else if j = 6 then s (15 + 4 * k + 3) - 1 else 0
theorem mv_06 (s : Nat → Int32) : mv s 0 6 = s 0 := rfl
theorem mv_07 (s : Nat → Int32) : mv s 0 7 = s 1 := rfl
theorem mv_08 (s : Nat → Int32) : mv s 0 8 = s 2 := rfl
theorem mv_10 (s : Nat → Int32) : mv s 1 0 = s 3 := rfl
theorem mv_11 (s : Nat → Int32) : mv s 1 1 = s 4 := rfl
theorem mv_12 (s : Nat → Int32) : mv s 1 2 = s 5 := rfl
theorem mv_13 (s : Nat → Int32) : mv s 1 3 = s 6 := rfl
theorem mv_3 (s : Nat → Int32) (k : Nat) : mv s 3 k = s (15 + 4 * k) := rfl
theorem mv_4 (s : Nat → Int32) (k : Nat) : mv s 4 k = s (15 + 4 * k + 1) := rfl
theorem mv_5 (s : Nat → Int32) (k : Nat) : mv s 5 k = s (15 + 4 * k + 2) := rfl
theorem mv_6 (s : Nat → Int32) (k : Nat) : mv s 6 k = s (15 + 4 * k + 3) - 1 := rfl
theorem mv_2 (s : Nat → Int32) {k : Nat} (hk : k < 8) : mv s 2 k = s (7 + k) := by simp [mv, hk]
theorem mv_u3 (s : Nat → Int32) (i : Nat) (v : Int32) : mv (upd s (15 + 4 * i) v) = up2 (mv s) 3 i v := by
  funext j k; simp only [mv, upd, up2]; grind
theorem mv_u4 (s : Nat → Int32) (i : Nat) (v : Int32) : mv (upd s (15 + 4 * i + 1) v) = up2 (mv s) 4 i v := by
  funext j k; simp only [mv, upd, up2]; grind
theorem mv_u5 (s : Nat → Int32) (i : Nat) (v : Int32) : mv (upd s (15 + 4 * i + 2) v) = up2 (mv s) 5 i v := by
  funext j k; simp only [mv, upd, up2]; grind
theorem mv_u6 (s : Nat → Int32) (i : Nat) (v : Int32) : mv (upd s (15 + 4 * i + 3) v) = up2 (mv s) 6 i (v - 1) := by
  funext j k; simp only [mv, upd, up2]; grind
theorem mv_u07 (s : Nat → Int32) (v : Int32) : mv (upd s 1 v) = up2 (mv s) 0 7 v := by
  funext j k; simp only [mv, upd, up2]; grind
theorem mv_u08 (s : Nat → Int32) (v : Int32) : mv (upd s 2 v) = up2 (mv s) 0 8 v := by
  funext j k; simp only [mv, upd, up2]; grind
theorem mv_u06 (s : Nat → Int32) (v : Int32) : mv (upd s 0 v) = up2 (mv s) 0 6 v := by
  funext j k; simp only [mv, upd, up2]; grind
theorem mv_u1 (s : Nat → Int32) {i : Nat} (hi : i < 4) (v : Int32) : mv (upd s (3 + i) v) = up2 (mv s) 1 i v := by
  funext j k; simp only [mv, upd, up2]; grind
theorem mv_u2 (s : Nat → Int32) {i : Nat} (hi : i < 8) (v : Int32) : mv (upd s (7 + i) v) = up2 (mv s) 2 i v := by
  funext j k; simp only [mv, upd, up2]; grind
def InvR (G : GG) : Prop := (0 ≤ G 0 6 ∧ G 0 6 ≤ 8) ∧ ∀ i, i < nG G → (0 ≤ G 5 i ∧ G 5 i ≤ 8) ∧ (-1 ≤ G 6 i ∧ G 6 i < G 0 6)
def bIn (a b c : Int64) : Int32 := if b ≤ a ∧ a ≤ c then 1 else 0
theorem bIn_0 (a b c : Int64) : (bIn a b c = 0) = ¬ (b ≤ a ∧ a ≤ c) := by unfold bIn; split <;> simp_all
theorem bIn_01 (a b c : Int64) : (bIn a b c = 0 ∨ bIn a b c = 1) = True := by unfold bIn; split <;> simp
def hsB (c i : Int32) : Int32 := if 0 ≤ i ∧ i < c then 1 else 0
theorem hsB_0 (c i : Int32) : (hsB c i = 0) = ¬ (0 ≤ i ∧ i < c) := by unfold hsB; split <;> simp_all
theorem l64le (x y : Int32) : (x.toInt64 ≤ y.toInt64) = (x ≤ y) := by
  rw [Int64.le_iff_toInt_le, Int32.le_iff_toInt_le, Int32.toInt_toInt64, Int32.toInt_toInt64]
theorem lo_0 (x : Int32) : ((0 : Int64) ≤ x.toInt64) = ((0 : Int32) ≤ x) := l64le 0 x
theorem lo_1 (x : Int32) : ((1 : Int64) ≤ x.toInt64) = ((1 : Int32) ≤ x) := l64le 1 x
theorem lo_m1 (x : Int32) : (((-1) : Int64) ≤ x.toInt64) = (((-1) : Int32) ≤ x) := l64le (-1) x
theorem lo_6 (x : Int32) : ((6 : Int64) ≤ x.toInt64) = ((6 : Int32) ≤ x) := l64le 6 x
theorem hi_0 (x : Int32) : (x.toInt64 ≤ (0 : Int64)) = (x ≤ (0 : Int32)) := l64le x 0
theorem hi_1 (x : Int32) : (x.toInt64 ≤ (1 : Int64)) = (x ≤ (1 : Int32)) := l64le x 1
theorem hi_2 (x : Int32) : (x.toInt64 ≤ (2 : Int64)) = (x ≤ (2 : Int32)) := l64le x 2
theorem hi_3 (x : Int32) : (x.toInt64 ≤ (3 : Int64)) = (x ≤ (3 : Int32)) := l64le x 3
theorem hi_4 (x : Int32) : (x.toInt64 ≤ (4 : Int64)) = (x ≤ (4 : Int32)) := l64le x 4
theorem hi_5 (x : Int32) : (x.toInt64 ≤ (5 : Int64)) = (x ≤ (5 : Int32)) := l64le x 5
theorem hi_8 (x : Int32) : (x.toInt64 ≤ (8 : Int64)) = (x ≤ (8 : Int32)) := l64le x 8
theorem hi_9 (x : Int32) : (x.toInt64 ≤ (9 : Int64)) = (x ≤ (9 : Int32)) := l64le x 9
theorem hi_10 (x : Int32) : (x.toInt64 ≤ (10 : Int64)) = (x ≤ (10 : Int32)) := l64le x 10
theorem hi_13 (x : Int32) : (x.toInt64 ≤ (13 : Int64)) = (x ≤ (13 : Int32)) := l64le x 13
theorem hi_30 (x : Int32) : (x.toInt64 ≤ (30 : Int64)) = (x ≤ (30 : Int32)) := l64le x 30
theorem hi_40 (x : Int32) : (x.toInt64 ≤ (40 : Int64)) = (x ≤ (40 : Int32)) := l64le x 40
theorem hi_60 (x : Int32) : (x.toInt64 ≤ (60 : Int64)) = (x ≤ (60 : Int32)) := l64le x 60
theorem hi_99 (x : Int32) : (x.toInt64 ≤ (99 : Int64)) = (x ≤ (99 : Int32)) := l64le x 99
theorem its_ix {o t : Int32} (ho : 0 ≤ o ∧ o < 8) (ht : 0 ≤ t ∧ t < 4) : (0 ≤ 15 + 4 * o + t ∧ 15 + 4 * o + t < 47) ∧ (15 + 4 * o + t).toNatClampNeg = 15 + 4 * ix o + ix t := by
  obtain ⟨j, hj, rfl⟩ := vp_in_of (vpi (n := 8) (by decide) ho.1 ho.2) (by decide)
  obtain ⟨k, hk, rfl⟩ := vp_in_of (vpi (n := 4) (by decide) ht.1 ht.2) (by decide)
  have e : (15 : Int32) + 4 * nI j + nI k = nI (15 + 4 * j + k) := by
    rw [show (15 : Int32) = nI 15 from rfl, show (4 : Int32) = nI 4 from rfl, pk_mul, nI_add, nI_add]
  rw [e, ix_nI (by omega), ix_nI (by omega)]
  exact ⟨⟨nI_pos' (by omega), nI_lt (b := 47) (by omega) (by decide)⟩, nI_clamp (by omega)⟩
theorem at_ix {o : Int32} (ho : 0 ≤ o ∧ o < 8) : ((0 ≤ 15 + 4 * o ∧ 15 + 4 * o < 47) ∧ (15 + 4 * o).toNatClampNeg = 15 + 4 * ix o) ∧ ((0 ≤ 15 + 4 * o + 1 ∧ 15 + 4 * o + 1 < 47) ∧ (15 + 4 * o + 1).toNatClampNeg = 15 + 4 * ix o + 1) ∧ ((0 ≤ 15 + 4 * o + 2 ∧ 15 + 4 * o + 2 < 47) ∧ (15 + 4 * o + 2).toNatClampNeg = 15 + 4 * ix o + 2) ∧ ((0 ≤ 15 + 4 * o + 3 ∧ 15 + 4 * o + 3 < 47) ∧ (15 + 4 * o + 3).toNatClampNeg = 15 + 4 * ix o + 3) := by
  have a := its_ix ho (t := 0) (by decide)
  have b := its_ix ho (t := 1) (by decide)
  have c := its_ix ho (t := 2) (by decide)
  have d := its_ix ho (t := 3) (by decide)
  rw [Int32.add_zero] at a
  exact ⟨a, b, c, d⟩
theorem rt_ix {r : Int32} (hr : 0 ≤ r ∧ r < 8) : (0 ≤ 7 + r ∧ 7 + r < 47) ∧ (7 + r).toNatClampNeg = 7 + ix r := by
  obtain ⟨j, hj, rfl⟩ := vp_in_of (vpi (n := 8) (by decide) hr.1 hr.2) (by decide)
  rw [show (7 : Int32) = nI 7 from rfl, nI_add, ix_nI (by omega)]
  exact ⟨⟨nI_pos' (by omega), nI_lt (b := 47) (by omega) (by decide)⟩, nI_clamp (by omega)⟩
theorem lw_ix {r : Int32} (hr : 0 ≤ r ∧ r < 4) : (0 ≤ 3 + r ∧ 3 + r < 47) ∧ (3 + r).toNatClampNeg = 3 + ix r := by
  obtain ⟨j, hj, rfl⟩ := vp_in_of (vpi (n := 4) (by decide) hr.1 hr.2) (by decide)
  rw [show (3 : Int32) = nI 3 from rfl, nI_add, ix_nI (by omega)]
  exact ⟨⟨nI_pos' (by omega), nI_lt (b := 47) (by omega) (by decide)⟩, nI_clamp (by omega)⟩
theorem ixL : Int32.toNatClampNeg 5 = 5 ∧ Int32.toNatClampNeg 6 = 6 ∧ Int32.toNatClampNeg 7 = 7 := by decide
theorem w47 : ((0 : Int32) ≤ 0 ∧ (0 : Int32) < 47) = True ∧ ((0 : Int32) ≤ 1 ∧ (1 : Int32) < 47) = True ∧ ((0 : Int32) ≤ 2 ∧ (2 : Int32) < 47) = True ∧ ((0 : Int32) ≤ 3 ∧ (3 : Int32) < 47) = True ∧ ((0 : Int32) ≤ 4 ∧ (4 : Int32) < 47) = True ∧ ((0 : Int32) ≤ 5 ∧ (5 : Int32) < 47) = True ∧ ((0 : Int32) ≤ 6 ∧ (6 : Int32) < 47) = True := by decide
def S6_isIn : Sp := fun av h Q => match av with | [.long a, .long b, .long c] => Q (some (.int (bIn a b c))) h | _ => False
theorem lgc1 (a b : Int64) : (lg_cmp a b < 0) = ¬ (b ≤ a) := by
  unfold lg_cmp
  simp only [gt_iff_lt, Int64.lt_iff_toInt_lt, Int64.le_iff_toInt_le, ← Int64.toInt_inj]
  split
  · simp; omega
  · split
    · simp; omega
    · simp; omega
theorem lgc2 (a b : Int64) : (0 < lg_cmp a b) = ¬ (a ≤ b) := by
  unfold lg_cmp
  simp only [gt_iff_lt, Int64.lt_iff_toInt_lt, Int64.le_iff_toInt_le, ← Int64.toInt_inj]
  split
  · simp; omega
  · split
    · simp; omega
    · simp; omega
theorem rn6_isIn {h : Hp} {Q : Po} {a : Int64} {b : Int64} {c : Int64} (hS : S6_isIn [.long a, .long b, .long c] h Q) : Rn (T6_isIn Q) (0, [some (.long a), none, some (.long b), none, some (.long c), none], [], h) := by
  refine Rn_in C6_isIn 60 ?_
  simp only [S6_isIn, bIn] at hS
  simp only [x6_isIn_0, x6_isIn_1, x6_isIn_2, x6_isIn_3, x6_isIn_6, x6_isIn_7, x6_isIn_9, x6_isIn_10, x6_isIn_13, x6_isIn_14, x6_isIn_17, x6_isIn_18, i_goto, i_ic, i_if_gt, i_if_lt, i_lcmp, i_lld, i_zret, oc_41, fv_41_0, fv_41_1, fv_41_2, fv_41_3, fv_41_4, ly_41_4, fv_41_5, fv_41_6, ly_41_6, fv_41_7, ly_41_7, fv_41_8, ly_41_8, fv_41_9, ly_41_9, fv_41_10, ly_41_10, fv_41_11, ly_41_11, fv_41_12, fv_41_13, fv_41_14, ly_41_14, fv_41_15, fv_41_16, fv_41_17, fv_41_18, fv_41_19, fv_41_20, fv_41_21, fv_41_22, ly_41_22, fv_41_23, ly_41_23, fv_41_24, ly_41_24, fv_41_25, ly_41_25, fv_41_26, ly_41_26, rd_42, al_42, rd_43, al_43, rd_44, al_44, rd_45, al_45, rd_46, al_46, rd_47, al_47, rd_48, al_48, rd_49, al_49, rd_50, al_50, rd_51, al_51, rd_52, al_52, rd_53, al_53, rd_54, al_54, rd_55, al_55, lck_0, lck_i, lck_r, lck_n, lck_l, csum_0, csum_i, csum_r, csum_l, pops_0, pops_s, psh_n, psh_s, List.getElem?_cons_zero, List.getElem?_cons_succ, List.set_cons_zero, List.set_cons_succ, true_and, and_true, Nat.reduceAdd, Nat.reduceLeDiff, lgc1, lgc2, or_true, true_or]
  by_cases c1 : b ≤ a <;> by_cases c2 : a ≤ c <;> simp_all
def S6_isRoom : Sp := fun av h Q => match av with | [.int v] => Q (some (.int (hsB 8 v))) h | _ => False
theorem rn6_isRoom {h : Hp} {Q : Po} {v : Int32} (hS : S6_isRoom [.int v] h Q) : Rn (T6_isRoom Q) (0, [some (.int v)], [], h) := by
  refine Rn_in C6_isRoom 60 ?_
  simp only [S6_isRoom, hsB] at hS
  simp only [x6_isRoom_0, x6_isRoom_1, x6_isRoom_4, x6_isRoom_5, x6_isRoom_7, x6_isRoom_10, x6_isRoom_11, x6_isRoom_14, x6_isRoom_15, i_goto, i_ic, i_ic_ge, i_if_lt, i_ild, i_zret, oc_41, fv_41_0, fv_41_1, fv_41_2, fv_41_3, fv_41_4, ly_41_4, fv_41_5, fv_41_6, ly_41_6, fv_41_7, ly_41_7, fv_41_8, ly_41_8, fv_41_9, ly_41_9, fv_41_10, ly_41_10, fv_41_11, ly_41_11, fv_41_12, fv_41_13, fv_41_14, ly_41_14, fv_41_15, fv_41_16, fv_41_17, fv_41_18, fv_41_19, fv_41_20, fv_41_21, fv_41_22, ly_41_22, fv_41_23, ly_41_23, fv_41_24, ly_41_24, fv_41_25, ly_41_25, fv_41_26, ly_41_26, rd_42, al_42, rd_43, al_43, rd_44, al_44, rd_45, al_45, rd_46, al_46, rd_47, al_47, rd_48, al_48, rd_49, al_49, rd_50, al_50, rd_51, al_51, rd_52, al_52, rd_53, al_53, rd_54, al_54, rd_55, al_55, lck_0, lck_i, lck_r, lck_n, lck_l, csum_0, csum_i, csum_r, csum_l, pops_0, pops_s, psh_n, psh_s, List.getElem?_cons_zero, List.getElem?_cons_succ, List.set_cons_zero, List.set_cons_succ, true_and, and_true, Nat.reduceAdd, Nat.reduceLeDiff, or_true, true_or]
  grind
def S6_isOne : Sp := fun av h Q => match av with | [.ref m, .int o] => m = 41 ∧ Q (some (.int (hsB (h 42 0) o))) h | _ => False
theorem rn6_isOne {h : Hp} {Q : Po} {m : Nat} {o : Int32} (hS : S6_isOne [.ref m, .int o] h Q) : Rn (T6_isOne Q) (0, [some (.ref m), some (.int o)], [], h) := by
  obtain ⟨rfl, hQ⟩ := hS
  refine Rn_in C6_isOne 60 ?_
  simp only [hsB] at hQ
  simp only [x6_isOne_0, x6_isOne_1, x6_isOne_4, x6_isOne_5, x6_isOne_6, x6_isOne_9, x6_isOne_10, x6_isOne_11, x6_isOne_14, x6_isOne_15, x6_isOne_18, x6_isOne_19, i_ald, i_get, i_goto, i_iald, i_ic, i_ic_ge, i_if_lt, i_ild, i_zret, oc_41, fv_41_0, fv_41_1, fv_41_2, fv_41_3, fv_41_4, ly_41_4, fv_41_5, fv_41_6, ly_41_6, fv_41_7, ly_41_7, fv_41_8, ly_41_8, fv_41_9, ly_41_9, fv_41_10, ly_41_10, fv_41_11, ly_41_11, fv_41_12, fv_41_13, fv_41_14, ly_41_14, fv_41_15, fv_41_16, fv_41_17, fv_41_18, fv_41_19, fv_41_20, fv_41_21, fv_41_22, ly_41_22, fv_41_23, ly_41_23, fv_41_24, ly_41_24, fv_41_25, ly_41_25, fv_41_26, ly_41_26, rd_42, al_42, rd_43, al_43, rd_44, al_44, rd_45, al_45, rd_46, al_46, rd_47, al_47, rd_48, al_48, rd_49, al_49, rd_50, al_50, rd_51, al_51, rd_52, al_52, rd_53, al_53, rd_54, al_54, rd_55, al_55, lck_0, lck_i, lck_r, lck_n, lck_l, csum_0, csum_i, csum_r, csum_l, pops_0, pops_s, psh_n, psh_s, List.getElem?_cons_zero, List.getElem?_cons_succ, List.set_cons_zero, List.set_cons_succ, true_and, and_true, Nat.reduceAdd, Nat.reduceLeDiff, or_true, true_or, v47, w47, ix0]
  grind
def S6_its : Sp := fun av h Q => match av with | [.ref m, .int o, .int t] => m = 41 ∧ (0 ≤ o ∧ o < 8) ∧ (0 ≤ t ∧ t < 4) ∧ Q (some (.int (h 42 (15 + 4 * ix o + ix t)))) h | _ => False
theorem rn6_its {h : Hp} {Q : Po} {m : Nat} {o : Int32} {t : Int32} (hS : S6_its [.ref m, .int o, .int t] h Q) : Rn (T6_its Q) (0, [some (.ref m), some (.int o), some (.int t)], [], h) := by
  obtain ⟨rfl, ho, ht, hQ⟩ := hS
  obtain ⟨e1, e2⟩ := its_ix ho ht
  refine Rn_in C6_its 60 ?_
  simp only [x6_its_0, x6_its_1, x6_its_4, x6_its_6, x6_its_7, x6_its_8, x6_its_9, x6_its_10, x6_its_11, x6_its_12, x6_its_13, i_ald, i_get, i_iadd, i_iald, i_ic, i_ild, i_imul, i_iret, oc_41, fv_41_0, fv_41_1, fv_41_2, fv_41_3, fv_41_4, ly_41_4, fv_41_5, fv_41_6, ly_41_6, fv_41_7, ly_41_7, fv_41_8, ly_41_8, fv_41_9, ly_41_9, fv_41_10, ly_41_10, fv_41_11, ly_41_11, fv_41_12, fv_41_13, fv_41_14, ly_41_14, fv_41_15, fv_41_16, fv_41_17, fv_41_18, fv_41_19, fv_41_20, fv_41_21, fv_41_22, ly_41_22, fv_41_23, ly_41_23, fv_41_24, ly_41_24, fv_41_25, ly_41_25, fv_41_26, ly_41_26, rd_42, al_42, rd_43, al_43, rd_44, al_44, rd_45, al_45, rd_46, al_46, rd_47, al_47, rd_48, al_48, rd_49, al_49, rd_50, al_50, rd_51, al_51, rd_52, al_52, rd_53, al_53, rd_54, al_54, rd_55, al_55, lck_0, lck_i, lck_r, lck_n, lck_l, csum_0, csum_i, csum_r, csum_l, pops_0, pops_s, psh_n, psh_s, List.getElem?_cons_zero, List.getElem?_cons_succ, List.set_cons_zero, List.set_cons_succ, true_and, and_true, Nat.reduceAdd, Nat.reduceLeDiff, v47, e2]
  exact ⟨e1, hQ⟩
def S6_becomes : Sp := fun av h Q => match av with | [.ref m, .int a, .int v] => m = 41 ∧ (0 ≤ a ∧ a < 47) ∧ Q (some (.int (h 42 (ix a)))) (up2 h 42 (ix a) v) | _ => False
theorem rn6_becomes {h : Hp} {Q : Po} {m : Nat} {a : Int32} {v : Int32} (hS : S6_becomes [.ref m, .int a, .int v] h Q) : Rn (T6_becomes Q) (0, [some (.ref m), some (.int a), some (.int v), none], [], h) := by
  obtain ⟨rfl, ha, hQ⟩ := hS
  refine Rn_in C6_becomes 60 ?_
  simp only [x6_becomes_0, x6_becomes_1, x6_becomes_4, x6_becomes_5, x6_becomes_6, x6_becomes_7, x6_becomes_8, x6_becomes_11, x6_becomes_12, x6_becomes_13, x6_becomes_14, x6_becomes_15, i_ald, i_get, i_iald, i_iast, i_ild, i_iret, i_ist, oc_41, fv_41_0, fv_41_1, fv_41_2, fv_41_3, fv_41_4, ly_41_4, fv_41_5, fv_41_6, ly_41_6, fv_41_7, ly_41_7, fv_41_8, ly_41_8, fv_41_9, ly_41_9, fv_41_10, ly_41_10, fv_41_11, ly_41_11, fv_41_12, fv_41_13, fv_41_14, ly_41_14, fv_41_15, fv_41_16, fv_41_17, fv_41_18, fv_41_19, fv_41_20, fv_41_21, fv_41_22, ly_41_22, fv_41_23, ly_41_23, fv_41_24, ly_41_24, fv_41_25, ly_41_25, fv_41_26, ly_41_26, rd_42, al_42, rd_43, al_43, rd_44, al_44, rd_45, al_45, rd_46, al_46, rd_47, al_47, rd_48, al_48, rd_49, al_49, rd_50, al_50, rd_51, al_51, rd_52, al_52, rd_53, al_53, rd_54, al_54, rd_55, al_55, lck_0, lck_i, lck_r, lck_n, lck_l, csum_0, csum_i, csum_r, csum_l, pops_0, pops_s, psh_n, psh_s, List.getElem?_cons_zero, List.getElem?_cons_succ, List.set_cons_zero, List.set_cons_succ, true_and, and_true, Nat.reduceAdd, Nat.reduceLeDiff, v47]
  exact ⟨ha, ha, hQ⟩
def S6_within : Sp := fun av h Q => match av with | [.int v] => Q (some (.int (clp v))) h | _ => False
theorem rn6_within {h : Hp} {Q : Po} {v : Int32} (hS : S6_within [.int v] h Q) : Rn (T6_within Q) (0, [some (.int v)], [], h) := by
  refine Rn_in C6_within 60 ?_
  simp only [S6_within, clp] at hS
  simp only [x6_within_0, x6_within_1, x6_within_4, x6_within_5, x6_within_8, x6_within_9, x6_within_11, x6_within_14, x6_within_16, x6_within_19, x6_within_20, i_goto, i_ic, i_ic_le, i_if_ge, i_ild, i_iret, oc_41, fv_41_0, fv_41_1, fv_41_2, fv_41_3, fv_41_4, ly_41_4, fv_41_5, fv_41_6, ly_41_6, fv_41_7, ly_41_7, fv_41_8, ly_41_8, fv_41_9, ly_41_9, fv_41_10, ly_41_10, fv_41_11, ly_41_11, fv_41_12, fv_41_13, fv_41_14, ly_41_14, fv_41_15, fv_41_16, fv_41_17, fv_41_18, fv_41_19, fv_41_20, fv_41_21, fv_41_22, ly_41_22, fv_41_23, ly_41_23, fv_41_24, ly_41_24, fv_41_25, ly_41_25, fv_41_26, ly_41_26, rd_42, al_42, rd_43, al_43, rd_44, al_44, rd_45, al_45, rd_46, al_46, rd_47, al_47, rd_48, al_48, rd_49, al_49, rd_50, al_50, rd_51, al_51, rd_52, al_52, rd_53, al_53, rd_54, al_54, rd_55, al_55, lck_0, lck_i, lck_r, lck_n, lck_l, csum_0, csum_i, csum_r, csum_l, pops_0, pops_s, psh_n, psh_s, List.getElem?_cons_zero, List.getElem?_cons_succ, List.set_cons_zero, List.set_cons_succ, true_and, and_true, Nat.reduceAdd, Nat.reduceLeDiff]
  grind
def S6_orNone : Sp := fun av h Q => match av with | [.int v] => Q (some (.int (if 60 < v then -3 else v))) h | _ => False
theorem rn6_orNone {h : Hp} {Q : Po} {v : Int32} (hS : S6_orNone [.int v] h Q) : Rn (T6_orNone Q) (0, [some (.int v)], [], h) := by
  refine Rn_in C6_orNone 60 ?_
  simp only [S6_orNone] at hS
  simp only [x6_orNone_0, x6_orNone_1, x6_orNone_3, x6_orNone_6, x6_orNone_7, x6_orNone_10, x6_orNone_12, i_goto, i_ic, i_ic_gt, i_ild, i_iret, oc_41, fv_41_0, fv_41_1, fv_41_2, fv_41_3, fv_41_4, ly_41_4, fv_41_5, fv_41_6, ly_41_6, fv_41_7, ly_41_7, fv_41_8, ly_41_8, fv_41_9, ly_41_9, fv_41_10, ly_41_10, fv_41_11, ly_41_11, fv_41_12, fv_41_13, fv_41_14, ly_41_14, fv_41_15, fv_41_16, fv_41_17, fv_41_18, fv_41_19, fv_41_20, fv_41_21, fv_41_22, ly_41_22, fv_41_23, ly_41_23, fv_41_24, ly_41_24, fv_41_25, ly_41_25, fv_41_26, ly_41_26, rd_42, al_42, rd_43, al_43, rd_44, al_44, rd_45, al_45, rd_46, al_46, rd_47, al_47, rd_48, al_48, rd_49, al_49, rd_50, al_50, rd_51, al_51, rd_52, al_52, rd_53, al_53, rd_54, al_54, rd_55, al_55, lck_0, lck_i, lck_r, lck_n, lck_l, csum_0, csum_i, csum_r, csum_l, pops_0, pops_s, psh_n, psh_s, List.getElem?_cons_zero, List.getElem?_cons_succ, List.set_cons_zero, List.set_cons_succ, true_and, and_true, Nat.reduceAdd, Nat.reduceLeDiff]
  grind
def S6_isShort : Sp := fun av h Q => match av with | [.int v] => Q (some (.int (bIn v.toInt64 0 40))) h | _ => False
theorem rn6_isShort {h : Hp} {Q : Po} {v : Int32} (hS : S6_isShort [.int v] h Q) : Rn (T6_isShort Q S6_isIn) (0, [some (.int v)], [], h) := by
  refine Rn_in C6_isShort 60 ?_
  simp only [S6_isShort] at hS
  simp only [x6_isShort_0, x6_isShort_1, x6_isShort_2, x6_isShort_3, x6_isShort_6, x6_isShort_9, i_cS, i_i2l, i_ild, i_lc, i_zret, oc_41, fv_41_0, fv_41_1, fv_41_2, fv_41_3, fv_41_4, ly_41_4, fv_41_5, fv_41_6, ly_41_6, fv_41_7, ly_41_7, fv_41_8, ly_41_8, fv_41_9, ly_41_9, fv_41_10, ly_41_10, fv_41_11, ly_41_11, fv_41_12, fv_41_13, fv_41_14, ly_41_14, fv_41_15, fv_41_16, fv_41_17, fv_41_18, fv_41_19, fv_41_20, fv_41_21, fv_41_22, ly_41_22, fv_41_23, ly_41_23, fv_41_24, ly_41_24, fv_41_25, ly_41_25, fv_41_26, ly_41_26, rd_42, al_42, rd_43, al_43, rd_44, al_44, rd_45, al_45, rd_46, al_46, rd_47, al_47, rd_48, al_48, rd_49, al_49, rd_50, al_50, rd_51, al_51, rd_52, al_52, rd_53, al_53, rd_54, al_54, rd_55, al_55, lck_0, lck_i, lck_r, lck_n, lck_l, csum_0, csum_i, csum_r, csum_l, pops_0, pops_s, psh_n, psh_s, List.getElem?_cons_zero, List.getElem?_cons_succ, List.set_cons_zero, List.set_cons_succ, true_and, and_true, Nat.reduceAdd, Nat.reduceLeDiff, S6_isIn, bIn_01]
  exact hS
def S6_isSheet : Sp := fun av h Q => match av with | [.int v] => Q (some (.int (bIn v.toInt64 0 3))) h | _ => False
theorem rn6_isSheet {h : Hp} {Q : Po} {v : Int32} (hS : S6_isSheet [.int v] h Q) : Rn (T6_isSheet Q S6_isIn) (0, [some (.int v)], [], h) := by
  refine Rn_in C6_isSheet 60 ?_
  simp only [S6_isSheet] at hS
  simp only [x6_isSheet_0, x6_isSheet_1, x6_isSheet_2, x6_isSheet_3, x6_isSheet_6, x6_isSheet_9, i_cS, i_i2l, i_ild, i_lc, i_zret, oc_41, fv_41_0, fv_41_1, fv_41_2, fv_41_3, fv_41_4, ly_41_4, fv_41_5, fv_41_6, ly_41_6, fv_41_7, ly_41_7, fv_41_8, ly_41_8, fv_41_9, ly_41_9, fv_41_10, ly_41_10, fv_41_11, ly_41_11, fv_41_12, fv_41_13, fv_41_14, ly_41_14, fv_41_15, fv_41_16, fv_41_17, fv_41_18, fv_41_19, fv_41_20, fv_41_21, fv_41_22, ly_41_22, fv_41_23, ly_41_23, fv_41_24, ly_41_24, fv_41_25, ly_41_25, fv_41_26, ly_41_26, rd_42, al_42, rd_43, al_43, rd_44, al_44, rd_45, al_45, rd_46, al_46, rd_47, al_47, rd_48, al_48, rd_49, al_49, rd_50, al_50, rd_51, al_51, rd_52, al_52, rd_53, al_53, rd_54, al_54, rd_55, al_55, lck_0, lck_i, lck_r, lck_n, lck_l, csum_0, csum_i, csum_r, csum_l, pops_0, pops_s, psh_n, psh_s, List.getElem?_cons_zero, List.getElem?_cons_succ, List.set_cons_zero, List.set_cons_succ, true_and, and_true, Nat.reduceAdd, Nat.reduceLeDiff, S6_isIn, bIn_01]
  exact hS
def S6_isShelf : Sp := fun av h Q => match av with | [.int v] => Q (some (.int (bIn v.toInt64 0 3))) h | _ => False
theorem rn6_isShelf {h : Hp} {Q : Po} {v : Int32} (hS : S6_isShelf [.int v] h Q) : Rn (T6_isShelf Q S6_isIn) (0, [some (.int v)], [], h) := by
  refine Rn_in C6_isShelf 60 ?_
  simp only [S6_isShelf] at hS
  simp only [x6_isShelf_0, x6_isShelf_1, x6_isShelf_2, x6_isShelf_3, x6_isShelf_6, x6_isShelf_9, i_cS, i_i2l, i_ild, i_lc, i_zret, oc_41, fv_41_0, fv_41_1, fv_41_2, fv_41_3, fv_41_4, ly_41_4, fv_41_5, fv_41_6, ly_41_6, fv_41_7, ly_41_7, fv_41_8, ly_41_8, fv_41_9, ly_41_9, fv_41_10, ly_41_10, fv_41_11, ly_41_11, fv_41_12, fv_41_13, fv_41_14, ly_41_14, fv_41_15, fv_41_16, fv_41_17, fv_41_18, fv_41_19, fv_41_20, fv_41_21, fv_41_22, ly_41_22, fv_41_23, ly_41_23, fv_41_24, ly_41_24, fv_41_25, ly_41_25, fv_41_26, ly_41_26, rd_42, al_42, rd_43, al_43, rd_44, al_44, rd_45, al_45, rd_46, al_46, rd_47, al_47, rd_48, al_48, rd_49, al_49, rd_50, al_50, rd_51, al_51, rd_52, al_52, rd_53, al_53, rd_54, al_54, rd_55, al_55, lck_0, lck_i, lck_r, lck_n, lck_l, csum_0, csum_i, csum_r, csum_l, pops_0, pops_s, psh_n, psh_s, List.getElem?_cons_zero, List.getElem?_cons_succ, List.set_cons_zero, List.set_cons_succ, true_and, and_true, Nat.reduceAdd, Nat.reduceLeDiff, S6_isIn, bIn_01]
  exact hS
def cp47 (f g : Nat → Int32) (k : Nat) : Int32 := if k < 47 then f k else g k
def RW (f t : Nat) : Prop := (f = 42 ∧ t = 44) ∨ (f = 44 ∧ t = 42) ∨ (f = 42 ∧ t = 45) ∨ (f = 45 ∧ t = 42)
def S6_copyRow : Sp := fun av h Q => match av with | [.ref f, .ref t] => RW f t ∧ Q none (upA h t (cp47 (h f) (h t))) | _ => False
def cpj (f g : Nat → Int32) (j k : Nat) : Int32 := if k < j then f k else g k
theorem cpj_up (h : Hp) {f t j : Nat} (hft : f ≠ t) : up2 (upA h t (cpj (h f) (h t) j)) t j (upA h t (cpj (h f) (h t) j) f j) = upA h t (cpj (h f) (h t) (j + 1)) := by
  funext p k
  simp only [up2, upA, cpj, hft, if_false]
  grind
theorem lp6_copyRow {h : Hp} {Q : Po} {f t : Nat} (hr : RW f t) (hQ : Q none (upA h t (cp47 (h f) (h t)))) : ∀ d j, d + j = 47 → Rn (T6_copyRow Q) (2, [some (.ref f), some (.ref t), some (.int (nI j))], [], upA h t (cpj (h f) (h t) j))
  | 0, j, e => by
    have e : j = 47 := by omega
    subst e
    refine Rn_go C6_copyRow 60 ?_
    simp only [x6_copyRow_0, x6_copyRow_1, k6_copyRow_2, t6_copyRow_2, x6_copyRow_3, x6_copyRow_5, x6_copyRow_8, x6_copyRow_9, x6_copyRow_10, x6_copyRow_11, x6_copyRow_12, x6_copyRow_13, x6_copyRow_14, x6_copyRow_17, x6_copyRow_20, i_ald, i_goto, i_iald, i_iast, i_ic, i_ic_ge, i_ild, i_inc, i_ist, i_vret, oc_41, fv_41_0, fv_41_1, fv_41_2, fv_41_3, fv_41_4, ly_41_4, fv_41_5, fv_41_6, ly_41_6, fv_41_7, ly_41_7, fv_41_8, ly_41_8, fv_41_9, ly_41_9, fv_41_10, ly_41_10, fv_41_11, ly_41_11, fv_41_12, fv_41_13, fv_41_14, ly_41_14, fv_41_15, fv_41_16, fv_41_17, fv_41_18, fv_41_19, fv_41_20, fv_41_21, fv_41_22, ly_41_22, fv_41_23, ly_41_23, fv_41_24, ly_41_24, fv_41_25, ly_41_25, fv_41_26, ly_41_26, rd_42, al_42, rd_43, al_43, rd_44, al_44, rd_45, al_45, rd_46, al_46, rd_47, al_47, rd_48, al_48, rd_49, al_49, rd_50, al_50, rd_51, al_51, rd_52, al_52, rd_53, al_53, rd_54, al_54, rd_55, al_55, lck_0, lck_i, lck_r, lck_n, lck_l, csum_0, csum_i, csum_r, csum_l, pops_0, pops_s, psh_n, psh_s, List.getElem?_cons_zero, List.getElem?_cons_succ, List.set_cons_zero, List.set_cons_succ, true_and, and_true, Nat.reduceAdd, Nat.reduceLeDiff]
    exact ⟨fun _ => hQ, fun c => absurd (by decide) c⟩
  | d + 1, j, e => by
    have ih := lp6_copyRow hr hQ d (j + 1) (by omega)
    rw [← nI_1] at ih
    have hj : 0 ≤ nI j ∧ nI j < 47 := ⟨nI_pos' (by omega), nI_lt (b := 47) (by omega) (by decide)⟩
    have hlt : ¬ 47 ≤ nI j := Int32.not_le.mpr hj.2
    have hx : (nI j).toNatClampNeg = j := ix_nI (by omega)
    have hft : f ≠ t := by rcases hr with ⟨rfl, rfl⟩ | ⟨rfl, rfl⟩ | ⟨rfl, rfl⟩ | ⟨rfl, rfl⟩ <;> decide
    rw [← cpj_up h hft] at ih
    rcases hr with ⟨rfl, rfl⟩ | ⟨rfl, rfl⟩ | ⟨rfl, rfl⟩ | ⟨rfl, rfl⟩
    all_goals
      refine Rn_go C6_copyRow 60 ?_
      simp only [x6_copyRow_0, x6_copyRow_1, k6_copyRow_2, t6_copyRow_2, x6_copyRow_3, x6_copyRow_5, x6_copyRow_8, x6_copyRow_9, x6_copyRow_10, x6_copyRow_11, x6_copyRow_12, x6_copyRow_13, x6_copyRow_14, x6_copyRow_17, x6_copyRow_20, i_ald, i_goto, i_iald, i_iast, i_ic, i_ic_ge, i_ild, i_inc, i_ist, i_vret, rd_42, al_42, rd_43, al_43, rd_44, al_44, rd_45, al_45, lck_0, lck_i, lck_r, lck_n, lck_l, csum_0, csum_i, csum_r, csum_l, pops_0, pops_s, psh_n, psh_s, List.getElem?_cons_zero, List.getElem?_cons_succ, List.set_cons_zero, List.set_cons_succ, true_and, and_true, Nat.reduceAdd, Nat.reduceLeDiff, v47, hx]
      exact ⟨fun c => absurd c hlt, fun _ => ⟨hj, hj, ih⟩⟩
theorem rn6_copyRow {h : Hp} {Q : Po} {f : Nat} {t : Nat} (hS : S6_copyRow [.ref f, .ref t] h Q) : Rn (T6_copyRow Q) (0, [some (.ref f), some (.ref t), none], [], h) := by
  obtain ⟨hr, hQ⟩ := hS
  have := lp6_copyRow hr hQ 47 0 (by omega)
  have e : upA h t (cpj (h f) (h t) 0) = h := by
    funext p k
    simp only [upA, cpj]
    grind
  rw [e] at this
  refine Rn_in C6_copyRow 60 ?_
  simp only [x6_copyRow_0, x6_copyRow_1, k6_copyRow_2, t6_copyRow_2, x6_copyRow_3, x6_copyRow_5, x6_copyRow_8, x6_copyRow_9, x6_copyRow_10, x6_copyRow_11, x6_copyRow_12, x6_copyRow_13, x6_copyRow_14, x6_copyRow_17, x6_copyRow_20, i_ald, i_goto, i_iald, i_iast, i_ic, i_ic_ge, i_ild, i_inc, i_ist, i_vret, rd_42, al_42, rd_43, al_43, rd_44, al_44, rd_45, al_45, lck_0, lck_i, lck_r, lck_n, lck_l, csum_0, csum_i, csum_r, csum_l, pops_0, pops_s, psh_n, psh_s, List.getElem?_cons_zero, List.getElem?_cons_succ, List.set_cons_zero, List.set_cons_succ, true_and, and_true, Nat.reduceAdd, Nat.reduceLeDiff]
  exact this
def S6_size : Sp := fun av h Q => match av with | [.int x] => (0 ≤ x ∧ x < 256) ∧ Q (some (.int (pc8 x))) h | _ => False
def pcn (n : Nat) : Nat := (List.range 8).countP (fun j => n.testBit j)
theorem pc_step : ∀ n, n < 256 → n ≠ 0 → (nI n &&& (nI n - 1) = nI (n &&& (n - 1)) ∧ (n &&& (n - 1)) < 256 ∧ pcn (n &&& (n - 1)) + 1 = pcn n) := by decide +kernel
theorem pc_is : ∀ n, n < 256 → pc8 (nI n) = nI (pcn n) := by decide +kernel
theorem pcn_le : ∀ n, n < 256 → pcn n ≤ 8 := by decide +kernel
theorem pcn_0 : pcn 0 = 0 := by decide
theorem lp6_size {h : Hp} {Q : Po} {x0 : Int32} {T : Nat} (hQ : Q (some (.int (nI T))) h) : ∀ d n, n < 256 → pcn n = d → d ≤ T → Rn (T6_size Q) (4, [some (.int x0), some (.int (nI (T - d))), some (.int (nI n))], [], h) := by
  intro d
  induction d with
  | zero =>
    intro n hn hp hT
    have e : n = 0 := by
      by_cases z : n = 0
      · exact z
      · have := (pc_step n hn z).2.2
        omega
    subst e
    refine Rn_go C6_size 60 ?_
    simp only [x6_size_0, x6_size_1, x6_size_2, x6_size_3, k6_size_4, t6_size_4, x6_size_5, x6_size_8, x6_size_11, x6_size_12, x6_size_13, x6_size_14, x6_size_15, x6_size_16, x6_size_17, x6_size_20, x6_size_21, i_goto, i_iand, i_ic, i_if_eq, i_ild, i_inc, i_iret, i_ist, i_isub, oc_41, fv_41_0, fv_41_1, fv_41_2, fv_41_3, fv_41_4, ly_41_4, fv_41_5, fv_41_6, ly_41_6, fv_41_7, ly_41_7, fv_41_8, ly_41_8, fv_41_9, ly_41_9, fv_41_10, ly_41_10, fv_41_11, ly_41_11, fv_41_12, fv_41_13, fv_41_14, ly_41_14, fv_41_15, fv_41_16, fv_41_17, fv_41_18, fv_41_19, fv_41_20, fv_41_21, fv_41_22, ly_41_22, fv_41_23, ly_41_23, fv_41_24, ly_41_24, fv_41_25, ly_41_25, fv_41_26, ly_41_26, rd_42, al_42, rd_43, al_43, rd_44, al_44, rd_45, al_45, rd_46, al_46, rd_47, al_47, rd_48, al_48, rd_49, al_49, rd_50, al_50, rd_51, al_51, rd_52, al_52, rd_53, al_53, rd_54, al_54, rd_55, al_55, lck_0, lck_i, lck_r, lck_n, lck_l, csum_0, csum_i, csum_r, csum_l, pops_0, pops_s, psh_n, psh_s, List.getElem?_cons_zero, List.getElem?_cons_succ, List.set_cons_zero, List.set_cons_succ, true_and, and_true, Nat.reduceAdd, Nat.reduceLeDiff]
    exact ⟨fun _ => hQ, fun c => absurd (by decide) c⟩
  | succ d ih =>
    intro n hn hp hT
    have z : n ≠ 0 := by intro z; subst z; rw [pcn_0] at hp; omega
    obtain ⟨a, b, c⟩ := pc_step n hn z
    have := ih (n &&& (n - 1)) b (by omega) (by omega)
    rw [← a, show T - d = (T - (d + 1)) + 1 by omega, ← nI_1] at this
    have hz : ¬ nI n = 0 := nI_ne0 (by omega) (by omega)
    refine Rn_go C6_size 60 ?_
    simp only [x6_size_0, x6_size_1, x6_size_2, x6_size_3, k6_size_4, t6_size_4, x6_size_5, x6_size_8, x6_size_11, x6_size_12, x6_size_13, x6_size_14, x6_size_15, x6_size_16, x6_size_17, x6_size_20, x6_size_21, i_goto, i_iand, i_ic, i_if_eq, i_ild, i_inc, i_iret, i_ist, i_isub, oc_41, fv_41_0, fv_41_1, fv_41_2, fv_41_3, fv_41_4, ly_41_4, fv_41_5, fv_41_6, ly_41_6, fv_41_7, ly_41_7, fv_41_8, ly_41_8, fv_41_9, ly_41_9, fv_41_10, ly_41_10, fv_41_11, ly_41_11, fv_41_12, fv_41_13, fv_41_14, ly_41_14, fv_41_15, fv_41_16, fv_41_17, fv_41_18, fv_41_19, fv_41_20, fv_41_21, fv_41_22, ly_41_22, fv_41_23, ly_41_23, fv_41_24, ly_41_24, fv_41_25, ly_41_25, fv_41_26, ly_41_26, rd_42, al_42, rd_43, al_43, rd_44, al_44, rd_45, al_45, rd_46, al_46, rd_47, al_47, rd_48, al_48, rd_49, al_49, rd_50, al_50, rd_51, al_51, rd_52, al_52, rd_53, al_53, rd_54, al_54, rd_55, al_55, lck_0, lck_i, lck_r, lck_n, lck_l, csum_0, csum_i, csum_r, csum_l, pops_0, pops_s, psh_n, psh_s, List.getElem?_cons_zero, List.getElem?_cons_succ, List.set_cons_zero, List.set_cons_succ, true_and, and_true, Nat.reduceAdd, Nat.reduceLeDiff]
    exact ⟨fun c => absurd c hz, fun _ => this⟩
theorem rn6_size {h : Hp} {Q : Po} {x : Int32} (hS : S6_size [.int x] h Q) : Rn (T6_size Q) (0, [some (.int x), none, none], [], h) := by
  obtain ⟨⟨h0, h1⟩, hQ⟩ := hS
  obtain ⟨n, hn, rfl⟩ := of256 h0 h1
  rw [pc_is n hn] at hQ
  have := lp6_size (x0 := nI n) hQ (pcn n) n hn rfl (Nat.le_refl _)
  rw [Nat.sub_self] at this
  refine Rn_in C6_size 60 ?_
  simp only [x6_size_0, x6_size_1, x6_size_2, x6_size_3, k6_size_4, t6_size_4, x6_size_5, x6_size_8, x6_size_11, x6_size_12, x6_size_13, x6_size_14, x6_size_15, x6_size_16, x6_size_17, x6_size_20, x6_size_21, i_goto, i_iand, i_ic, i_if_eq, i_ild, i_inc, i_iret, i_ist, i_isub, oc_41, fv_41_0, fv_41_1, fv_41_2, fv_41_3, fv_41_4, ly_41_4, fv_41_5, fv_41_6, ly_41_6, fv_41_7, ly_41_7, fv_41_8, ly_41_8, fv_41_9, ly_41_9, fv_41_10, ly_41_10, fv_41_11, ly_41_11, fv_41_12, fv_41_13, fv_41_14, ly_41_14, fv_41_15, fv_41_16, fv_41_17, fv_41_18, fv_41_19, fv_41_20, fv_41_21, fv_41_22, ly_41_22, fv_41_23, ly_41_23, fv_41_24, ly_41_24, fv_41_25, ly_41_25, fv_41_26, ly_41_26, rd_42, al_42, rd_43, al_43, rd_44, al_44, rd_45, al_45, rd_46, al_46, rd_47, al_47, rd_48, al_48, rd_49, al_49, rd_50, al_50, rd_51, al_51, rd_52, al_52, rd_53, al_53, rd_54, al_54, rd_55, al_55, lck_0, lck_i, lck_r, lck_n, lck_l, csum_0, csum_i, csum_r, csum_l, pops_0, pops_s, psh_n, psh_s, List.getElem?_cons_zero, List.getElem?_cons_succ, List.set_cons_zero, List.set_cons_succ, true_and, and_true, Nat.reduceAdd, Nat.reduceLeDiff]
  exact this
