/-! pairs: rows -/
theorem rw_ix : ∀ a, a < 10 → ∀ t, t < 3 → (nI a * 3 + nI t = nI (3 * a + t) ∧ 3 * nI a + nI t = nI (3 * a + t)) := by decide
theorem rw_ix3 : ∀ a, a < 10 → (3 * nI a = nI (3 * a) ∧ nI (3 * a) + 1 = nI (3 * a + 1) ∧ nI (3 * a) + 2 = nI (3 * a + 2)) := by decide
theorem n30 {c : Nat} (h : c < 30) : (0 ≤ nI c ∧ nI c < 30) ∧ (nI c).toNatClampNeg = c := ⟨⟨nI_pos' (by omega), nI_lt (b := 30) (by omega) (by decide)⟩, ix_nI (by omega)⟩
def rpB (n i t : Int32) : Int32 := if (0 ≤ i ∧ i < n) ∧ (0 ≤ t ∧ t < 3) then 1 else 0
theorem rpB_0 (n i t : Int32) : (rpB n i t = 0) = ¬ ((0 ≤ i ∧ i < n) ∧ (0 ≤ t ∧ t < 3)) := by unfold rpB; split <;> simp_all
def S5_isRowPart : Sp := fun av h Q => match av with | [.ref x, .int i, .int t] => x = 0 ∧ Q (some (.int (rpB (h 0 6) i t))) h | _ => False
theorem rn5_isRowPart {h : Hp} {Q : Po} {x : Nat} {i : Int32} {t : Int32} (hS : S5_isRowPart [.ref x, .int i, .int t] h Q) : Rn (T5_isRowPart Q) (0, [some (.ref x), some (.int i), some (.int t)], [], h) := by
  obtain ⟨rfl, hQ⟩ := hS
  simp only [rpB] at hQ
  refine Rn_in C5_isRowPart 60 ?_
  simp only [x5_isRowPart_0, x5_isRowPart_1, x5_isRowPart_4, x5_isRowPart_5, x5_isRowPart_6, x5_isRowPart_9, x5_isRowPart_12, x5_isRowPart_13, x5_isRowPart_16, x5_isRowPart_17, x5_isRowPart_18, x5_isRowPart_21, x5_isRowPart_22, x5_isRowPart_25, x5_isRowPart_26, i_ald, i_get, i_goto, i_ic, i_ic_ge, i_if_lt, i_ild, i_zret, oc_0, fv_0_0, fv_0_1, fv_0_2, fv_0_3, ly_0_3, fv_0_4, fv_0_5, fv_0_6, ly_0_6, fv_0_7, fv_0_8, fv_0_9, oc_1, fv_1_0, fv_1_1, fv_1_2, fv_1_3, fv_1_4, fv_1_5, fv_1_6, ly_1_6, fv_1_7, ly_1_7, fv_1_8, ly_1_8, rd_2, al_2, rd_3, al_3, rd_4, al_4, rd_5, al_5, rd_6, al_6, rd_7, al_7, lck_0, lck_i, lck_r, lck_n, lck_l, csum_0, csum_i, csum_r, csum_l, pops_0, pops_s, psh_n, psh_s, List.getElem?_cons_zero, List.getElem?_cons_succ, List.set_cons_zero, List.set_cons_succ, true_and, and_true, Nat.reduceAdd, Nat.reduceLeDiff, l01_0, l01_1, or_true, true_or]
  grind
def S6_isRow : Sp := fun av h Q => match av with | [.ref x, .int i, .int t] => x = 41 ∧ (0 ≤ h 41 14 ∧ h 41 14 ≤ 10) ∧ Q (some (.int (rpB (h 41 14) i t))) h | _ => False
theorem i64c (a b : Int32) : ((0 : Int64) ≤ a.toInt64 ∧ a.toInt64 ≤ b.toInt64) = (0 ≤ a ∧ a ≤ b) := by
  rw [lo_0, l64le]
theorem rn6_isRow {h : Hp} {Q : Po} {x : Nat} {i : Int32} {t : Int32} (hS : S6_isRow [.ref x, .int i, .int t] h Q) : Rn (T6_isRow Q S6_isIn) (0, [some (.ref x), some (.int i), some (.int t)], [], h) := by
  obtain ⟨rfl, hn, hQ⟩ := hS
  simp only [rpB] at hQ
  have e1 : ∀ x : Int32, x ≤ h 41 14 - 1 ↔ x < h 41 14 := fun x => by
    have := hn.1; have := hn.2
    grind
  have e2 : t ≤ 2 ↔ t < 3 := by grind
  refine Rn_in C6_isRow 60 ?_
  simp only [x6_isRow_0, x6_isRow_1, x6_isRow_2, x6_isRow_3, x6_isRow_4, x6_isRow_7, x6_isRow_8, x6_isRow_9, x6_isRow_10, x6_isRow_13, x6_isRow_16, x6_isRow_17, x6_isRow_18, x6_isRow_19, x6_isRow_22, x6_isRow_25, x6_isRow_28, x6_isRow_29, x6_isRow_32, x6_isRow_33, i_ald, i_cS, i_get, i_goto, i_i2l, i_ic, i_if_eq, i_ild, i_isub, i_lc, i_zret, oc_41, fv_41_0, fv_41_1, fv_41_2, fv_41_3, fv_41_4, ly_41_4, fv_41_5, fv_41_6, ly_41_6, fv_41_7, ly_41_7, fv_41_8, ly_41_8, fv_41_9, ly_41_9, fv_41_10, ly_41_10, fv_41_11, ly_41_11, fv_41_12, fv_41_13, fv_41_14, ly_41_14, fv_41_15, fv_41_16, fv_41_17, fv_41_18, fv_41_19, fv_41_20, fv_41_21, fv_41_22, ly_41_22, fv_41_23, ly_41_23, fv_41_24, ly_41_24, fv_41_25, ly_41_25, fv_41_26, ly_41_26, rd_42, al_42, rd_43, al_43, rd_44, al_44, rd_45, al_45, rd_46, al_46, rd_47, al_47, rd_48, al_48, rd_49, al_49, rd_50, al_50, rd_51, al_51, rd_52, al_52, rd_53, al_53, rd_54, al_54, rd_55, al_55, lck_0, lck_i, lck_r, lck_n, lck_l, csum_0, csum_i, csum_r, csum_l, pops_0, pops_s, psh_n, psh_s, List.getElem?_cons_zero, List.getElem?_cons_succ, List.set_cons_zero, List.set_cons_succ, true_and, and_true, Nat.reduceAdd, Nat.reduceLeDiff, S6_isIn, bIn_0, l64le, lo_0, hi_2, l01_0, l01_1, or_true, true_or]
  grind
theorem of3 {t : Int32} (h : 0 ≤ t ∧ t < 3) : ∃ m, m < 3 ∧ t = nI m := by
  obtain ⟨k, a, b⟩ := vp_in_of (vpi (n := 3) (by decide) h.1 h.2) (by decide)
  exact ⟨k, a, b⟩
theorem of10 {n i : Int32} (h : 0 ≤ i ∧ i < n) (hn : n ≤ 10) : ∃ m, m < 10 ∧ i = nI m ∧ m < ix n := by
  obtain ⟨k, a, b⟩ := vp_in_of (vpi (n := 10) (by decide) h.1 (Int32.lt_of_lt_of_le h.2 hn)) (by decide)
  refine ⟨k, a, b, ?_⟩
  have := ix_lt (i := i) (n := ix n) h.1 (by rw [nI_ix (Int32.le_trans h.1 (Int32.le_of_lt h.2))]; exact h.2) (by
    have := ix_lt (i := n) (n := 11) (Int32.le_trans h.1 (Int32.le_of_lt h.2)) (by show n < (11 : Int32); grind) (by decide)
    omega)
  rw [b, ix_nI (by omega)] at this
  exact this
def S5_row : Sp := fun av h Q => match av with | [.ref x, .int i, .int t] => wpn (T5_row Q S5_isRowPart) C5_row 250 (fun _ => False) (0, [some (.ref x), some (.int i), some (.int t)], [], h) | _ => False
theorem rn5_row {h : Hp} {Q : Po} {x : Nat} {i : Int32} {t : Int32} (hS : S5_row [.ref x, .int i, .int t] h Q) : Rn (T5_row Q S5_isRowPart) (0, [some (.ref x), some (.int i), some (.int t)], [], h) := Rn_wp (C := C5_row) (K := fun _ => False) (fun _ h => False.elim h) 250 _ hS
def S6_row : Sp := fun av h Q => match av with | [.ref x, .int i, .int t] => wpn (T6_row Q S6_isRow) C6_row 250 (fun _ => False) (0, [some (.ref x), some (.int i), some (.int t)], [], h) | _ => False
theorem rn6_row {h : Hp} {Q : Po} {x : Nat} {i : Int32} {t : Int32} (hS : S6_row [.ref x, .int i, .int t] h Q) : Rn (T6_row Q S6_isRow) (0, [some (.ref x), some (.int i), some (.int t)], [], h) := Rn_wp (C := C6_row) (K := fun _ => False) (fun _ h => False.elim h) 250 _ hS
def S5_alterRow : Sp := fun av h Q => match av with | [.ref x, .int i, .int t, .int v] => wpn (T5_alterRow Q S5_isRowPart) C5_alterRow 250 (fun _ => False) (0, [some (.ref x), some (.int i), some (.int t), some (.int v), none], [], h) | _ => False
theorem rn5_alterRow {h : Hp} {Q : Po} {x : Nat} {i : Int32} {t : Int32} {v : Int32} (hS : S5_alterRow [.ref x, .int i, .int t, .int v] h Q) : Rn (T5_alterRow Q S5_isRowPart) (0, [some (.ref x), some (.int i), some (.int t), some (.int v), none], [], h) := Rn_wp (C := C5_alterRow) (K := fun _ => False) (fun _ h => False.elim h) 250 _ hS
def S6_alterRow : Sp := fun av h Q => match av with | [.ref x, .int i, .int t, .int v] => wpn (T6_alterRow Q S6_isRow) C6_alterRow 250 (fun _ => False) (0, [some (.ref x), some (.int i), some (.int t), some (.int v), none], [], h) | _ => False
theorem rn6_alterRow {h : Hp} {Q : Po} {x : Nat} {i : Int32} {t : Int32} {v : Int32} (hS : S6_alterRow [.ref x, .int i, .int t, .int v] h Q) : Rn (T6_alterRow Q S6_isRow) (0, [some (.ref x), some (.int i), some (.int t), some (.int v), none], [], h) := Rn_wp (C := C6_alterRow) (K := fun _ => False) (fun _ h => False.elim h) 250 _ hS
theorem pr_row {h : Hp} (r : Rel h) (i : Int32) (t : Int32) : S5_row [.ref 0, .int i, .int t] h (fun rv h1 => S6_row [.ref 41, .int i, .int t] h1 (fun rw h2 => rw = rv ∧ Rel h2)) := by
  have e6 : h 0 6 = h 41 14 := r.2.2.2.1.1
  have b6 := r.2.2.2.1.2.1
  have b14 := b6
  rw [e6] at b14
  by_cases c : (0 ≤ i ∧ i < h 41 14) ∧ (0 ≤ t ∧ t < 3)
  · obtain ⟨a, a1, rfl, a3⟩ := of10 c.1 b14.2
    obtain ⟨s, s1, rfl⟩ := of3 c.2
    obtain ⟨x1, x2⟩ := rw_ix a a1 s s1
    obtain ⟨y1, y2⟩ := n30 (c := 3 * a + s) (by omega)
    have eq := r.2.2.2.1.2.2 (3 * a + s) (by rw [e6]; omega)
    have d := c.1
    have d2 := c.2
    simp only [x5_row_0, x5_row_1, x5_row_2, x5_row_3, x5_row_6, x5_row_9, x5_row_10, x5_row_13, x5_row_14, x5_row_15, x5_row_16, x5_row_17, x5_row_18, x5_row_19, x5_row_22, x5_row_24, i_ald, i_cV, i_get, i_goto, i_iadd, i_iald, i_ic, i_if_eq, i_ild, i_imul, i_iret, oc_0, fv_0_0, fv_0_1, fv_0_2, fv_0_3, ly_0_3, fv_0_4, fv_0_5, fv_0_6, ly_0_6, fv_0_7, fv_0_8, fv_0_9, oc_1, fv_1_0, fv_1_1, fv_1_2, fv_1_3, fv_1_4, fv_1_5, fv_1_6, ly_1_6, fv_1_7, ly_1_7, fv_1_8, ly_1_8, rd_2, al_2, rd_3, al_3, rd_4, al_4, rd_5, al_5, rd_6, al_6, rd_7, al_7, rd_24, al_24, x6_row_0, x6_row_1, x6_row_2, x6_row_3, x6_row_6, x6_row_9, x6_row_10, x6_row_13, x6_row_14, x6_row_15, x6_row_16, x6_row_17, x6_row_18, x6_row_19, x6_row_22, x6_row_24, oc_41, fv_41_0, fv_41_1, fv_41_2, fv_41_3, fv_41_4, ly_41_4, fv_41_5, fv_41_6, ly_41_6, fv_41_7, ly_41_7, fv_41_8, ly_41_8, fv_41_9, ly_41_9, fv_41_10, ly_41_10, fv_41_11, ly_41_11, fv_41_12, fv_41_13, fv_41_14, ly_41_14, fv_41_15, fv_41_16, fv_41_17, fv_41_18, fv_41_19, fv_41_20, fv_41_21, fv_41_22, ly_41_22, fv_41_23, ly_41_23, fv_41_24, ly_41_24, fv_41_25, ly_41_25, fv_41_26, ly_41_26, rd_42, al_42, rd_43, al_43, rd_44, al_44, rd_45, al_45, rd_46, al_46, rd_47, al_47, rd_48, al_48, rd_49, al_49, rd_50, al_50, rd_51, al_51, rd_52, al_52, rd_53, al_53, rd_54, al_54, rd_55, al_55, lck_0, lck_i, lck_r, lck_n, lck_l, csum_0, csum_i, csum_r, csum_l, pops_0, pops_s, psh_n, psh_s, List.getElem?_cons_zero, List.getElem?_cons_succ, List.set_cons_zero, List.set_cons_succ, true_and, and_true, Nat.reduceAdd, Nat.reduceLeDiff, S5_row, S6_row, S5_isRowPart, S6_isRow, rpB_0, e6, d, d2, b14, v30, x1, x2, y1, y2, nn, false_implies, true_implies, implies_true, not_true_eq_false, not_false_eq_true, eq_self]
    exact ⟨by rw [eq], r⟩
  · simp only [x5_row_0, x5_row_1, x5_row_2, x5_row_3, x5_row_6, x5_row_9, x5_row_10, x5_row_13, x5_row_14, x5_row_15, x5_row_16, x5_row_17, x5_row_18, x5_row_19, x5_row_22, x5_row_24, i_ald, i_cV, i_get, i_goto, i_iadd, i_iald, i_ic, i_if_eq, i_ild, i_imul, i_iret, oc_0, fv_0_0, fv_0_1, fv_0_2, fv_0_3, ly_0_3, fv_0_4, fv_0_5, fv_0_6, ly_0_6, fv_0_7, fv_0_8, fv_0_9, oc_1, fv_1_0, fv_1_1, fv_1_2, fv_1_3, fv_1_4, fv_1_5, fv_1_6, ly_1_6, fv_1_7, ly_1_7, fv_1_8, ly_1_8, rd_2, al_2, rd_3, al_3, rd_4, al_4, rd_5, al_5, rd_6, al_6, rd_7, al_7, rd_24, al_24, x6_row_0, x6_row_1, x6_row_2, x6_row_3, x6_row_6, x6_row_9, x6_row_10, x6_row_13, x6_row_14, x6_row_15, x6_row_16, x6_row_17, x6_row_18, x6_row_19, x6_row_22, x6_row_24, oc_41, fv_41_0, fv_41_1, fv_41_2, fv_41_3, fv_41_4, ly_41_4, fv_41_5, fv_41_6, ly_41_6, fv_41_7, ly_41_7, fv_41_8, ly_41_8, fv_41_9, ly_41_9, fv_41_10, ly_41_10, fv_41_11, ly_41_11, fv_41_12, fv_41_13, fv_41_14, ly_41_14, fv_41_15, fv_41_16, fv_41_17, fv_41_18, fv_41_19, fv_41_20, fv_41_21, fv_41_22, ly_41_22, fv_41_23, ly_41_23, fv_41_24, ly_41_24, fv_41_25, ly_41_25, fv_41_26, ly_41_26, rd_42, al_42, rd_43, al_43, rd_44, al_44, rd_45, al_45, rd_46, al_46, rd_47, al_47, rd_48, al_48, rd_49, al_49, rd_50, al_50, rd_51, al_51, rd_52, al_52, rd_53, al_53, rd_54, al_54, rd_55, al_55, lck_0, lck_i, lck_r, lck_n, lck_l, csum_0, csum_i, csum_r, csum_l, pops_0, pops_s, psh_n, psh_s, List.getElem?_cons_zero, List.getElem?_cons_succ, List.set_cons_zero, List.set_cons_succ, true_and, and_true, Nat.reduceAdd, Nat.reduceLeDiff, S5_row, S6_row, S5_isRowPart, S6_isRow, rpB_0, e6, c, b14, nn, false_implies, true_implies, implies_true, not_true_eq_false, not_false_eq_true, eq_self]
    exact r
theorem rowN {h : Hp} (r : Rel h) {c : Nat} {v : Int32} : Rel (up2 (up2 h 24 c v) 48 c v) := by
  obtain ⟨rg, rk, rt, rw2, rs, rh, rd⟩ := r
  have q : ∀ p, p ≠ 24 → p ≠ 48 → up2 (up2 h 24 c v) 48 c v p = h p := fun p h1 h2 => by rw [up2_ne h2, up2_ne h1]
  refine ⟨RG_s rg (fun p _ _ => q p (by omega) (by omega)) (q 42 (by omega) (by omega)), RK_s rk (fun p _ _ => q p (by omega) (by omega)) (q 43 (by omega) (by omega)) (by rw [q 0 (by omega) (by omega)]) (by rw [q 41 (by omega) (by omega)]), RT_s rt (by rw [q 22 (by omega) (by omega)]) (by rw [q 41 (by omega) (by omega)]) (q 23 (by omega) (by omega)) (q 46 (by omega) (by omega)), ?_, RS_s rs (fun p _ _ => q p (by omega) (by omega)) (q 49 (by omega) (by omega)) (q 50 (by omega) (by omega)) (q 51 (by omega) (by omega)), RH_s rh (fun p _ _ => q p (by omega) (by omega)) (q 52 (by omega) (by omega)) (q 53 (by omega) (by omega)) (q 54 (by omega) (by omega)), RD_s rd (by rw [q 39 (by omega) (by omega)]) (by rw [q 41 (by omega) (by omega)]) (q 40 (by omega) (by omega)) (q 55 (by omega) (by omega))⟩
  unfold RW2 at rw2 ⊢
  rw [q 0 (by omega) (by omega), q 41 (by omega) (by omega), up2_self, up2_ne (by decide), up2_self, up2_ne (by decide)]
  refine ⟨rw2.1, rw2.2.1, fun k hk => ?_⟩
  rw [upd_ap, upd_ap, rw2.2.2 k hk]
theorem pr_alterRow {h : Hp} (r : Rel h) (i : Int32) (t : Int32) (v : Int32) : S5_alterRow [.ref 0, .int i, .int t, .int v] h (fun rv h1 => S6_alterRow [.ref 41, .int i, .int t, .int v] h1 (fun rw h2 => rw = rv ∧ Rel h2)) := by
  have e6 : h 0 6 = h 41 14 := r.2.2.2.1.1
  have b6 := r.2.2.2.1.2.1
  have b14 := b6
  rw [e6] at b14
  by_cases c : (0 ≤ i ∧ i < h 41 14) ∧ (0 ≤ t ∧ t < 3)
  · obtain ⟨a, a1, rfl, a3⟩ := of10 c.1 b14.2
    obtain ⟨s, s1, rfl⟩ := of3 c.2
    obtain ⟨x1, x2⟩ := rw_ix a a1 s s1
    obtain ⟨y1, y2⟩ := n30 (c := 3 * a + s) (by omega)
    have eq := r.2.2.2.1.2.2 (3 * a + s) (by rw [e6]; omega)
    have d := c.1
    have d2 := c.2
    simp only [x5_alterRow_0, x5_alterRow_1, x5_alterRow_2, x5_alterRow_3, x5_alterRow_6, x5_alterRow_9, x5_alterRow_11, x5_alterRow_12, x5_alterRow_13, x5_alterRow_16, x5_alterRow_17, x5_alterRow_18, x5_alterRow_19, x5_alterRow_20, x5_alterRow_21, x5_alterRow_22, x5_alterRow_24, x5_alterRow_25, x5_alterRow_28, x5_alterRow_29, x5_alterRow_30, x5_alterRow_31, x5_alterRow_32, x5_alterRow_33, x5_alterRow_34, x5_alterRow_35, x5_alterRow_37, i_ald, i_cV, i_get, i_iadd, i_iald, i_iast, i_ic, i_if_ne, i_ild, i_imul, i_iret, i_ist, oc_0, fv_0_0, fv_0_1, fv_0_2, fv_0_3, ly_0_3, fv_0_4, fv_0_5, fv_0_6, ly_0_6, fv_0_7, fv_0_8, fv_0_9, oc_1, fv_1_0, fv_1_1, fv_1_2, fv_1_3, fv_1_4, fv_1_5, fv_1_6, ly_1_6, fv_1_7, ly_1_7, fv_1_8, ly_1_8, rd_2, al_2, rd_3, al_3, rd_4, al_4, rd_5, al_5, rd_6, al_6, rd_7, al_7, rd_24, al_24, x6_alterRow_0, x6_alterRow_1, x6_alterRow_2, x6_alterRow_3, x6_alterRow_6, x6_alterRow_9, x6_alterRow_11, x6_alterRow_12, x6_alterRow_13, x6_alterRow_16, x6_alterRow_17, x6_alterRow_18, x6_alterRow_19, x6_alterRow_20, x6_alterRow_21, x6_alterRow_22, x6_alterRow_24, x6_alterRow_25, x6_alterRow_28, x6_alterRow_29, x6_alterRow_30, x6_alterRow_31, x6_alterRow_32, x6_alterRow_33, x6_alterRow_34, x6_alterRow_35, x6_alterRow_37, oc_41, fv_41_0, fv_41_1, fv_41_2, fv_41_3, fv_41_4, ly_41_4, fv_41_5, fv_41_6, ly_41_6, fv_41_7, ly_41_7, fv_41_8, ly_41_8, fv_41_9, ly_41_9, fv_41_10, ly_41_10, fv_41_11, ly_41_11, fv_41_12, fv_41_13, fv_41_14, ly_41_14, fv_41_15, fv_41_16, fv_41_17, fv_41_18, fv_41_19, fv_41_20, fv_41_21, fv_41_22, ly_41_22, fv_41_23, ly_41_23, fv_41_24, ly_41_24, fv_41_25, ly_41_25, fv_41_26, ly_41_26, rd_42, al_42, rd_43, al_43, rd_44, al_44, rd_45, al_45, rd_46, al_46, rd_47, al_47, rd_48, al_48, rd_49, al_49, rd_50, al_50, rd_51, al_51, rd_52, al_52, rd_53, al_53, rd_54, al_54, rd_55, al_55, lck_0, lck_i, lck_r, lck_n, lck_l, csum_0, csum_i, csum_r, csum_l, pops_0, pops_s, psh_n, psh_s, List.getElem?_cons_zero, List.getElem?_cons_succ, List.set_cons_zero, List.set_cons_succ, true_and, and_true, Nat.reduceAdd, Nat.reduceLeDiff, S5_alterRow, S6_alterRow, S5_isRowPart, S6_isRow, rpB_0, e6, d, d2, b14, v30, x1, x2, y1, y2, up2_nf, Nat.reduceEqDiff, nn, false_implies, true_implies, implies_true, not_true_eq_false, not_false_eq_true, eq_self]
    exact ⟨by rw [eq], rowN r⟩
  · simp only [x5_alterRow_0, x5_alterRow_1, x5_alterRow_2, x5_alterRow_3, x5_alterRow_6, x5_alterRow_9, x5_alterRow_11, x5_alterRow_12, x5_alterRow_13, x5_alterRow_16, x5_alterRow_17, x5_alterRow_18, x5_alterRow_19, x5_alterRow_20, x5_alterRow_21, x5_alterRow_22, x5_alterRow_24, x5_alterRow_25, x5_alterRow_28, x5_alterRow_29, x5_alterRow_30, x5_alterRow_31, x5_alterRow_32, x5_alterRow_33, x5_alterRow_34, x5_alterRow_35, x5_alterRow_37, i_ald, i_cV, i_get, i_iadd, i_iald, i_iast, i_ic, i_if_ne, i_ild, i_imul, i_iret, i_ist, oc_0, fv_0_0, fv_0_1, fv_0_2, fv_0_3, ly_0_3, fv_0_4, fv_0_5, fv_0_6, ly_0_6, fv_0_7, fv_0_8, fv_0_9, oc_1, fv_1_0, fv_1_1, fv_1_2, fv_1_3, fv_1_4, fv_1_5, fv_1_6, ly_1_6, fv_1_7, ly_1_7, fv_1_8, ly_1_8, rd_2, al_2, rd_3, al_3, rd_4, al_4, rd_5, al_5, rd_6, al_6, rd_7, al_7, rd_24, al_24, x6_alterRow_0, x6_alterRow_1, x6_alterRow_2, x6_alterRow_3, x6_alterRow_6, x6_alterRow_9, x6_alterRow_11, x6_alterRow_12, x6_alterRow_13, x6_alterRow_16, x6_alterRow_17, x6_alterRow_18, x6_alterRow_19, x6_alterRow_20, x6_alterRow_21, x6_alterRow_22, x6_alterRow_24, x6_alterRow_25, x6_alterRow_28, x6_alterRow_29, x6_alterRow_30, x6_alterRow_31, x6_alterRow_32, x6_alterRow_33, x6_alterRow_34, x6_alterRow_35, x6_alterRow_37, oc_41, fv_41_0, fv_41_1, fv_41_2, fv_41_3, fv_41_4, ly_41_4, fv_41_5, fv_41_6, ly_41_6, fv_41_7, ly_41_7, fv_41_8, ly_41_8, fv_41_9, ly_41_9, fv_41_10, ly_41_10, fv_41_11, ly_41_11, fv_41_12, fv_41_13, fv_41_14, ly_41_14, fv_41_15, fv_41_16, fv_41_17, fv_41_18, fv_41_19, fv_41_20, fv_41_21, fv_41_22, ly_41_22, fv_41_23, ly_41_23, fv_41_24, ly_41_24, fv_41_25, ly_41_25, fv_41_26, ly_41_26, rd_42, al_42, rd_43, al_43, rd_44, al_44, rd_45, al_45, rd_46, al_46, rd_47, al_47, rd_48, al_48, rd_49, al_49, rd_50, al_50, rd_51, al_51, rd_52, al_52, rd_53, al_53, rd_54, al_54, rd_55, al_55, lck_0, lck_i, lck_r, lck_n, lck_l, csum_0, csum_i, csum_r, csum_l, pops_0, pops_s, psh_n, psh_s, List.getElem?_cons_zero, List.getElem?_cons_succ, List.set_cons_zero, List.set_cons_succ, true_and, and_true, Nat.reduceAdd, Nat.reduceLeDiff, S5_alterRow, S6_alterRow, S5_isRowPart, S6_isRow, rpB_0, e6, c, b14, nn, false_implies, true_implies, implies_true, not_true_eq_false, not_false_eq_true, eq_self]
    exact r
def rpN (G : GG) (k a t : Nat) : Int32 := if t = 0 then occN G (a + 1) 5 k else if t = 1 then occN G (a + 1) 4 k else thG (occN G (a + 1)) 8 (nG G)
theorem rpN_c {G H : GG} (h : Geq G H) (hI : InvR G) {k : Nat} (hk : k < nG G) (a t : Nat) : rpN G k a t = rpN H k a t := by
  have e := occN_c h hI (a + 1)
  have e5 := e.2.2.2 k (by rw [occN_n]; exact hk)
  have et := thN_c e 8
  rw [occN_n, occN_n] at et
  unfold rpN
  rw [e5.2.2.1, e5.2.1, et]
/-- the class's cells while rows are tried: all but the tried gaol and the rows stays -/
def FrR (h g : Hp) : Prop := ∀ p, (p < 8 ∨ 14 < p) → p ≠ 24 → g p = h p
def jgF (G : GG) (k : Nat) (b : Nat → Int32) : Nat → Nat → Int32
  | 0, _ => 0
  | d + 1, a => if b (3 * a) = rpN G k a 0 ∧ b (3 * a + 1) = rpN G k a 1 ∧ b (3 * a + 2) = rpN G k a 2 then jgF G k b d (a + 1) else nI (a + 1)
theorem jgF_c {G H : GG} (h : Geq G H) (hI : InvR G) {k : Nat} (hk : k < nG G) {b c : Nat → Int32} : ∀ d a, (∀ j, j < 3 * (a + d) → b j = c j) → jgF G k b d a = jgF H k c d a
  | 0, _, _ => rfl
  | d + 1, a, hb => by
    simp only [jgF]
    rw [jgF_c h hI hk d (a + 1) (fun j hj => hb j (by omega)), rpN_c h hI hk, rpN_c h hI hk, rpN_c h hI hk, hb (3 * a) (by omega), hb (3 * a + 1) (by omega), hb (3 * a + 2) (by omega)]
