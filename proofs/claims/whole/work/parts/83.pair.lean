/-! pairs: fits -/
def tlB (G : GG) (i : Nat) (it : Nat → Int32) : Nat → Nat → Int32
  | 0, _ => 1
  | d + 1, t => if it t = -1 ∨ it t = occN G (t + 1) 5 i then tlB G i it d (t + 1) else 0
theorem tlB_c {G H : GG} (g : Geq G H) (hi : InvR G) {i : Nat} (hn : i < nG G) (it : Nat → Int32) : ∀ d t, tlB G i it d t = tlB H i it d t
  | 0, _ => rfl
  | d + 1, t => by
    have e := (occN_c g hi (t + 1)).2.2.2 i (by rw [occN_n]; exact hn)
    simp only [tlB]
    rw [e.2.2.1, tlB_c g hi hn it d (t + 1)]
theorem tlB_i {G : GG} {i : Nat} {f g : Nat → Int32} (h : ∀ k, k < 40 → f k = g k) : ∀ d t, d + t ≤ 40 → tlB G i f d t = tlB G i g d t
  | 0, _, _ => rfl
  | d + 1, t, e => by
    simp only [tlB]
    rw [h t (by omega), tlB_i h d (t + 1) (by omega)]
theorem tlB_01 (G : GG) (i : Nat) (it : Nat → Int32) : ∀ d t, tlB G i it d t = 0 ∨ tlB G i it d t = 1
  | 0, _ => Or.inr rfl
  | d + 1, t => by
    simp only [tlB]
    split
    · exact tlB_01 G i it d (t + 1)
    · exact Or.inl rfl
theorem fv26 {a : Nat} (h : a < 4) : (∀ g, fv (26 + a) 0 g = .ref (30 + a)) ∧ (∀ g, fv (26 + a) 1 g = .int (g (26 + a) 1)) ∧ (∀ g, fv (26 + a) 2 g = .int (g (26 + a) 2)) ∧ (∀ g, rdA (30 + a) g = some (40, g (30 + a))) := by
  rcases (show a = 0 ∨ a = 1 ∨ a = 2 ∨ a = 3 by omega) with rfl | rfl | rfl | rfl
  all_goals exact ⟨fun _ => rfl, fun _ => rfl, fun _ => rfl, fun _ => rfl⟩
theorem hi_at {h : Hp} {G : GG} (hG : Hi8 h G) {p : Nat} (hp : 14 < p) : pg h 8 G p = h p := Hi8_fr hG p (Or.inr hp)
def S5_isFitting : Sp := fun av h Q => match av with | [.ref x, .ref p, .int i, .int v] => x = 0 ∧ ∃ a k m, a < 4 ∧ p = 26 + a ∧ i = nI k ∧ k < nG (vg h 1) ∧ InvG (vg h 1) ∧ m ≤ 40 ∧ h (26 + a) 2 = nI m ∧ ∀ h1, Fr8 h h1 → Q (some (.int (tlB (up2 (vg h 1) 4 k v) k (h (30 + a)) m 0))) h1 | _ => False
theorem lp5_fit {h : Hp} {Q : Po} {C : GG} (hC : Hi8 h C) {a k m : Nat} {v : Int32} (ha : a < 4) (c8 : 0 ≤ C 0 6 ∧ C 0 6 ≤ 8) (hk : k < 8) (hm : m ≤ 40) (hs : h (26 + a) 2 = nI m) : ∀ d t, d + t = m → (∀ h1, Fr8 h h1 → Q (some (.int (tlB C k (h (30 + a)) d t))) h1) → ∀ y, Rn (T5_isFitting Q S1_copy S1_passOccasions) (24, [some (.ref 0), some (.ref (26 + a)), some (.int (nI k)), some (.int v), some (.int (nI t)), y], [], pg h 8 (occN C t))
  | 0, t, e, hQ, y => by
    have e : t = m := by omega
    subst e
    have e1 := hi_at (Hi8_occ hC t) (p := 26 + a) (by omega)
    have o1 := oc26 ha
    obtain ⟨f0, f1, f2, f3⟩ := fv26 ha
    have nx := hQ _ (Hi8_fr (Hi8_occ hC t))
    refine Rn_go C5_isFitting 60 ?_
    simp only [x5_isFitting_0, x5_isFitting_1, x5_isFitting_4, x5_isFitting_5, x5_isFitting_8, x5_isFitting_11, x5_isFitting_12, x5_isFitting_15, x5_isFitting_18, x5_isFitting_19, x5_isFitting_20, x5_isFitting_21, x5_isFitting_22, k5_isFitting_24, t5_isFitting_24, x5_isFitting_26, x5_isFitting_27, x5_isFitting_30, x5_isFitting_33, x5_isFitting_34, x5_isFitting_37, x5_isFitting_38, x5_isFitting_41, x5_isFitting_42, x5_isFitting_45, x5_isFitting_47, x5_isFitting_48, x5_isFitting_50, x5_isFitting_52, x5_isFitting_53, x5_isFitting_56, x5_isFitting_58, x5_isFitting_59, x5_isFitting_62, x5_isFitting_65, x5_isFitting_66, x5_isFitting_67, x5_isFitting_70, x5_isFitting_71, x5_isFitting_72, x5_isFitting_75, x5_isFitting_78, x5_isFitting_79, i_ald, i_cV, i_get, i_goto, i_iald, i_iast, i_ic, i_ic_eq, i_ic_ge, i_ild, i_inc, i_ist, i_zret, oc_0, fv_0_0, fv_0_1, fv_0_2, fv_0_3, ly_0_3, fv_0_4, fv_0_5, fv_0_6, ly_0_6, fv_0_7, fv_0_8, fv_0_9, oc_1, fv_1_0, fv_1_1, fv_1_2, fv_1_3, fv_1_4, fv_1_5, fv_1_6, ly_1_6, fv_1_7, ly_1_7, fv_1_8, ly_1_8, rd_2, al_2, rd_3, al_3, rd_4, al_4, rd_5, al_5, rd_6, al_6, rd_7, al_7, oc_8, fv_8_0, fv_8_1, fv_8_2, fv_8_3, fv_8_4, fv_8_5, fv_8_6, ly_8_6, fv_8_7, ly_8_7, fv_8_8, ly_8_8, rd_9, al_9, rd_10, al_10, rd_11, al_11, rd_12, al_12, rd_13, al_13, rd_14, al_14, lck_0, lck_i, lck_r, lck_n, lck_l, csum_0, csum_i, csum_r, csum_l, pops_0, pops_s, psh_n, psh_s, List.getElem?_cons_zero, List.getElem?_cons_succ, List.set_cons_zero, List.set_cons_succ, true_and, and_true, Nat.reduceAdd, Nat.reduceLeDiff, o1, f2, e1, hs, l01_1, or_true]
    exact ⟨fun _ => nx, fun c => absurd (Int32.le_refl _) c⟩
  | d + 1, t, e, hQ, y => by
    have lt : ¬ nI m ≤ nI t := nI_ge (by omega) (by omega)
    have e1 := hi_at (Hi8_occ hC t) (p := 26 + a) (by omega)
    have e2 := hi_at (Hi8_occ hC (t + 1)) (p := 30 + a) (by omega)
    have o1 := oc26 ha
    obtain ⟨f0, f1, f2, f3⟩ := fv26 ha
    obtain ⟨y1, y2⟩ := n40 (c := t) (by omega)
    have k8 := nlt8 hk
    have hx : (nI k).toNatClampNeg = k := ix_nI (by omega)
    have c6 : 0 ≤ occN C t 0 6 ∧ occN C t 0 6 ≤ 8 := by rw [occN_6]; exact c8
    have o01 : (0 : Int32) ≤ 1 := by decide
    have es : occN (occN C t) 1 = occN C (t + 1) := rfl
    have nx0 := hQ _ (Hi8_fr (Hi8_occ hC (t + 1)))
    have ih := fun (z : h (30 + a) t = -1 ∨ h (30 + a) t = occN C (t + 1) 5 k) => lp5_fit (v := v) hC ha c8 hk hm hs d (t + 1) (by omega) (fun h1 f => by
      have := hQ h1 f
      rw [tlB, if_pos z] at this
      exact this)
    rw [← nI_1] at ih
    refine Rn_go C5_isFitting 60 ?_
    simp only [x5_isFitting_0, x5_isFitting_1, x5_isFitting_4, x5_isFitting_5, x5_isFitting_8, x5_isFitting_11, x5_isFitting_12, x5_isFitting_15, x5_isFitting_18, x5_isFitting_19, x5_isFitting_20, x5_isFitting_21, x5_isFitting_22, k5_isFitting_24, t5_isFitting_24, x5_isFitting_26, x5_isFitting_27, x5_isFitting_30, x5_isFitting_33, x5_isFitting_34, x5_isFitting_37, x5_isFitting_38, x5_isFitting_41, x5_isFitting_42, x5_isFitting_45, x5_isFitting_47, x5_isFitting_48, x5_isFitting_50, x5_isFitting_52, x5_isFitting_53, x5_isFitting_56, x5_isFitting_58, x5_isFitting_59, x5_isFitting_62, x5_isFitting_65, x5_isFitting_66, x5_isFitting_67, x5_isFitting_70, x5_isFitting_71, x5_isFitting_72, x5_isFitting_75, x5_isFitting_78, x5_isFitting_79, i_ald, i_cV, i_get, i_goto, i_iald, i_iast, i_ic, i_ic_eq, i_ic_ge, i_ild, i_inc, i_ist, i_zret, oc_0, fv_0_0, fv_0_1, fv_0_2, fv_0_3, ly_0_3, fv_0_4, fv_0_5, fv_0_6, ly_0_6, fv_0_7, fv_0_8, fv_0_9, oc_1, fv_1_0, fv_1_1, fv_1_2, fv_1_3, fv_1_4, fv_1_5, fv_1_6, ly_1_6, fv_1_7, ly_1_7, fv_1_8, ly_1_8, rd_2, al_2, rd_3, al_3, rd_4, al_4, rd_5, al_5, rd_6, al_6, rd_7, al_7, oc_8, fv_8_0, fv_8_1, fv_8_2, fv_8_3, fv_8_4, fv_8_5, fv_8_6, ly_8_6, fv_8_7, ly_8_7, fv_8_8, ly_8_8, rd_9, al_9, rd_10, al_10, rd_11, al_11, rd_12, al_12, rd_13, al_13, rd_14, al_14, lck_0, lck_i, lck_r, lck_n, lck_l, csum_0, csum_i, csum_r, csum_l, pops_0, pops_s, psh_n, psh_s, List.getElem?_cons_zero, List.getElem?_cons_succ, List.set_cons_zero, List.set_cons_succ, true_and, and_true, Nat.reduceAdd, Nat.reduceLeDiff, S1_passOccasions, GB_8, o1, f0, f2, f3, e1, hs, pg8_0, pg8_5, vg_pg, pg_pg, ix1, ix, es, e2, v40, v8, y2, hx, l01_0, true_or]
    refine ⟨fun c => absurd c lt, fun _ => ⟨o01, c6, y1, fun c => ih (Or.inl c) _, fun c => ⟨k8, fun c2 => ih (Or.inr c2) _, fun c2 => ?_⟩⟩⟩
    rw [tlB, if_neg (fun q => q.elim c c2)] at nx0
    exact nx0
theorem rn5_isFitting {h : Hp} {Q : Po} {x : Nat} {p : Nat} {i : Int32} {v : Int32} (hS : S5_isFitting [.ref x, .ref p, .int i, .int v] h Q) : Rn (T5_isFitting Q S1_copy S1_passOccasions) (0, [some (.ref x), some (.ref p), some (.int i), some (.int v), none, none], [], h) := by
  obtain ⟨rfl, a, k, m, ha, rfl, rfl, hk, hI, hm, hs, hQ⟩ := hS
  have n8 := nG_8 hI.1
  have k8 := nlt8 (j := k) (by omega)
  have hx : (nI k).toNatClampNeg = k := ix_nI (by omega)
  obtain ⟨eC, iC⟩ := InvG_c8 (h := h) (vg h 8) hI
  have c8 : 0 ≤ cpG (vg h 8) (vg h 1) 0 6 ∧ cpG (vg h 8) (vg h 1) 0 6 ≤ 8 := iC.1.1
  have hC : Hi8 h (up2 (cpG (vg h 8) (vg h 1)) 4 k v) := Hi8_up (Hi8_cp _ _ (Hi8_0 h)) k v (a := 4) (by decide)
  have et := fun it m => tlB_c (Geq_up eC (j := 4) k v (by simp)) (InvR_n iC.1 (by decide)) (i := k) (by rw [upd_count (by simp), Geq_n eC]; exact hk) it m 0
  have nx := lp5_fit (Q := Q) hC (k := k) (v := v) ha (by rw [up8_3']; exact c8) (by omega) hm hs m 0 (by omega) (fun h1 f => by rw [et]; exact hQ h1 f) none
  refine Rn_in C5_isFitting 60 ?_
  simp only [x5_isFitting_0, x5_isFitting_1, x5_isFitting_4, x5_isFitting_5, x5_isFitting_8, x5_isFitting_11, x5_isFitting_12, x5_isFitting_15, x5_isFitting_18, x5_isFitting_19, x5_isFitting_20, x5_isFitting_21, x5_isFitting_22, k5_isFitting_24, t5_isFitting_24, x5_isFitting_26, x5_isFitting_27, x5_isFitting_30, x5_isFitting_33, x5_isFitting_34, x5_isFitting_37, x5_isFitting_38, x5_isFitting_41, x5_isFitting_42, x5_isFitting_45, x5_isFitting_47, x5_isFitting_48, x5_isFitting_50, x5_isFitting_52, x5_isFitting_53, x5_isFitting_56, x5_isFitting_58, x5_isFitting_59, x5_isFitting_62, x5_isFitting_65, x5_isFitting_66, x5_isFitting_67, x5_isFitting_70, x5_isFitting_71, x5_isFitting_72, x5_isFitting_75, x5_isFitting_78, x5_isFitting_79, i_ald, i_cV, i_get, i_goto, i_iald, i_iast, i_ic, i_ic_eq, i_ic_ge, i_ild, i_inc, i_ist, i_zret, oc_0, fv_0_0, fv_0_1, fv_0_2, fv_0_3, ly_0_3, fv_0_4, fv_0_5, fv_0_6, ly_0_6, fv_0_7, fv_0_8, fv_0_9, oc_1, fv_1_0, fv_1_1, fv_1_2, fv_1_3, fv_1_4, fv_1_5, fv_1_6, ly_1_6, fv_1_7, ly_1_7, fv_1_8, ly_1_8, rd_2, al_2, rd_3, al_3, rd_4, al_4, rd_5, al_5, rd_6, al_6, rd_7, al_7, oc_8, fv_8_0, fv_8_1, fv_8_2, fv_8_3, fv_8_4, fv_8_5, fv_8_6, ly_8_6, fv_8_7, ly_8_7, fv_8_8, ly_8_8, rd_9, al_9, rd_10, al_10, rd_11, al_11, rd_12, al_12, rd_13, al_13, rd_14, al_14, lck_0, lck_i, lck_r, lck_n, lck_l, csum_0, csum_i, csum_r, csum_l, pops_0, pops_s, psh_n, psh_s, List.getElem?_cons_zero, List.getElem?_cons_succ, List.set_cons_zero, List.set_cons_succ, true_and, and_true, Nat.reduceAdd, Nat.reduceLeDiff, S1_copy, CP_81, up8_4, v8, hx]
  exact ⟨k8, nx⟩
def S6_isTold : Sp := fun av h Q => match av with | [.ref q, .int t, .int o] => q = 41 ∧ ∃ a k m, a < 4 ∧ t = nI a ∧ o = nI k ∧ k < 8 ∧ InvR (mv (h 42)) ∧ m ≤ 40 ∧ h 50 a = nI m ∧ ∀ b, Q (some (.int (tlB (mv (h 42)) k (fun j => h 51 (40 * a + j)) m 0))) (upA h 44 b) | _ => False
theorem lp6_tell0 {h : Hp} {Q : Po} {a k m : Nat} (ha : a < 4) (hm : m ≤ 40) (hs : h 50 a = nI m) {t : Nat} (ht : t ≤ m) (hQ : ∀ b, Q (some (.int 0)) (upA h 44 b)) {s : Nat → Int32} (hh : ∀ k, 47 ≤ k → s k = h 42 k) : Rn (T6_isTold Q S6_copyRow S6_goesOn S6_its) (16, [some (.ref 41), some (.int (nI a)), some (.int (nI k)), some (.int 0), some (.int (nI t))], [], upA (upA h 44 (cp47 (h 42) (h 44))) 42 s) := by
  have hb := back42 hh
  have nx := hQ (cp47 (h 42) (h 44))
  have hx : (nI a).toNatClampNeg = a := ix_nI (by omega)
  have a4 : 0 ≤ nI a ∧ nI a < 4 := ⟨nI_pos' (by omega), nI_lt (b := 4) ha (by decide)⟩
  refine Rn_go C6_isTold 60 ?_
  simp only [x6_isTold_0, x6_isTold_1, x6_isTold_4, x6_isTold_5, x6_isTold_8, x6_isTold_11, x6_isTold_12, x6_isTold_13, x6_isTold_14, k6_isTold_16, t6_isTold_16, x6_isTold_18, x6_isTold_19, x6_isTold_22, x6_isTold_23, x6_isTold_24, x6_isTold_27, x6_isTold_28, x6_isTold_31, x6_isTold_32, x6_isTold_35, x6_isTold_36, x6_isTold_39, x6_isTold_41, x6_isTold_42, x6_isTold_43, x6_isTold_45, x6_isTold_46, x6_isTold_47, x6_isTold_48, x6_isTold_51, x6_isTold_52, x6_isTold_55, x6_isTold_57, x6_isTold_58, x6_isTold_59, x6_isTold_61, x6_isTold_62, x6_isTold_63, x6_isTold_64, x6_isTold_65, x6_isTold_66, x6_isTold_69, x6_isTold_72, x6_isTold_73, x6_isTold_76, x6_isTold_77, x6_isTold_78, x6_isTold_81, x6_isTold_84, x6_isTold_85, x6_isTold_88, x6_isTold_89, x6_isTold_92, x6_isTold_95, x6_isTold_96, i_ald, i_cS, i_cV, i_get, i_goto, i_iadd, i_iald, i_ic, i_ic_eq, i_ic_ge, i_ic_ne, i_if_eq, i_ild, i_imul, i_inc, i_ist, i_zret, oc_41, fv_41_0, fv_41_1, fv_41_2, fv_41_3, fv_41_4, ly_41_4, fv_41_5, fv_41_6, ly_41_6, fv_41_7, ly_41_7, fv_41_8, ly_41_8, fv_41_9, ly_41_9, fv_41_10, ly_41_10, fv_41_11, ly_41_11, fv_41_12, fv_41_13, fv_41_14, ly_41_14, fv_41_15, fv_41_16, fv_41_17, fv_41_18, fv_41_19, fv_41_20, fv_41_21, fv_41_22, ly_41_22, fv_41_23, ly_41_23, fv_41_24, ly_41_24, fv_41_25, ly_41_25, fv_41_26, ly_41_26, rd_42, al_42, rd_43, al_43, rd_44, al_44, rd_45, al_45, rd_46, al_46, rd_47, al_47, rd_48, al_48, rd_49, al_49, rd_50, al_50, rd_51, al_51, rd_52, al_52, rd_53, al_53, rd_54, al_54, rd_55, al_55, lck_0, lck_i, lck_r, lck_n, lck_l, csum_0, csum_i, csum_r, csum_l, pops_0, pops_s, psh_n, psh_s, List.getElem?_cons_zero, List.getElem?_cons_succ, List.set_cons_zero, List.set_cons_succ, true_and, and_true, Nat.reduceAdd, Nat.reduceLeDiff, S6_copyRow, RW_b, upA_44, upA_self, upA_42, hb, upA_sw, v4, hx, upA_nf, Nat.reduceEqDiff, hs, l01_0, true_or]
  exact ⟨a4, fun _ => nx, fun _ => ⟨fun _ => nx, fun c => absurd trivial c⟩⟩
theorem lp6_tell {h : Hp} {Q : Po} {a k m : Nat} (ha : a < 4) (hk : k < 8) (hI : InvR (mv (h 42))) (hm : m ≤ 40) (hs : h 50 a = nI m) : ∀ d t, d + t = m → (∀ b, Q (some (.int (tlB (mv (h 42)) k (fun j => h 51 (40 * a + j)) d t))) (upA h 44 b)) → ∀ s : Nat → Int32, mv s = occN (mv (h 42)) t → (∀ k, 47 ≤ k → s k = h 42 k) → Rn (T6_isTold Q S6_copyRow S6_goesOn S6_its) (16, [some (.ref 41), some (.int (nI a)), some (.int (nI k)), some (.int 1), some (.int (nI t))], [], upA (upA h 44 (cp47 (h 42) (h 44))) 42 s)
  | 0, t, e, hQ, s, es, hh => by
    have e : t = m := by omega
    subst e
    have hb := back42 hh
    have nx := hQ (cp47 (h 42) (h 44))
    have hx : (nI a).toNatClampNeg = a := ix_nI (by omega)
    have a4 : 0 ≤ nI a ∧ nI a < 4 := ⟨nI_pos' (by omega), nI_lt (b := 4) ha (by decide)⟩
    refine Rn_go C6_isTold 60 ?_
    simp only [x6_isTold_0, x6_isTold_1, x6_isTold_4, x6_isTold_5, x6_isTold_8, x6_isTold_11, x6_isTold_12, x6_isTold_13, x6_isTold_14, k6_isTold_16, t6_isTold_16, x6_isTold_18, x6_isTold_19, x6_isTold_22, x6_isTold_23, x6_isTold_24, x6_isTold_27, x6_isTold_28, x6_isTold_31, x6_isTold_32, x6_isTold_35, x6_isTold_36, x6_isTold_39, x6_isTold_41, x6_isTold_42, x6_isTold_43, x6_isTold_45, x6_isTold_46, x6_isTold_47, x6_isTold_48, x6_isTold_51, x6_isTold_52, x6_isTold_55, x6_isTold_57, x6_isTold_58, x6_isTold_59, x6_isTold_61, x6_isTold_62, x6_isTold_63, x6_isTold_64, x6_isTold_65, x6_isTold_66, x6_isTold_69, x6_isTold_72, x6_isTold_73, x6_isTold_76, x6_isTold_77, x6_isTold_78, x6_isTold_81, x6_isTold_84, x6_isTold_85, x6_isTold_88, x6_isTold_89, x6_isTold_92, x6_isTold_95, x6_isTold_96, i_ald, i_cS, i_cV, i_get, i_goto, i_iadd, i_iald, i_ic, i_ic_eq, i_ic_ge, i_ic_ne, i_if_eq, i_ild, i_imul, i_inc, i_ist, i_zret, oc_41, fv_41_0, fv_41_1, fv_41_2, fv_41_3, fv_41_4, ly_41_4, fv_41_5, fv_41_6, ly_41_6, fv_41_7, ly_41_7, fv_41_8, ly_41_8, fv_41_9, ly_41_9, fv_41_10, ly_41_10, fv_41_11, ly_41_11, fv_41_12, fv_41_13, fv_41_14, ly_41_14, fv_41_15, fv_41_16, fv_41_17, fv_41_18, fv_41_19, fv_41_20, fv_41_21, fv_41_22, ly_41_22, fv_41_23, ly_41_23, fv_41_24, ly_41_24, fv_41_25, ly_41_25, fv_41_26, ly_41_26, rd_42, al_42, rd_43, al_43, rd_44, al_44, rd_45, al_45, rd_46, al_46, rd_47, al_47, rd_48, al_48, rd_49, al_49, rd_50, al_50, rd_51, al_51, rd_52, al_52, rd_53, al_53, rd_54, al_54, rd_55, al_55, lck_0, lck_i, lck_r, lck_n, lck_l, csum_0, csum_i, csum_r, csum_l, pops_0, pops_s, psh_n, psh_s, List.getElem?_cons_zero, List.getElem?_cons_succ, List.set_cons_zero, List.set_cons_succ, true_and, and_true, Nat.reduceAdd, Nat.reduceLeDiff, S6_copyRow, RW_b, upA_44, upA_self, upA_42, hb, upA_sw, v4, hx, upA_nf, Nat.reduceEqDiff, hs, l01_1, or_true]
    exact ⟨a4, fun _ => nx, fun c => absurd (Int32.le_refl _) c⟩
  | d + 1, t, e, hQ, s, es, hh => by
    have hb := back42 hh
    have lt : ¬ nI m ≤ nI t := nI_ge (by omega) (by omega)
    have hx : (nI a).toNatClampNeg = a := ix_nI (by omega)
    have hxk : (nI k).toNatClampNeg = k := ix_nI (by omega)
    have a4 : 0 ≤ nI a ∧ nI a < 4 := ⟨nI_pos' (by omega), nI_lt (b := 4) ha (by decide)⟩
    have y := sh_ix a ha t (by omega)
    obtain ⟨z1, z2⟩ := n160 (c := 40 * a + t) (by omega)
    have k8 := nlt8 hk
    have hIt := inv_occN hI t
    rw [← es] at hIt
    have n10 : ¬ (1 : Int32) = 0 := by decide
    refine Rn_go C6_isTold 60 ?_
    simp only [x6_isTold_0, x6_isTold_1, x6_isTold_4, x6_isTold_5, x6_isTold_8, x6_isTold_11, x6_isTold_12, x6_isTold_13, x6_isTold_14, k6_isTold_16, t6_isTold_16, x6_isTold_18, x6_isTold_19, x6_isTold_22, x6_isTold_23, x6_isTold_24, x6_isTold_27, x6_isTold_28, x6_isTold_31, x6_isTold_32, x6_isTold_35, x6_isTold_36, x6_isTold_39, x6_isTold_41, x6_isTold_42, x6_isTold_43, x6_isTold_45, x6_isTold_46, x6_isTold_47, x6_isTold_48, x6_isTold_51, x6_isTold_52, x6_isTold_55, x6_isTold_57, x6_isTold_58, x6_isTold_59, x6_isTold_61, x6_isTold_62, x6_isTold_63, x6_isTold_64, x6_isTold_65, x6_isTold_66, x6_isTold_69, x6_isTold_72, x6_isTold_73, x6_isTold_76, x6_isTold_77, x6_isTold_78, x6_isTold_81, x6_isTold_84, x6_isTold_85, x6_isTold_88, x6_isTold_89, x6_isTold_92, x6_isTold_95, x6_isTold_96, i_ald, i_cS, i_cV, i_get, i_goto, i_iadd, i_iald, i_ic, i_ic_eq, i_ic_ge, i_ic_ne, i_if_eq, i_ild, i_imul, i_inc, i_ist, i_zret, oc_41, fv_41_0, fv_41_1, fv_41_2, fv_41_3, fv_41_4, ly_41_4, fv_41_5, fv_41_6, ly_41_6, fv_41_7, ly_41_7, fv_41_8, ly_41_8, fv_41_9, ly_41_9, fv_41_10, ly_41_10, fv_41_11, ly_41_11, fv_41_12, fv_41_13, fv_41_14, ly_41_14, fv_41_15, fv_41_16, fv_41_17, fv_41_18, fv_41_19, fv_41_20, fv_41_21, fv_41_22, ly_41_22, fv_41_23, ly_41_23, fv_41_24, ly_41_24, fv_41_25, ly_41_25, fv_41_26, ly_41_26, rd_42, al_42, rd_43, al_43, rd_44, al_44, rd_45, al_45, rd_46, al_46, rd_47, al_47, rd_48, al_48, rd_49, al_49, rd_50, al_50, rd_51, al_51, rd_52, al_52, rd_53, al_53, rd_54, al_54, rd_55, al_55, lck_0, lck_i, lck_r, lck_n, lck_l, csum_0, csum_i, csum_r, csum_l, pops_0, pops_s, psh_n, psh_s, List.getElem?_cons_zero, List.getElem?_cons_succ, List.set_cons_zero, List.set_cons_succ, true_and, and_true, Nat.reduceAdd, Nat.reduceLeDiff, S6_copyRow, S6_goesOn, S6_its, RW_b, upA_44, upA_42, hb, upA_sw, upA_same, v4, v160, hx, ix, hxk, y, z2, t4, ix2, upA_nf, Nat.reduceEqDiff, hs]
    refine ⟨a4, fun c => absurd c lt, fun _ => ⟨fun c => absurd c n10, fun _ => ⟨hIt, fun s1 x1 x2 => ?_⟩⟩⟩
    have e5 : s1 (15 + 4 * k + 2) = occN (mv (h 42)) (t + 1) 5 k := by
      have : mv s1 5 k = occN (mv (h 42)) (t + 1) 5 k := by rw [x1, es]; rfl
      exact this
    have hh1 : ∀ k, 47 ≤ k → s1 k = h 42 k := fun k hk => by rw [x2 k hk]; exact hh k hk
    have ih := fun (z : h 51 (40 * a + t) = -1 ∨ h 51 (40 * a + t) = occN (mv (h 42)) (t + 1) 5 k) => lp6_tell ha hk hI hm hs d (t + 1) (by omega) (fun b => by
      have := hQ b
      rw [tlB, if_pos z] at this
      exact this) s1 (by rw [x1, es]; rfl) hh1
    rw [← nI_1] at ih
    refine ⟨z1, fun c => ih (Or.inl c), fun c => ⟨z1, k8, fun c2 => ?_, fun c2 => ih (Or.inr (by rw [← e5]; exact c2))⟩⟩
    have := lp6_tell0 (Q := Q) (k := k) ha hm hs (t := t + 1) (by omega) (fun b => by
      have := hQ b
      rw [tlB, if_neg (fun q => q.elim c (by rw [← e5]; exact c2))] at this
      exact this) hh1
    rw [← nI_1] at this
    exact this
theorem rn6_isTold {h : Hp} {Q : Po} {q : Nat} {t : Int32} {o : Int32} (hS : S6_isTold [.ref q, .int t, .int o] h Q) : Rn (T6_isTold Q S6_copyRow S6_goesOn S6_its) (0, [some (.ref q), some (.int t), some (.int o), none, none], [], h) := by
  obtain ⟨rfl, a, k, m, ha, rfl, rfl, hk, hI, hm, hs, hQ⟩ := hS
  have nx := lp6_tell ha hk hI hm hs m 0 (by omega) hQ (h 42) rfl (fun _ _ => rfl)
  have e : upA (upA h 44 (cp47 (h 42) (h 44))) 42 (h 42) = upA h 44 (cp47 (h 42) (h 44)) := by
    funext a b; simp only [upA]; grind
  rw [e] at nx
  refine Rn_in C6_isTold 60 ?_
  simp only [x6_isTold_0, x6_isTold_1, x6_isTold_4, x6_isTold_5, x6_isTold_8, x6_isTold_11, x6_isTold_12, x6_isTold_13, x6_isTold_14, k6_isTold_16, t6_isTold_16, x6_isTold_18, x6_isTold_19, x6_isTold_22, x6_isTold_23, x6_isTold_24, x6_isTold_27, x6_isTold_28, x6_isTold_31, x6_isTold_32, x6_isTold_35, x6_isTold_36, x6_isTold_39, x6_isTold_41, x6_isTold_42, x6_isTold_43, x6_isTold_45, x6_isTold_46, x6_isTold_47, x6_isTold_48, x6_isTold_51, x6_isTold_52, x6_isTold_55, x6_isTold_57, x6_isTold_58, x6_isTold_59, x6_isTold_61, x6_isTold_62, x6_isTold_63, x6_isTold_64, x6_isTold_65, x6_isTold_66, x6_isTold_69, x6_isTold_72, x6_isTold_73, x6_isTold_76, x6_isTold_77, x6_isTold_78, x6_isTold_81, x6_isTold_84, x6_isTold_85, x6_isTold_88, x6_isTold_89, x6_isTold_92, x6_isTold_95, x6_isTold_96, i_ald, i_cS, i_cV, i_get, i_goto, i_iadd, i_iald, i_ic, i_ic_eq, i_ic_ge, i_ic_ne, i_if_eq, i_ild, i_imul, i_inc, i_ist, i_zret, oc_41, fv_41_0, fv_41_1, fv_41_2, fv_41_3, fv_41_4, ly_41_4, fv_41_5, fv_41_6, ly_41_6, fv_41_7, ly_41_7, fv_41_8, ly_41_8, fv_41_9, ly_41_9, fv_41_10, ly_41_10, fv_41_11, ly_41_11, fv_41_12, fv_41_13, fv_41_14, ly_41_14, fv_41_15, fv_41_16, fv_41_17, fv_41_18, fv_41_19, fv_41_20, fv_41_21, fv_41_22, ly_41_22, fv_41_23, ly_41_23, fv_41_24, ly_41_24, fv_41_25, ly_41_25, fv_41_26, ly_41_26, rd_42, al_42, rd_43, al_43, rd_44, al_44, rd_45, al_45, rd_46, al_46, rd_47, al_47, rd_48, al_48, rd_49, al_49, rd_50, al_50, rd_51, al_51, rd_52, al_52, rd_53, al_53, rd_54, al_54, rd_55, al_55, lck_0, lck_i, lck_r, lck_n, lck_l, csum_0, csum_i, csum_r, csum_l, pops_0, pops_s, psh_n, psh_s, List.getElem?_cons_zero, List.getElem?_cons_succ, List.set_cons_zero, List.set_cons_succ, true_and, and_true, Nat.reduceAdd, Nat.reduceLeDiff, S6_copyRow, RW_a]
  exact nx
