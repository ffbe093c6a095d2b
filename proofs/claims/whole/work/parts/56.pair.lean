/-! pairs: rings, the time till all are out, luck -/
theorem bt_key : ∀ m, m < 256 → ∀ o, o < 8 → ((nI m >>> (nI o &&& 31)) &&& 1 = if m.testBit o then 1 else 0) ∧ (nI m ||| ((1 : Int32) <<< (nI o &&& 31)) = nI (m ||| 2 ^ o)) ∧ (m ||| 2 ^ o) < 256 ∧ (m.testBit o = false → pcn (m ||| 2 ^ o) = pcn m + 1) ∧ (m.testBit o = true → (m ||| 2 ^ o) = m) ∧ (pcn m = 8 → m.testBit o = true) := by decide +kernel
theorem bt_or : ∀ m, m < 256 → ∀ o, o < 8 → ∀ x, x < 8 → (m ||| 2 ^ o).testBit x = (m.testBit x || (x == o)) := by decide +kernel
theorem nneg {o : Int32} (h : -1 ≤ o) (c : ¬ o = -1) : 0 ≤ o := by
  rw [Int32.le_iff_toInt_le] at h ⊢
  have : o.toInt ≠ -1 := fun q => c (Int32.toInt_inj.mp q)
  have e1 : (-1 : Int32).toInt = -1 := by decide
  have e0 : (0 : Int32).toInt = 0 := by decide
  omega
theorem p1n {o : Int32} (h : 0 ≤ o ∧ o < 8) : ¬ o + 1 ≤ 0 := by
  have := h.1; have := h.2; grind
theorem of8 {o : Int32} (h0 : 0 ≤ o) (h8 : o < 8) : ∃ y, y < 8 ∧ o = nI y := by
  obtain ⟨k, a, b⟩ := vp_in_of (vpi (n := 8) (by decide) h0 h8) (by decide)
  exact ⟨k, a, b⟩
/-- a set that holds all that its members wait for, and that one: nothing comes to it -/
theorem rgB_cl {G : GG} (hI : InvR G) {m : Nat} (hm : m < 256) (hC : ∀ x, x < 8 → m.testBit x = true → x < nG G → ∀ y, y < 8 → G 6 x = nI y → m.testBit y = true) : ∀ d (o : Int32), (∀ y, y < 8 → o = nI y → m.testBit y = true) → rgB G d o (nI m) = nI m
  | 0, _, _ => rfl
  | d + 1, o, ho => by
    simp only [rgB]
    split
    · rename_i c
      obtain ⟨y, hy, e⟩ : ∃ y, y < 8 ∧ o = nI y := by
        obtain ⟨k, a, b⟩ := vp_in_of (vpi (n := 8) (by decide) c.1 (Int32.lt_of_lt_of_le c.2 hI.1.2)) (by decide)
        exact ⟨k, a, b⟩
      have hb := ho y hy e
      obtain ⟨k1, k2, k3, k4, k5, k6⟩ := bt_key m hm y hy
      have hx : ix o = y := by rw [e, ix_nI (by omega)]
      rw [hx, e, k2, k5 hb]
      refine rgB_cl hI hm hC d _ (fun z hz ez => hC y hy hb (by rw [← hx]; exact ix_n hI c.1 c.2) z hz ez)
    · rfl
def S5_knot : Sp := fun av h Q => match av with | [.ref x, .int o] => Rn (T5_knot Q S1_has S1_ringFrom) (0, [some (.ref x), some (.int o)], [], h) | _ => False
theorem rn5_knot {h : Hp} {Q : Po} {x : Nat} {o : Int32} (hS : S5_knot [.ref x, .int o] h Q) : Rn (T5_knot Q S1_has S1_ringFrom) (0, [some (.ref x), some (.int o)], [], h) := hS
def S6_knot : Sp := fun av h Q => match av with | [.ref x, .int o] => Rn (T6_knot Q S6_isOne S6_its) (0, [some (.ref x), some (.int o), none, none], [], h) | _ => False
theorem rn6_knot {h : Hp} {Q : Po} {x : Nat} {o : Int32} (hS : S6_knot [.ref x, .int o] h Q) : Rn (T6_knot Q S6_isOne S6_its) (0, [some (.ref x), some (.int o), none, none], [], h) := hS
theorem lp6_knotB {h : Hp} {Q : Po} (hI : InvR (mv (h 42))) {o0 : Int32} {R : Int32} (hQ : Q (some (.int R)) h) : ∀ d m (o : Int32), m < 256 → pcn m + d = 8 → (-1 ≤ o ∧ o < h 42 0) → rgB (mv (h 42)) d o (nI m) = R → (∀ x, x < 8 → m.testBit x = true → x < nG (mv (h 42)) → ∀ y, y < 8 → mv (h 42) 6 x = nI y → m.testBit y = true ∨ o = nI y) → Rn (T6_knot Q S6_isOne S6_its) (43, [some (.ref 41), some (.int o0), some (.int (o + 1)), some (.int (nI m))], [], h) := by
  have c8 : h 42 0 ≤ 8 := hI.1.2
  have stop : ∀ m (o : Int32), m < 256 → (-1 ≤ o ∧ o < h 42 0) → R = nI m → (o = -1 ∨ ∃ y, y < 8 ∧ o = nI y ∧ m.testBit y = true) → Rn (T6_knot Q S6_isOne S6_its) (43, [some (.ref 41), some (.int o0), some (.int (o + 1)), some (.int (nI m))], [], h) := by
    intro m o hm ho e1 e2
    subst e1
    rcases e2 with rfl | ⟨y, hy, e, hb⟩
    · refine Rn_go C6_knot 60 ?_
      simp only [x6_knot_0, x6_knot_1, x6_knot_2, x6_knot_5, x6_knot_8, x6_knot_9, x6_knot_10, x6_knot_11, x6_knot_12, x6_knot_13, x6_knot_14, x6_knot_15, k6_knot_16, t6_knot_16, x6_knot_17, x6_knot_19, x6_knot_22, x6_knot_23, x6_knot_26, x6_knot_27, x6_knot_28, x6_knot_29, x6_knot_30, x6_knot_31, x6_knot_34, x6_knot_35, x6_knot_38, x6_knot_41, x6_knot_42, k6_knot_43, t6_knot_43, x6_knot_44, x6_knot_47, x6_knot_48, x6_knot_49, x6_knot_50, x6_knot_51, x6_knot_52, x6_knot_53, x6_knot_54, x6_knot_57, x6_knot_58, x6_knot_59, x6_knot_60, x6_knot_61, x6_knot_62, x6_knot_63, x6_knot_64, x6_knot_65, x6_knot_66, x6_knot_67, x6_knot_68, x6_knot_69, x6_knot_70, x6_knot_73, x6_knot_74, x6_knot_77, x6_knot_78, i_ald, i_cV, i_goto, i_iadd, i_iand, i_ic, i_ic_ge, i_if_le, i_if_ne, i_ild, i_inc, i_ior, i_iret, i_ishl, i_ishr, i_ist, i_isub, oc_41, fv_41_0, fv_41_1, fv_41_2, fv_41_3, fv_41_4, ly_41_4, fv_41_5, fv_41_6, ly_41_6, fv_41_7, ly_41_7, fv_41_8, ly_41_8, fv_41_9, ly_41_9, fv_41_10, ly_41_10, fv_41_11, ly_41_11, fv_41_12, fv_41_13, fv_41_14, ly_41_14, fv_41_15, fv_41_16, fv_41_17, fv_41_18, fv_41_19, fv_41_20, fv_41_21, fv_41_22, ly_41_22, fv_41_23, ly_41_23, fv_41_24, ly_41_24, fv_41_25, ly_41_25, fv_41_26, ly_41_26, rd_42, al_42, rd_43, al_43, rd_44, al_44, rd_45, al_45, rd_46, al_46, rd_47, al_47, rd_48, al_48, rd_49, al_49, rd_50, al_50, rd_51, al_51, rd_52, al_52, rd_53, al_53, rd_54, al_54, rd_55, al_55, lck_0, lck_i, lck_r, lck_n, lck_l, csum_0, csum_i, csum_r, csum_l, pops_0, pops_s, psh_n, psh_s, List.getElem?_cons_zero, List.getElem?_cons_succ, List.set_cons_zero, List.set_cons_succ, true_and, and_true, Nat.reduceAdd, Nat.reduceLeDiff]
      exact ⟨fun _ => hQ, fun c => absurd (by decide) c⟩
    · obtain ⟨k1, k2, k3, k4, k5, k6⟩ := bt_key m hm y hy
      subst e
      have e3 : nI y + 1 - 1 = nI y := by grind
      rw [hb] at k1
      have e4 : ¬ nI m >>> (nI y &&& 31) &&& 1 = 0 := by rw [k1]; decide
      refine Rn_go C6_knot 60 ?_
      simp only [x6_knot_0, x6_knot_1, x6_knot_2, x6_knot_5, x6_knot_8, x6_knot_9, x6_knot_10, x6_knot_11, x6_knot_12, x6_knot_13, x6_knot_14, x6_knot_15, k6_knot_16, t6_knot_16, x6_knot_17, x6_knot_19, x6_knot_22, x6_knot_23, x6_knot_26, x6_knot_27, x6_knot_28, x6_knot_29, x6_knot_30, x6_knot_31, x6_knot_34, x6_knot_35, x6_knot_38, x6_knot_41, x6_knot_42, k6_knot_43, t6_knot_43, x6_knot_44, x6_knot_47, x6_knot_48, x6_knot_49, x6_knot_50, x6_knot_51, x6_knot_52, x6_knot_53, x6_knot_54, x6_knot_57, x6_knot_58, x6_knot_59, x6_knot_60, x6_knot_61, x6_knot_62, x6_knot_63, x6_knot_64, x6_knot_65, x6_knot_66, x6_knot_67, x6_knot_68, x6_knot_69, x6_knot_70, x6_knot_73, x6_knot_74, x6_knot_77, x6_knot_78, i_ald, i_cV, i_goto, i_iadd, i_iand, i_ic, i_ic_ge, i_if_le, i_if_ne, i_ild, i_inc, i_ior, i_iret, i_ishl, i_ishr, i_ist, i_isub, oc_41, fv_41_0, fv_41_1, fv_41_2, fv_41_3, fv_41_4, ly_41_4, fv_41_5, fv_41_6, ly_41_6, fv_41_7, ly_41_7, fv_41_8, ly_41_8, fv_41_9, ly_41_9, fv_41_10, ly_41_10, fv_41_11, ly_41_11, fv_41_12, fv_41_13, fv_41_14, ly_41_14, fv_41_15, fv_41_16, fv_41_17, fv_41_18, fv_41_19, fv_41_20, fv_41_21, fv_41_22, ly_41_22, fv_41_23, ly_41_23, fv_41_24, ly_41_24, fv_41_25, ly_41_25, fv_41_26, ly_41_26, rd_42, al_42, rd_43, al_43, rd_44, al_44, rd_45, al_45, rd_46, al_46, rd_47, al_47, rd_48, al_48, rd_49, al_49, rd_50, al_50, rd_51, al_51, rd_52, al_52, rd_53, al_53, rd_54, al_54, rd_55, al_55, lck_0, lck_i, lck_r, lck_n, lck_l, csum_0, csum_i, csum_r, csum_l, pops_0, pops_s, psh_n, psh_s, List.getElem?_cons_zero, List.getElem?_cons_succ, List.set_cons_zero, List.set_cons_succ, true_and, and_true, Nat.reduceAdd, Nat.reduceLeDiff, e3]
      exact ⟨fun _ => hQ, fun c => ⟨fun _ => hQ, fun c2 => absurd c2 e4⟩⟩
  intro d
  induction d with
  | zero =>
    intro m o hm hp ho hR hC
    refine stop m o hm ho hR.symm ?_
    by_cases c : o = -1
    · exact Or.inl c
    · obtain ⟨k, a, b⟩ := of8 (nneg ho.1 c) (Int32.lt_of_lt_of_le ho.2 c8)
      exact Or.inr ⟨k, a, b, (bt_key m hm k a).2.2.2.2.2 (by omega)⟩
  | succ d ih =>
    intro m o hm hp ho hR hC
    by_cases c : o = -1
    · refine stop m o hm ho ?_ (Or.inl c)
      rw [rgB, if_neg (by rw [c]; exact fun q => absurd q.1 (by decide))] at hR
      exact hR.symm
    · obtain ⟨y, hy, e⟩ := of8 (nneg ho.1 c) (Int32.lt_of_lt_of_le ho.2 c8)
      obtain ⟨k1, k2, k3, k4, k5, k6⟩ := bt_key m hm y hy
      have hx : ix o = y := by rw [e, ix_nI (by omega)]
      have h0 : 0 ≤ o := nneg ho.1 c
      by_cases hb : m.testBit y = true
      · refine stop m o hm ho ?_ (Or.inr ⟨y, hy, e, hb⟩)
        rw [← hR]
        refine rgB_cl hI hm (fun x hx hb2 hn z hz ez => ?_) (d + 1) o (fun z hz ez => ?_)
        · rcases hC x hx hb2 hn z hz ez with q | q
          · exact q
          · have : y = z := by
              rw [e] at q
              exact (nI_eq (by omega) (by omega)).mp q
            rw [← this]; exact hb
        · have : y = z := by
            rw [e] at ez
            exact (nI_eq (by omega) (by omega)).mp ez
          rw [← this]; exact hb
      · have hb2 : m.testBit y = false := by simpa using hb
        have hn : ix o < nG (mv (h 42)) := ix_n hI h0 ho.2
        have i6 := (hI.2 (ix o) hn).2
        rw [hb2] at k1
        simp only [Bool.false_eq_true, if_false] at k1
        rw [rgB, if_pos ⟨h0, ho.2⟩, e, k2, ← e] at hR
        have nx := ih (m ||| 2 ^ y) (mv (h 42) 6 (ix o)) k3 (by rw [k4 hb2]; omega) i6 hR (fun x hx1 b1 n1 z hz ez => ?_)
        · rw [mv_6, show h 42 (15 + 4 * ix o + 3) - 1 + 1 = h 42 (15 + 4 * ix o + 3) by grind, ← k2, ← e] at nx
          have e3 : o + 1 - 1 = o := by grind
          have e4 : nI m >>> (o &&& 31) &&& 1 = 0 := by rw [e]; exact k1
          have c8o : 0 ≤ o ∧ o < 8 := ⟨h0, Int32.lt_of_lt_of_le ho.2 c8⟩
          refine Rn_go C6_knot 60 ?_
          simp only [x6_knot_0, x6_knot_1, x6_knot_2, x6_knot_5, x6_knot_8, x6_knot_9, x6_knot_10, x6_knot_11, x6_knot_12, x6_knot_13, x6_knot_14, x6_knot_15, k6_knot_16, t6_knot_16, x6_knot_17, x6_knot_19, x6_knot_22, x6_knot_23, x6_knot_26, x6_knot_27, x6_knot_28, x6_knot_29, x6_knot_30, x6_knot_31, x6_knot_34, x6_knot_35, x6_knot_38, x6_knot_41, x6_knot_42, k6_knot_43, t6_knot_43, x6_knot_44, x6_knot_47, x6_knot_48, x6_knot_49, x6_knot_50, x6_knot_51, x6_knot_52, x6_knot_53, x6_knot_54, x6_knot_57, x6_knot_58, x6_knot_59, x6_knot_60, x6_knot_61, x6_knot_62, x6_knot_63, x6_knot_64, x6_knot_65, x6_knot_66, x6_knot_67, x6_knot_68, x6_knot_69, x6_knot_70, x6_knot_73, x6_knot_74, x6_knot_77, x6_knot_78, i_ald, i_cV, i_goto, i_iadd, i_iand, i_ic, i_ic_ge, i_if_le, i_if_ne, i_ild, i_inc, i_ior, i_iret, i_ishl, i_ishr, i_ist, i_isub, oc_41, fv_41_0, fv_41_1, fv_41_2, fv_41_3, fv_41_4, ly_41_4, fv_41_5, fv_41_6, ly_41_6, fv_41_7, ly_41_7, fv_41_8, ly_41_8, fv_41_9, ly_41_9, fv_41_10, ly_41_10, fv_41_11, ly_41_11, fv_41_12, fv_41_13, fv_41_14, ly_41_14, fv_41_15, fv_41_16, fv_41_17, fv_41_18, fv_41_19, fv_41_20, fv_41_21, fv_41_22, ly_41_22, fv_41_23, ly_41_23, fv_41_24, ly_41_24, fv_41_25, ly_41_25, fv_41_26, ly_41_26, rd_42, al_42, rd_43, al_43, rd_44, al_44, rd_45, al_45, rd_46, al_46, rd_47, al_47, rd_48, al_48, rd_49, al_49, rd_50, al_50, rd_51, al_51, rd_52, al_52, rd_53, al_53, rd_54, al_54, rd_55, al_55, lck_0, lck_i, lck_r, lck_n, lck_l, csum_0, csum_i, csum_r, csum_l, pops_0, pops_s, psh_n, psh_s, List.getElem?_cons_zero, List.getElem?_cons_succ, List.set_cons_zero, List.set_cons_succ, true_and, and_true, Nat.reduceAdd, Nat.reduceLeDiff, e3, S6_its, t4, ix3]
          exact ⟨fun q => absurd q (p1n c8o), fun _ => ⟨fun q => absurd e4 q, fun _ => ⟨c8o, nx⟩⟩⟩
        · rw [bt_or m hm y hy x hx1] at b1
          rw [bt_or m hm y hy z hz]
          rcases Bool.or_eq_true_iff.mp b1 with b1 | b1
          · rcases hC x hx1 b1 n1 z hz ez with q | q
            · left; rw [q]; rfl
            · left
              have : y = z := by
                rw [e] at q
                exact (nI_eq (by omega) (by omega)).mp q
              rw [this]; simp
          · right
            have : x = y := by simpa using b1
            rw [hx, ← this]; exact ez
theorem lp6_knotA {h : Hp} {Q : Po} (hI : InvR (mv (h 42))) {o0 : Int32} : ∀ d j, d + j = 8 → ∀ (o : Int32) , (-1 ≤ o ∧ o < h 42 0) → Q (some (.int (rgB (mv (h 42)) 8 (rgA (mv (h 42)) d o) 0))) h → Rn (T6_knot Q S6_isOne S6_its) (16, [some (.ref 41), some (.int o0), some (.int (o + 1)), some (.int (nI j))], [], h)
  | 0, j, e, o, ho, hQ => by
    have e : j = 8 := by omega
    subst e
    have nx := lp6_knotB (o0 := o0) hI hQ 8 0 o (by decide) (by decide) ho rfl (fun x _ b => by simp at b)
    refine Rn_go C6_knot 60 ?_
    simp only [x6_knot_0, x6_knot_1, x6_knot_2, x6_knot_5, x6_knot_8, x6_knot_9, x6_knot_10, x6_knot_11, x6_knot_12, x6_knot_13, x6_knot_14, x6_knot_15, k6_knot_16, t6_knot_16, x6_knot_17, x6_knot_19, x6_knot_22, x6_knot_23, x6_knot_26, x6_knot_27, x6_knot_28, x6_knot_29, x6_knot_30, x6_knot_31, x6_knot_34, x6_knot_35, x6_knot_38, x6_knot_41, x6_knot_42, k6_knot_43, t6_knot_43, x6_knot_44, x6_knot_47, x6_knot_48, x6_knot_49, x6_knot_50, x6_knot_51, x6_knot_52, x6_knot_53, x6_knot_54, x6_knot_57, x6_knot_58, x6_knot_59, x6_knot_60, x6_knot_61, x6_knot_62, x6_knot_63, x6_knot_64, x6_knot_65, x6_knot_66, x6_knot_67, x6_knot_68, x6_knot_69, x6_knot_70, x6_knot_73, x6_knot_74, x6_knot_77, x6_knot_78, i_ald, i_cV, i_goto, i_iadd, i_iand, i_ic, i_ic_ge, i_if_le, i_if_ne, i_ild, i_inc, i_ior, i_iret, i_ishl, i_ishr, i_ist, i_isub, oc_41, fv_41_0, fv_41_1, fv_41_2, fv_41_3, fv_41_4, ly_41_4, fv_41_5, fv_41_6, ly_41_6, fv_41_7, ly_41_7, fv_41_8, ly_41_8, fv_41_9, ly_41_9, fv_41_10, ly_41_10, fv_41_11, ly_41_11, fv_41_12, fv_41_13, fv_41_14, ly_41_14, fv_41_15, fv_41_16, fv_41_17, fv_41_18, fv_41_19, fv_41_20, fv_41_21, fv_41_22, ly_41_22, fv_41_23, ly_41_23, fv_41_24, ly_41_24, fv_41_25, ly_41_25, fv_41_26, ly_41_26, rd_42, al_42, rd_43, al_43, rd_44, al_44, rd_45, al_45, rd_46, al_46, rd_47, al_47, rd_48, al_48, rd_49, al_49, rd_50, al_50, rd_51, al_51, rd_52, al_52, rd_53, al_53, rd_54, al_54, rd_55, al_55, lck_0, lck_i, lck_r, lck_n, lck_l, csum_0, csum_i, csum_r, csum_l, pops_0, pops_s, psh_n, psh_s, List.getElem?_cons_zero, List.getElem?_cons_succ, List.set_cons_zero, List.set_cons_succ, true_and, and_true, Nat.reduceAdd, Nat.reduceLeDiff]
    exact ⟨fun _ => nx, fun c => absurd (by decide) c⟩
  | d + 1, j, e, o, ho, hQ => by
    have hj := nlt8 (j := j) (by omega)
    have hlt : ¬ 8 ≤ nI j := Int32.not_le.mpr hj.2
    have c8 : h 42 0 ≤ 8 := hI.1.2
    by_cases c : o = -1
    · subst c
      have e1 : rgA (mv (h 42)) (d + 1) (-1) = -1 := by rw [rgA, if_neg (fun q => absurd q.1 (by decide))]
      rw [e1] at hQ
      have nx := lp6_knotB (o0 := o0) hI hQ 8 0 (-1) (by decide) (by decide) ho rfl (fun x _ b => by simp at b)
      refine Rn_go C6_knot 60 ?_
      simp only [x6_knot_0, x6_knot_1, x6_knot_2, x6_knot_5, x6_knot_8, x6_knot_9, x6_knot_10, x6_knot_11, x6_knot_12, x6_knot_13, x6_knot_14, x6_knot_15, k6_knot_16, t6_knot_16, x6_knot_17, x6_knot_19, x6_knot_22, x6_knot_23, x6_knot_26, x6_knot_27, x6_knot_28, x6_knot_29, x6_knot_30, x6_knot_31, x6_knot_34, x6_knot_35, x6_knot_38, x6_knot_41, x6_knot_42, k6_knot_43, t6_knot_43, x6_knot_44, x6_knot_47, x6_knot_48, x6_knot_49, x6_knot_50, x6_knot_51, x6_knot_52, x6_knot_53, x6_knot_54, x6_knot_57, x6_knot_58, x6_knot_59, x6_knot_60, x6_knot_61, x6_knot_62, x6_knot_63, x6_knot_64, x6_knot_65, x6_knot_66, x6_knot_67, x6_knot_68, x6_knot_69, x6_knot_70, x6_knot_73, x6_knot_74, x6_knot_77, x6_knot_78, i_ald, i_cV, i_goto, i_iadd, i_iand, i_ic, i_ic_ge, i_if_le, i_if_ne, i_ild, i_inc, i_ior, i_iret, i_ishl, i_ishr, i_ist, i_isub, oc_41, fv_41_0, fv_41_1, fv_41_2, fv_41_3, fv_41_4, ly_41_4, fv_41_5, fv_41_6, ly_41_6, fv_41_7, ly_41_7, fv_41_8, ly_41_8, fv_41_9, ly_41_9, fv_41_10, ly_41_10, fv_41_11, ly_41_11, fv_41_12, fv_41_13, fv_41_14, ly_41_14, fv_41_15, fv_41_16, fv_41_17, fv_41_18, fv_41_19, fv_41_20, fv_41_21, fv_41_22, ly_41_22, fv_41_23, ly_41_23, fv_41_24, ly_41_24, fv_41_25, ly_41_25, fv_41_26, ly_41_26, rd_42, al_42, rd_43, al_43, rd_44, al_44, rd_45, al_45, rd_46, al_46, rd_47, al_47, rd_48, al_48, rd_49, al_49, rd_50, al_50, rd_51, al_51, rd_52, al_52, rd_53, al_53, rd_54, al_54, rd_55, al_55, lck_0, lck_i, lck_r, lck_n, lck_l, csum_0, csum_i, csum_r, csum_l, pops_0, pops_s, psh_n, psh_s, List.getElem?_cons_zero, List.getElem?_cons_succ, List.set_cons_zero, List.set_cons_succ, true_and, and_true, Nat.reduceAdd, Nat.reduceLeDiff, S6_its]
      exact ⟨fun c => absurd c hlt, fun _ => ⟨fun _ => nx, fun c => absurd (by decide) c⟩⟩
    · have h0 : 0 ≤ o := nneg ho.1 c
      have e1 : rgA (mv (h 42)) (d + 1) o = rgA (mv (h 42)) d (mv (h 42) 6 (ix o)) := by rw [rgA, if_pos ⟨h0, ho.2⟩]
      rw [e1] at hQ
      have i6 := (hI.2 (ix o) (ix_n hI h0 ho.2)).2
      have nx := lp6_knotA hI (o0 := o0) d (j + 1) (by omega) _ i6 hQ
      rw [mv_6, show h 42 (15 + 4 * ix o + 3) - 1 + 1 = h 42 (15 + 4 * ix o + 3) by grind, ← nI_1] at nx
      have e3 : o + 1 - 1 = o := by grind
      have c8o : 0 ≤ o ∧ o < 8 := ⟨h0, Int32.lt_of_lt_of_le ho.2 c8⟩
      refine Rn_go C6_knot 60 ?_
      simp only [x6_knot_0, x6_knot_1, x6_knot_2, x6_knot_5, x6_knot_8, x6_knot_9, x6_knot_10, x6_knot_11, x6_knot_12, x6_knot_13, x6_knot_14, x6_knot_15, k6_knot_16, t6_knot_16, x6_knot_17, x6_knot_19, x6_knot_22, x6_knot_23, x6_knot_26, x6_knot_27, x6_knot_28, x6_knot_29, x6_knot_30, x6_knot_31, x6_knot_34, x6_knot_35, x6_knot_38, x6_knot_41, x6_knot_42, k6_knot_43, t6_knot_43, x6_knot_44, x6_knot_47, x6_knot_48, x6_knot_49, x6_knot_50, x6_knot_51, x6_knot_52, x6_knot_53, x6_knot_54, x6_knot_57, x6_knot_58, x6_knot_59, x6_knot_60, x6_knot_61, x6_knot_62, x6_knot_63, x6_knot_64, x6_knot_65, x6_knot_66, x6_knot_67, x6_knot_68, x6_knot_69, x6_knot_70, x6_knot_73, x6_knot_74, x6_knot_77, x6_knot_78, i_ald, i_cV, i_goto, i_iadd, i_iand, i_ic, i_ic_ge, i_if_le, i_if_ne, i_ild, i_inc, i_ior, i_iret, i_ishl, i_ishr, i_ist, i_isub, oc_41, fv_41_0, fv_41_1, fv_41_2, fv_41_3, fv_41_4, ly_41_4, fv_41_5, fv_41_6, ly_41_6, fv_41_7, ly_41_7, fv_41_8, ly_41_8, fv_41_9, ly_41_9, fv_41_10, ly_41_10, fv_41_11, ly_41_11, fv_41_12, fv_41_13, fv_41_14, ly_41_14, fv_41_15, fv_41_16, fv_41_17, fv_41_18, fv_41_19, fv_41_20, fv_41_21, fv_41_22, ly_41_22, fv_41_23, ly_41_23, fv_41_24, ly_41_24, fv_41_25, ly_41_25, fv_41_26, ly_41_26, rd_42, al_42, rd_43, al_43, rd_44, al_44, rd_45, al_45, rd_46, al_46, rd_47, al_47, rd_48, al_48, rd_49, al_49, rd_50, al_50, rd_51, al_51, rd_52, al_52, rd_53, al_53, rd_54, al_54, rd_55, al_55, lck_0, lck_i, lck_r, lck_n, lck_l, csum_0, csum_i, csum_r, csum_l, pops_0, pops_s, psh_n, psh_s, List.getElem?_cons_zero, List.getElem?_cons_succ, List.set_cons_zero, List.set_cons_succ, true_and, and_true, Nat.reduceAdd, Nat.reduceLeDiff, e3, S6_its, t4, ix3]
      exact ⟨fun c => absurd c hlt, fun _ => ⟨fun q => absurd q (p1n c8o), fun _ => ⟨c8o, nx⟩⟩⟩
theorem pr_knot {h : Hp} (r : Rel h) (o : Int32) : S5_knot [.ref 0, .int o] h (fun rv h1 => S6_knot [.ref 41, .int o] h1 (fun rw h2 => rw = rv ∧ Rel h2)) := by
  obtain ⟨g0, g1, g2, g3, g4⟩ := raw r
  have iM := InvR_c r.1.1 r.1.2.1
  by_cases c : 0 ≤ o ∧ o < h 1 6
  · have c2 : 0 ≤ o ∧ o < h 42 0 := by rw [← g0.1]; exact c
    have e1 := rgA_c r.1.1 r.1.2.1 8 o
    have e2 := rgB_c r.1.1 r.1.2.1 8 (rgA (vg h 1) 8 o) 0
    rw [e1] at e2
    refine Rn_in C5_knot 60 ?_
    simp only [x5_knot_0, x5_knot_1, x5_knot_4, x5_knot_5, x5_knot_8, x5_knot_11, x5_knot_12, x5_knot_15, x5_knot_16, x5_knot_19, x5_knot_22, x5_knot_23, i_ald, i_cV, i_get, i_goto, i_ic, i_if_eq, i_ild, i_iret, oc_0, fv_0_0, fv_0_1, fv_0_2, fv_0_3, ly_0_3, fv_0_4, fv_0_5, fv_0_6, ly_0_6, fv_0_7, fv_0_8, fv_0_9, oc_1, fv_1_0, fv_1_1, fv_1_2, fv_1_3, fv_1_4, fv_1_5, fv_1_6, ly_1_6, fv_1_7, ly_1_7, fv_1_8, ly_1_8, rd_2, al_2, rd_3, al_3, rd_4, al_4, rd_5, al_5, rd_6, al_6, rd_7, al_7, lck_0, lck_i, lck_r, lck_n, lck_l, csum_0, csum_i, csum_r, csum_l, pops_0, pops_s, psh_n, psh_s, List.getElem?_cons_zero, List.getElem?_cons_succ, List.set_cons_zero, List.set_cons_succ, true_and, and_true, Nat.reduceAdd, Nat.reduceLeDiff, S1_has, S1_ringFrom, GB_1, b2_0, c, nn, false_implies, true_implies, implies_true, and_true, true_and, not_true_eq_false, not_false_eq_true, eq_self]
    refine ⟨g3, Rn_in C6_knot 60 ?_⟩
    rw [e1, e2]
    have := lp6_knotA iM (o0 := o) (Q := fun rw h2 => rw = some (.int (rgB (mv (h 42)) 8 (rgA (mv (h 42)) 8 o) 0)) ∧ Rel h2) 8 0 (by omega) o ⟨by grind, c2.2⟩ ⟨rfl, r⟩
    rw [Int32.add_comm] at this
    simp only [x6_knot_0, x6_knot_1, x6_knot_2, x6_knot_5, x6_knot_8, x6_knot_9, x6_knot_10, x6_knot_11, x6_knot_12, x6_knot_13, x6_knot_14, x6_knot_15, k6_knot_16, t6_knot_16, x6_knot_17, x6_knot_19, x6_knot_22, x6_knot_23, x6_knot_26, x6_knot_27, x6_knot_28, x6_knot_29, x6_knot_30, x6_knot_31, x6_knot_34, x6_knot_35, x6_knot_38, x6_knot_41, x6_knot_42, k6_knot_43, t6_knot_43, x6_knot_44, x6_knot_47, x6_knot_48, x6_knot_49, x6_knot_50, x6_knot_51, x6_knot_52, x6_knot_53, x6_knot_54, x6_knot_57, x6_knot_58, x6_knot_59, x6_knot_60, x6_knot_61, x6_knot_62, x6_knot_63, x6_knot_64, x6_knot_65, x6_knot_66, x6_knot_67, x6_knot_68, x6_knot_69, x6_knot_70, x6_knot_73, x6_knot_74, x6_knot_77, x6_knot_78, i_ald, i_cV, i_goto, i_iadd, i_iand, i_ic, i_ic_ge, i_if_le, i_if_ne, i_ild, i_inc, i_ior, i_iret, i_ishl, i_ishr, i_ist, i_isub, oc_41, fv_41_0, fv_41_1, fv_41_2, fv_41_3, fv_41_4, ly_41_4, fv_41_5, fv_41_6, ly_41_6, fv_41_7, ly_41_7, fv_41_8, ly_41_8, fv_41_9, ly_41_9, fv_41_10, ly_41_10, fv_41_11, ly_41_11, fv_41_12, fv_41_13, fv_41_14, ly_41_14, fv_41_15, fv_41_16, fv_41_17, fv_41_18, fv_41_19, fv_41_20, fv_41_21, fv_41_22, ly_41_22, fv_41_23, ly_41_23, fv_41_24, ly_41_24, fv_41_25, ly_41_25, fv_41_26, ly_41_26, rd_42, al_42, rd_43, al_43, rd_44, al_44, rd_45, al_45, rd_46, al_46, rd_47, al_47, rd_48, al_48, rd_49, al_49, rd_50, al_50, rd_51, al_51, rd_52, al_52, rd_53, al_53, rd_54, al_54, rd_55, al_55, lck_0, lck_i, lck_r, lck_n, lck_l, csum_0, csum_i, csum_r, csum_l, pops_0, pops_s, psh_n, psh_s, List.getElem?_cons_zero, List.getElem?_cons_succ, List.set_cons_zero, List.set_cons_succ, true_and, and_true, Nat.reduceAdd, Nat.reduceLeDiff, S6_isOne, hsB_0, c2, nn, false_implies, true_implies, implies_true, and_true, true_and, not_true_eq_false, not_false_eq_true, eq_self]
    exact this
  · have c2 : ¬ (0 ≤ o ∧ o < h 42 0) := by rw [← g0.1]; exact c
    refine Rn_in C5_knot 60 ?_
    simp only [x5_knot_0, x5_knot_1, x5_knot_4, x5_knot_5, x5_knot_8, x5_knot_11, x5_knot_12, x5_knot_15, x5_knot_16, x5_knot_19, x5_knot_22, x5_knot_23, i_ald, i_cV, i_get, i_goto, i_ic, i_if_eq, i_ild, i_iret, oc_0, fv_0_0, fv_0_1, fv_0_2, fv_0_3, ly_0_3, fv_0_4, fv_0_5, fv_0_6, ly_0_6, fv_0_7, fv_0_8, fv_0_9, oc_1, fv_1_0, fv_1_1, fv_1_2, fv_1_3, fv_1_4, fv_1_5, fv_1_6, ly_1_6, fv_1_7, ly_1_7, fv_1_8, ly_1_8, rd_2, al_2, rd_3, al_3, rd_4, al_4, rd_5, al_5, rd_6, al_6, rd_7, al_7, lck_0, lck_i, lck_r, lck_n, lck_l, csum_0, csum_i, csum_r, csum_l, pops_0, pops_s, psh_n, psh_s, List.getElem?_cons_zero, List.getElem?_cons_succ, List.set_cons_zero, List.set_cons_succ, true_and, and_true, Nat.reduceAdd, Nat.reduceLeDiff, S1_has, S1_ringFrom, GB_1, b2_0, c, nn, false_implies, true_implies, implies_true, and_true, true_and, not_true_eq_false, not_false_eq_true, eq_self]
    refine Rn_in C6_knot 60 ?_
    simp only [x6_knot_0, x6_knot_1, x6_knot_2, x6_knot_5, x6_knot_8, x6_knot_9, x6_knot_10, x6_knot_11, x6_knot_12, x6_knot_13, x6_knot_14, x6_knot_15, k6_knot_16, t6_knot_16, x6_knot_17, x6_knot_19, x6_knot_22, x6_knot_23, x6_knot_26, x6_knot_27, x6_knot_28, x6_knot_29, x6_knot_30, x6_knot_31, x6_knot_34, x6_knot_35, x6_knot_38, x6_knot_41, x6_knot_42, k6_knot_43, t6_knot_43, x6_knot_44, x6_knot_47, x6_knot_48, x6_knot_49, x6_knot_50, x6_knot_51, x6_knot_52, x6_knot_53, x6_knot_54, x6_knot_57, x6_knot_58, x6_knot_59, x6_knot_60, x6_knot_61, x6_knot_62, x6_knot_63, x6_knot_64, x6_knot_65, x6_knot_66, x6_knot_67, x6_knot_68, x6_knot_69, x6_knot_70, x6_knot_73, x6_knot_74, x6_knot_77, x6_knot_78, i_ald, i_cV, i_goto, i_iadd, i_iand, i_ic, i_ic_ge, i_if_le, i_if_ne, i_ild, i_inc, i_ior, i_iret, i_ishl, i_ishr, i_ist, i_isub, oc_41, fv_41_0, fv_41_1, fv_41_2, fv_41_3, fv_41_4, ly_41_4, fv_41_5, fv_41_6, ly_41_6, fv_41_7, ly_41_7, fv_41_8, ly_41_8, fv_41_9, ly_41_9, fv_41_10, ly_41_10, fv_41_11, ly_41_11, fv_41_12, fv_41_13, fv_41_14, ly_41_14, fv_41_15, fv_41_16, fv_41_17, fv_41_18, fv_41_19, fv_41_20, fv_41_21, fv_41_22, ly_41_22, fv_41_23, ly_41_23, fv_41_24, ly_41_24, fv_41_25, ly_41_25, fv_41_26, ly_41_26, rd_42, al_42, rd_43, al_43, rd_44, al_44, rd_45, al_45, rd_46, al_46, rd_47, al_47, rd_48, al_48, rd_49, al_49, rd_50, al_50, rd_51, al_51, rd_52, al_52, rd_53, al_53, rd_54, al_54, rd_55, al_55, lck_0, lck_i, lck_r, lck_n, lck_l, csum_0, csum_i, csum_r, csum_l, pops_0, pops_s, psh_n, psh_s, List.getElem?_cons_zero, List.getElem?_cons_succ, List.set_cons_zero, List.set_cons_succ, true_and, and_true, Nat.reduceAdd, Nat.reduceLeDiff, S6_isOne, hsB_0, c2, nn, false_implies, true_implies, implies_true, and_true, true_and, not_true_eq_false, not_false_eq_true, eq_self]
    exact r
