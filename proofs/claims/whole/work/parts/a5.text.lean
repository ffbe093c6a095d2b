/-! gaol -/
def D5_gaol : List Nat := [18]
section ITG
variable {Q : Po} {m : Nat} {K : St → Prop} {L : Lo} {s : List Value} {h : Hp} {S1_becomeFirst S4_read S1_copy : Sp}
theorem y5_gaol_0 : wpn (T5_gaol Q S1_becomeFirst S4_read S1_copy) D5_gaol (m + 1) K (0, L, s, h) = i_ald 0 1 (wpn (T5_gaol Q S1_becomeFirst S4_read S1_copy) D5_gaol m K) L s h := rfl
theorem y5_gaol_1 : wpn (T5_gaol Q S1_becomeFirst S4_read S1_copy) D5_gaol (m + 1) K (1, L, s, h) = i_get 5 1 4 (wpn (T5_gaol Q S1_becomeFirst S4_read S1_copy) D5_gaol m K) L s h := rfl
theorem y5_gaol_4 : wpn (T5_gaol Q S1_becomeFirst S4_read S1_copy) D5_gaol (m + 1) K (4, L, s, h) = i_cV 0 1 S1_becomeFirst 7 (wpn (T5_gaol Q S1_becomeFirst S4_read S1_copy) D5_gaol m K) L s h := rfl
theorem y5_gaol_7 : wpn (T5_gaol Q S1_becomeFirst S4_read S1_copy) D5_gaol (m + 1) K (7, L, s, h) = i_ald 0 8 (wpn (T5_gaol Q S1_becomeFirst S4_read S1_copy) D5_gaol m K) L s h := rfl
theorem y5_gaol_8 : wpn (T5_gaol Q S1_becomeFirst S4_read S1_copy) D5_gaol (m + 1) K (8, L, s, h) = i_get 5 4 11 (wpn (T5_gaol Q S1_becomeFirst S4_read S1_copy) D5_gaol m K) L s h := rfl
theorem y5_gaol_11 : wpn (T5_gaol Q S1_becomeFirst S4_read S1_copy) D5_gaol (m + 1) K (11, L, s, h) = i_ald 0 12 (wpn (T5_gaol Q S1_becomeFirst S4_read S1_copy) D5_gaol m K) L s h := rfl
theorem y5_gaol_12 : wpn (T5_gaol Q S1_becomeFirst S4_read S1_copy) D5_gaol (m + 1) K (12, L, s, h) = i_get 5 1 15 (wpn (T5_gaol Q S1_becomeFirst S4_read S1_copy) D5_gaol m K) L s h := rfl
theorem y5_gaol_15 : wpn (T5_gaol Q S1_becomeFirst S4_read S1_copy) D5_gaol (m + 1) K (15, L, s, h) = i_cV 1 4 S4_read 18 (wpn (T5_gaol Q S1_becomeFirst S4_read S1_copy) D5_gaol m K) L s h := rfl
theorem k5_gaol_18 : wpn (T5_gaol Q S1_becomeFirst S4_read S1_copy) D5_gaol (m + 1) K (18, L, s, h) = K (18, L, s, h) := rfl
theorem t5_gaol_18 : T5_gaol Q S1_becomeFirst S4_read S1_copy 18 = i_ist 1 19 := rfl
theorem y5_gaol_19 : wpn (T5_gaol Q S1_becomeFirst S4_read S1_copy) D5_gaol (m + 1) K (19, L, s, h) = i_ald 0 20 (wpn (T5_gaol Q S1_becomeFirst S4_read S1_copy) D5_gaol m K) L s h := rfl
theorem y5_gaol_20 : wpn (T5_gaol Q S1_becomeFirst S4_read S1_copy) D5_gaol (m + 1) K (20, L, s, h) = i_get 5 4 23 (wpn (T5_gaol Q S1_becomeFirst S4_read S1_copy) D5_gaol m K) L s h := rfl
theorem y5_gaol_23 : wpn (T5_gaol Q S1_becomeFirst S4_read S1_copy) D5_gaol (m + 1) K (23, L, s, h) = i_ic 0 24 (wpn (T5_gaol Q S1_becomeFirst S4_read S1_copy) D5_gaol m K) L s h := rfl
theorem y5_gaol_24 : wpn (T5_gaol Q S1_becomeFirst S4_read S1_copy) D5_gaol (m + 1) K (24, L, s, h) = i_put 4 1 27 (wpn (T5_gaol Q S1_becomeFirst S4_read S1_copy) D5_gaol m K) L s h := rfl
theorem y5_gaol_27 : wpn (T5_gaol Q S1_becomeFirst S4_read S1_copy) D5_gaol (m + 1) K (27, L, s, h) = i_ild 1 28 (wpn (T5_gaol Q S1_becomeFirst S4_read S1_copy) D5_gaol m K) L s h := rfl
theorem y5_gaol_28 : wpn (T5_gaol Q S1_becomeFirst S4_read S1_copy) D5_gaol (m + 1) K (28, L, s, h) = i_if_lt 36 31 (wpn (T5_gaol Q S1_becomeFirst S4_read S1_copy) D5_gaol m K) L s h := rfl
theorem y5_gaol_31 : wpn (T5_gaol Q S1_becomeFirst S4_read S1_copy) D5_gaol (m + 1) K (31, L, s, h) = i_ic (-100) 33 (wpn (T5_gaol Q S1_becomeFirst S4_read S1_copy) D5_gaol m K) L s h := rfl
theorem y5_gaol_33 : wpn (T5_gaol Q S1_becomeFirst S4_read S1_copy) D5_gaol (m + 1) K (33, L, s, h) = i_ild 1 34 (wpn (T5_gaol Q S1_becomeFirst S4_read S1_copy) D5_gaol m K) L s h := rfl
theorem y5_gaol_34 : wpn (T5_gaol Q S1_becomeFirst S4_read S1_copy) D5_gaol (m + 1) K (34, L, s, h) = i_isub 35 (wpn (T5_gaol Q S1_becomeFirst S4_read S1_copy) D5_gaol m K) L s h := rfl
theorem y5_gaol_35 : wpn (T5_gaol Q S1_becomeFirst S4_read S1_copy) D5_gaol (m + 1) K (35, L, s, h) = i_iret Q (wpn (T5_gaol Q S1_becomeFirst S4_read S1_copy) D5_gaol m K) L s h := rfl
theorem y5_gaol_36 : wpn (T5_gaol Q S1_becomeFirst S4_read S1_copy) D5_gaol (m + 1) K (36, L, s, h) = i_ald 0 37 (wpn (T5_gaol Q S1_becomeFirst S4_read S1_copy) D5_gaol m K) L s h := rfl
theorem y5_gaol_37 : wpn (T5_gaol Q S1_becomeFirst S4_read S1_copy) D5_gaol (m + 1) K (37, L, s, h) = i_get 5 1 40 (wpn (T5_gaol Q S1_becomeFirst S4_read S1_copy) D5_gaol m K) L s h := rfl
theorem y5_gaol_40 : wpn (T5_gaol Q S1_becomeFirst S4_read S1_copy) D5_gaol (m + 1) K (40, L, s, h) = i_ald 0 41 (wpn (T5_gaol Q S1_becomeFirst S4_read S1_copy) D5_gaol m K) L s h := rfl
theorem y5_gaol_41 : wpn (T5_gaol Q S1_becomeFirst S4_read S1_copy) D5_gaol (m + 1) K (41, L, s, h) = i_get 5 0 44 (wpn (T5_gaol Q S1_becomeFirst S4_read S1_copy) D5_gaol m K) L s h := rfl
theorem y5_gaol_44 : wpn (T5_gaol Q S1_becomeFirst S4_read S1_copy) D5_gaol (m + 1) K (44, L, s, h) = i_get 1 8 47 (wpn (T5_gaol Q S1_becomeFirst S4_read S1_copy) D5_gaol m K) L s h := rfl
theorem y5_gaol_47 : wpn (T5_gaol Q S1_becomeFirst S4_read S1_copy) D5_gaol (m + 1) K (47, L, s, h) = i_put 1 8 50 (wpn (T5_gaol Q S1_becomeFirst S4_read S1_copy) D5_gaol m K) L s h := rfl
theorem y5_gaol_50 : wpn (T5_gaol Q S1_becomeFirst S4_read S1_copy) D5_gaol (m + 1) K (50, L, s, h) = i_ald 0 51 (wpn (T5_gaol Q S1_becomeFirst S4_read S1_copy) D5_gaol m K) L s h := rfl
theorem y5_gaol_51 : wpn (T5_gaol Q S1_becomeFirst S4_read S1_copy) D5_gaol (m + 1) K (51, L, s, h) = i_get 5 0 54 (wpn (T5_gaol Q S1_becomeFirst S4_read S1_copy) D5_gaol m K) L s h := rfl
theorem y5_gaol_54 : wpn (T5_gaol Q S1_becomeFirst S4_read S1_copy) D5_gaol (m + 1) K (54, L, s, h) = i_ald 0 55 (wpn (T5_gaol Q S1_becomeFirst S4_read S1_copy) D5_gaol m K) L s h := rfl
theorem y5_gaol_55 : wpn (T5_gaol Q S1_becomeFirst S4_read S1_copy) D5_gaol (m + 1) K (55, L, s, h) = i_get 5 1 58 (wpn (T5_gaol Q S1_becomeFirst S4_read S1_copy) D5_gaol m K) L s h := rfl
theorem y5_gaol_58 : wpn (T5_gaol Q S1_becomeFirst S4_read S1_copy) D5_gaol (m + 1) K (58, L, s, h) = i_cV 1 1 S1_copy 61 (wpn (T5_gaol Q S1_becomeFirst S4_read S1_copy) D5_gaol m K) L s h := rfl
theorem y5_gaol_61 : wpn (T5_gaol Q S1_becomeFirst S4_read S1_copy) D5_gaol (m + 1) K (61, L, s, h) = i_ald 0 62 (wpn (T5_gaol Q S1_becomeFirst S4_read S1_copy) D5_gaol m K) L s h := rfl
theorem y5_gaol_62 : wpn (T5_gaol Q S1_becomeFirst S4_read S1_copy) D5_gaol (m + 1) K (62, L, s, h) = i_ic 0 63 (wpn (T5_gaol Q S1_becomeFirst S4_read S1_copy) D5_gaol m K) L s h := rfl
theorem y5_gaol_63 : wpn (T5_gaol Q S1_becomeFirst S4_read S1_copy) D5_gaol (m + 1) K (63, L, s, h) = i_put 5 6 66 (wpn (T5_gaol Q S1_becomeFirst S4_read S1_copy) D5_gaol m K) L s h := rfl
theorem y5_gaol_66 : wpn (T5_gaol Q S1_becomeFirst S4_read S1_copy) D5_gaol (m + 1) K (66, L, s, h) = i_ald 0 67 (wpn (T5_gaol Q S1_becomeFirst S4_read S1_copy) D5_gaol m K) L s h := rfl
theorem y5_gaol_67 : wpn (T5_gaol Q S1_becomeFirst S4_read S1_copy) D5_gaol (m + 1) K (67, L, s, h) = i_get 5 0 70 (wpn (T5_gaol Q S1_becomeFirst S4_read S1_copy) D5_gaol m K) L s h := rfl
theorem y5_gaol_70 : wpn (T5_gaol Q S1_becomeFirst S4_read S1_copy) D5_gaol (m + 1) K (70, L, s, h) = i_get 1 6 73 (wpn (T5_gaol Q S1_becomeFirst S4_read S1_copy) D5_gaol m K) L s h := rfl
theorem y5_gaol_73 : wpn (T5_gaol Q S1_becomeFirst S4_read S1_copy) D5_gaol (m + 1) K (73, L, s, h) = i_iret Q (wpn (T5_gaol Q S1_becomeFirst S4_read S1_copy) D5_gaol m K) L s h := rfl
end ITG
theorem Rel_txt {h g : Hp} (r : Rel h) (same : ∀ p, ¬ scr p → p ≠ 0 → p ≠ 22 → p ≠ 41 → g p = h p) (c0 : g 0 3 = h 0 3) (c4 : g 41 4 = h 41 4) (c22 : g 41 22 = h 41 22) (t1 : g 22 1 = 0) (t2 : g 41 6 = 0) (w : (g 0 6 = h 0 6 ∧ g 41 14 = h 41 14) ∨ (g 0 6 = 0 ∧ g 41 14 = 0)) (hG : RG g) : Rel g := by
  obtain ⟨_, rk, rt, rw2, rs, rh, rd⟩ := r
  have s1 : ∀ p, 15 ≤ p → p ≤ 40 → p ≠ 22 → g p = h p := fun p a b d => same p (by unfold scr; omega) (by omega) d (by omega)
  have s2 : ∀ p, 48 ≤ p → p ≤ 55 → g p = h p := fun p a b => same p (by unfold scr; omega) (by omega) (by omega) (by omega)
  have s43 : g 43 = h 43 := same 43 (by unfold scr; omega) (by omega) (by omega) (by omega)
  refine ⟨hG, RK_s rk (fun p a b => s1 p a (by omega) (by omega)) s43 c0 c4, ?_, ?_, RS_s rs (fun p a b => s1 p (by omega) (by omega) (by omega)) (s2 49 (by omega) (by omega)) (s2 50 (by omega) (by omega)) (s2 51 (by omega) (by omega)), RH_s rh (fun p a b => s1 p (by omega) (by omega) (by omega)) (s2 52 (by omega) (by omega)) (s2 53 (by omega) (by omega)) (s2 54 (by omega) (by omega)), RD_s rd (by rw [s1 39 (by omega) (by omega) (by omega)]) c22 (s1 40 (by omega) (by omega) (by omega)) (s2 55 (by omega) (by omega))⟩
  · unfold RT
    rw [t1, t2]
    exact ⟨rfl, ⟨by decide, by decide⟩, fun k hk => absurd hk (by rw [show ix 0 = 0 from rfl]; omega)⟩
  · rcases w with ⟨w1, w2⟩ | ⟨w1, w2⟩
    · exact RW2_s rw2 w1 w2 (s1 24 (by omega) (by omega) (by omega)) (s2 48 (by omega) (by omega))
    · unfold RW2
      rw [w1, w2]
      exact ⟨rfl, ⟨by decide, by decide⟩, fun k hk => absurd hk (by rw [show ix 0 = 0 from rfl]; omega)⟩
def S5_gaol : Sp := fun av h Q => match av with | [.ref x] => Rn (T5_gaol Q S1_becomeFirst S4_read S1_copy) (0, [some (.ref x), none], [], h) | _ => False
theorem rn5_gaol {h : Hp} {Q : Po} {x : Nat} (hS : S5_gaol [.ref x] h Q) : Rn (T5_gaol Q S1_becomeFirst S4_read S1_copy) (0, [some (.ref x), none], [], h) := hS
theorem glF {Q : Po} {g : Hp} {x : Int32} (hx : ¬ x < 0) (hQ : Q (some (.int (-100 - x))) (up2 g 22 1 0)) : Rn (T5_gaol Q S1_becomeFirst S4_read S1_copy) (18, [some (.ref 0), none], [.int x], g) := by
  refine Rn_go D5_gaol 60 ?_
  simp only [y5_gaol_0, y5_gaol_1, y5_gaol_4, y5_gaol_7, y5_gaol_8, y5_gaol_11, y5_gaol_12, y5_gaol_15, y5_gaol_19, y5_gaol_20, y5_gaol_23, y5_gaol_24, y5_gaol_27, y5_gaol_28, y5_gaol_31, y5_gaol_33, y5_gaol_34, y5_gaol_35, y5_gaol_36, y5_gaol_37, y5_gaol_40, y5_gaol_41, y5_gaol_44, y5_gaol_47, y5_gaol_50, y5_gaol_51, y5_gaol_54, y5_gaol_55, y5_gaol_58, y5_gaol_61, y5_gaol_62, y5_gaol_63, y5_gaol_66, y5_gaol_67, y5_gaol_70, y5_gaol_73, i_ald, i_cV, i_get, i_ic, i_if_lt, i_ild, i_iret, i_ist, i_isub, i_put, oc_0, fv_0_0, fv_0_1, fv_0_2, fv_0_3, ly_0_3, fv_0_4, fv_0_5, fv_0_6, ly_0_6, fv_0_7, fv_0_8, fv_0_9, oc_1, fv_1_0, fv_1_1, fv_1_2, fv_1_3, fv_1_4, fv_1_5, fv_1_6, ly_1_6, fv_1_7, ly_1_7, fv_1_8, ly_1_8, rd_2, al_2, rd_3, al_3, rd_4, al_4, rd_5, al_5, rd_6, al_6, rd_7, al_7, oc_8, fv_8_0, fv_8_1, fv_8_2, fv_8_3, fv_8_4, fv_8_5, fv_8_6, ly_8_6, fv_8_7, ly_8_7, fv_8_8, ly_8_8, rd_9, al_9, rd_10, al_10, rd_11, al_11, rd_12, al_12, rd_13, al_13, rd_14, al_14, oc_22, fv_22_0, fv_22_1, ly_22_1, fv_22_2, ly_22_2, fv_22_3, ly_22_3, fv_22_4, ly_22_4, fv_22_5, ly_22_5, fv_22_6, ly_22_6, rd_23, al_23, lck_0, lck_i, lck_r, lck_n, lck_l, csum_0, csum_i, csum_r, csum_l, pops_0, pops_s, psh_n, psh_s, List.getElem?_cons_zero, List.getElem?_cons_succ, List.set_cons_zero, List.set_cons_succ, true_and, and_true, Nat.reduceAdd, Nat.reduceLeDiff, t5_gaol_18, hx, nn, false_implies, true_implies, implies_true, and_true, true_and, not_true_eq_false, not_false_eq_true, eq_self]
  exact hQ
theorem glS {Q : Po} {g : Hp} {x : Int32} (hx : x < 0) (hQ : ∀ g1, g1 = up2 (up2 g 22 1 0) 8 8 (g 1 8) → Q (some (.int (g 8 6))) (up2 (pg g1 1 (cpG (vg g1 1) (vg g1 8))) 0 6 0)) : Rn (T5_gaol Q S1_becomeFirst S4_read S1_copy) (18, [some (.ref 0), none], [.int x], g) := by
  have hF := hQ _ rfl
  have e1 : up2 g 22 1 0 1 8 = g 1 8 := by rw [up2_ne (by decide)]
  have e2 : up2 (pg (up2 (up2 g 22 1 0) 8 8 (g 1 8)) 1 (cpG (vg (up2 (up2 g 22 1 0) 8 8 (g 1 8)) 1) (vg (up2 (up2 g 22 1 0) 8 8 (g 1 8)) 8))) 0 6 0 1 6 = g 8 6 := by
    rw [up2_ne (by decide), pg1_0, cpG_6]
    show up2 (up2 g 22 1 0) 8 8 (g 1 8) 8 6 = g 8 6
    simp [up2]
  refine Rn_go D5_gaol 60 ?_
  simp only [y5_gaol_0, y5_gaol_1, y5_gaol_4, y5_gaol_7, y5_gaol_8, y5_gaol_11, y5_gaol_12, y5_gaol_15, y5_gaol_19, y5_gaol_20, y5_gaol_23, y5_gaol_24, y5_gaol_27, y5_gaol_28, y5_gaol_31, y5_gaol_33, y5_gaol_34, y5_gaol_35, y5_gaol_36, y5_gaol_37, y5_gaol_40, y5_gaol_41, y5_gaol_44, y5_gaol_47, y5_gaol_50, y5_gaol_51, y5_gaol_54, y5_gaol_55, y5_gaol_58, y5_gaol_61, y5_gaol_62, y5_gaol_63, y5_gaol_66, y5_gaol_67, y5_gaol_70, y5_gaol_73, i_ald, i_cV, i_get, i_ic, i_if_lt, i_ild, i_iret, i_ist, i_isub, i_put, oc_0, fv_0_0, fv_0_1, fv_0_2, fv_0_3, ly_0_3, fv_0_4, fv_0_5, fv_0_6, ly_0_6, fv_0_7, fv_0_8, fv_0_9, oc_1, fv_1_0, fv_1_1, fv_1_2, fv_1_3, fv_1_4, fv_1_5, fv_1_6, ly_1_6, fv_1_7, ly_1_7, fv_1_8, ly_1_8, rd_2, al_2, rd_3, al_3, rd_4, al_4, rd_5, al_5, rd_6, al_6, rd_7, al_7, oc_8, fv_8_0, fv_8_1, fv_8_2, fv_8_3, fv_8_4, fv_8_5, fv_8_6, ly_8_6, fv_8_7, ly_8_7, fv_8_8, ly_8_8, rd_9, al_9, rd_10, al_10, rd_11, al_11, rd_12, al_12, rd_13, al_13, rd_14, al_14, oc_22, fv_22_0, fv_22_1, ly_22_1, fv_22_2, ly_22_2, fv_22_3, ly_22_3, fv_22_4, ly_22_4, fv_22_5, ly_22_5, fv_22_6, ly_22_6, rd_23, al_23, lck_0, lck_i, lck_r, lck_n, lck_l, csum_0, csum_i, csum_r, csum_l, pops_0, pops_s, psh_n, psh_s, List.getElem?_cons_zero, List.getElem?_cons_succ, List.set_cons_zero, List.set_cons_succ, true_and, and_true, Nat.reduceAdd, Nat.reduceLeDiff, t5_gaol_18, S1_copy, CP_18, hx, e1, e2, nn, false_implies, true_implies, implies_true, and_true, true_and, not_true_eq_false, not_false_eq_true, eq_self]
  exact hF
theorem run_ok {n : Nat} {t : Nat → Int32} : ∀ d p G {h : Hp}, p ≤ n → InvG G → Hi8 h G → (match run n t d p G with | .inl q => q ≤ n | .inr H => InvG H ∧ Hi8 h H)
  | 0, p, G, h, hp, hI, hG => ⟨hI, hG⟩
  | d + 1, p, G, h, hp, hI, hG => by
    rw [run]
    by_cases k : kd n t (st n t p) = 0
    · rw [if_pos k]
      exact ⟨hI, hG⟩
    · rw [if_neg k]
      have ok := itm_ok hG hp hI k
      revert ok
      rcases itm n t p G with q | ⟨e, H⟩
      · exact fun ok => ok
      · intro ok
        exact run_ok d e H ok.1.2 ok.2.1 ok.2.2
theorem RG_cp {h X : Hp} (rg : RG h) (a : ∀ p, 1 ≤ p → p ≤ 7 → X p = h p) {f s : Nat → Int32} (b : X 42 = cp47 (cp47 (h 42) f) s) : RG X := by
  have e8 : nG (mv (h 42)) ≤ 8 := nG_8 (InvR_c rg.1 rg.2.1)
  have e : ∀ j, j ≤ 6 → vg X 1 j = vg h 1 j := fun j hj => by
    funext k; simp only [vg]; rw [a (1 + j) (by omega) (by omega)]
  have e2 : Geq (vg X 1) (vg h 1) := by
    unfold Geq
    rw [e 0 (by omega), e 1 (by omega), e 2 (by omega), e 3 (by omega), e 4 (by omega), e 5 (by omega), e 6 (by omega)]
    exact ⟨⟨rfl, rfl, rfl⟩, fun _ _ => rfl, fun _ _ => rfl, fun _ _ => ⟨rfl, rfl, rfl, rfl⟩⟩
  have e3 : X 42 = cp47 (h 42) s := by
    rw [b]; funext k; simp only [cp47]; split <;> rfl
  refine ⟨?_, InvG_c e2.symm rg.2⟩
  rw [e3]
  exact e2.trans (rg.1.trans (mv_cp e8))
theorem gl_F {h g : Hp} {n q : Nat} (r : Rel h) (hn : n ≤ 200) (mc : ∀ g : Hp, g 41 = h 41 → g 46 = h 46 → MCt n (h 23) g) (qa : ∀ k, 14 < k → k ≠ 22 → g k = h k) (qb : ∀ k, k < 8 → g k = h k) (q22 : g 22 1 = 0) (hx : run n (h 23) n 0 (bfG (vg h 8)) = .inl q) : S6_gaol [.ref 41] g (fun rw h2 => rw = some (.int (-100 - nI (st n (h 23) q))) ∧ Rel h2) := by
  refine gaolM (vg h 8) (mc g (qa 41 (by omega) (by omega)) (qa 46 (by omega) (by omega))) ?_
  rw [hx]
  intro s
  have ea : ∀ k, k ≠ 41 → k ≠ 42 → k ≠ 45 → upA (up2 (MK n (h 23) (upA g 45 (cp47 (g 42) (g 45))) s q 1) 41 6 0) 42 (cp47 (upA g 45 (cp47 (g 42) (g 45)) 45) s) k = g k := fun k a b c => by
    rw [upA_ne b, up2_ne a, MK_n _ _ _ _ _ _ a b, upA_ne c]
  have e41 : ∀ k, k ≠ 6 → (k < 7 ∨ 11 < k) → upA (up2 (MK n (h 23) (upA g 45 (cp47 (g 42) (g 45))) s q 1) 41 6 0) 42 (cp47 (upA g 45 (cp47 (g 42) (g 45)) 45) s) 41 k = g 41 k := fun k a b => by
    rw [upA_ne (by decide), up2_self, upd, if_neg a]
    unfold MK
    rw [upA_self, if_neg (by omega), if_neg (by omega), if_neg (by omega), if_neg (by omega), if_neg (by omega), upA_ne (by decide)]
  have e6 : upA (up2 (MK n (h 23) (upA g 45 (cp47 (g 42) (g 45))) s q 1) 41 6 0) 42 (cp47 (upA g 45 (cp47 (g 42) (g 45)) 45) s) 41 6 = 0 := by
    rw [upA_ne (by decide), up2_self, upd, if_pos rfl]
  have e42 : upA (up2 (MK n (h 23) (upA g 45 (cp47 (g 42) (g 45))) s q 1) 41 6 0) 42 (cp47 (upA g 45 (cp47 (g 42) (g 45)) 45) s) 42 = cp47 (cp47 (h 42) (g 45)) s := by
    rw [upA_self, upA_self, qa 42 (by omega) (by omega)]
  generalize upA (up2 (MK n (h 23) (upA g 45 (cp47 (g 42) (g 45))) s q 1) 41 6 0) 42 (cp47 (upA g 45 (cp47 (g 42) (g 45)) 45) s) = X at ea e41 e6 e42 ⊢
  have h41 := qa 41 (by omega) (by omega)
  refine ⟨rfl, Rel_txt r ?_ ?_ ?_ ?_ ?_ e6 (Or.inl ⟨?_, ?_⟩) (RG_cp r.1 (fun p a b => ?_) e42)⟩
  · intro k a1 a2 a3 a4
    unfold scr at a1
    rw [ea k a4 (by omega) (by omega)]
    rcases Nat.lt_or_ge k 8 with x | x
    · exact qb k x
    · exact qa k (by omega) a3
  · rw [ea 0 (by omega) (by omega) (by omega), qb 0 (by omega)]
  · rw [e41 4 (by omega) (by omega), h41]
  · rw [e41 22 (by omega) (by omega), h41]
  · rw [ea 22 (by omega) (by omega) (by omega), q22]
  · rw [ea 0 (by omega) (by omega) (by omega), qb 0 (by omega)]
  · rw [e41 14 (by omega) (by omega), h41]
  · rw [ea p (by omega) (by omega) (by omega), qb p (by omega)]
theorem InvG_z {G : GG} (z : Int32) (h : InvG G) : InvG (zG z G) := by
  have e : ∀ j, j ≠ 0 → zG z G j = G j := fun j hj => up2_ne hj
  have n6 := zG_6 z G
  have nn := zG_n z G
  refine ⟨⟨by rw [n6]; exact h.1.1, fun i hi => ?_⟩, by rw [e 1 (by decide)]; exact h.2.1, fun i hi => ?_⟩
  · rw [nn] at hi
    rw [e 5 (by decide), e 6 (by decide), n6]
    exact h.1.2 i hi
  · rw [nn] at hi
    rw [e 3 (by decide)]
    exact h.2.2 i hi
theorem Geq_of {G H : GG} (e : ∀ j, j ≤ 6 → G j = H j) : Geq G H := by
  unfold Geq
  rw [e 0 (by omega), e 1 (by omega), e 2 (by omega), e 3 (by omega), e 4 (by omega), e 5 (by omega), e 6 (by omega)]
  exact ⟨⟨rfl, rfl, rfl⟩, fun _ _ => rfl, fun _ _ => rfl, fun _ _ => ⟨rfl, rfl, rfl, rfl⟩⟩
theorem gl_S {h g g1 : Hp} {n : Nat} {G : GG} (r : Rel h) (hn : n ≤ 200) (mc : ∀ g : Hp, g 41 = h 41 → g 46 = h 46 → MCt n (h 23) g) (ga : ∀ k, (k < 8 ∨ 14 < k) → k ≠ 22 → g k = h k) (gb : ∀ j, j ≤ 6 → g (8 + j) = G j) (e1 : g1 = up2 (up2 g 22 1 0) 8 8 (g 1 8)) (hI : InvG G) (hx : run n (h 23) n 0 (bfG (vg h 8)) = .inr G) : S6_gaol [.ref 41] (up2 (pg g1 1 (cpG (vg g1 1) (vg g1 8))) 0 6 0) (fun rw h2 => rw = some (.int (g 8 6)) ∧ Rel h2) := by
  obtain ⟨⟨_, _, g3⟩, -⟩ := raw r
  have xa : ∀ k, k ≠ 0 → 7 < k → k ≠ 8 → k ≠ 22 → up2 (pg g1 1 (cpG (vg g1 1) (vg g1 8))) 0 6 0 k = g k := fun k a b c d => by
    rw [up2_ne a, pg1_p rfl (by omega), e1, up2_ne c, up2_ne d]
  have x0 : ∀ k, k ≠ 6 → up2 (pg g1 1 (cpG (vg g1 1) (vg g1 8))) 0 6 0 0 k = h 0 k := fun k a => by
    rw [up2_self, upd, if_neg a, pg1_p rfl (by omega), e1, up2_ne (by decide), up2_ne (by decide), ga 0 (by omega) (by omega)]
  have x06 : up2 (pg g1 1 (cpG (vg g1 1) (vg g1 8))) 0 6 0 0 6 = 0 := by rw [up2_self, upd, if_pos rfl]
  have x22 : up2 (pg g1 1 (cpG (vg g1 1) (vg g1 8))) 0 6 0 22 1 = 0 := by
    rw [up2_ne (by decide), pg1_p rfl (by omega), e1, up2_ne (by decide), up2_self, upd, if_pos rfl]
  have gv : Geq (vg g1 8) (zG (h 1 8) G) := Geq_of (fun j hj => by
    rw [vg_fn, e1]
    rcases (show j = 0 ∨ j ≠ 0 by omega) with q | q
    · subst q
      rw [up2_self, up2_ne (by decide), gb 0 (by omega), ga 1 (by omega) (by omega)]
      unfold zG
      rw [up2_self]
    · rw [up2_ne (by omega), up2_ne (by omega), gb j hj]
      unfold zG
      rw [up2_ne q])
  have iv : InvG (vg g1 8) := InvG_c gv.symm (InvG_z _ hI)
  have xv : Geq (vg (up2 (pg g1 1 (cpG (vg g1 1) (vg g1 8))) 0 6 0) 1) (zG (h 1 8) G) := by
    refine Geq.trans (Geq_of (fun j hj => ?_)) ((cpG_i (D := vg g1 1) iv).1.trans gv)
    rw [vg_fn, up2_ne (by omega), pg_ge]
  generalize up2 (pg g1 1 (cpG (vg g1 1) (vg g1 8))) 0 6 0 = X at xa x0 x06 x22 xv ⊢
  have x41 : X 41 = h 41 := by rw [xa 41 (by omega) (by omega) (by omega) (by omega), ga 41 (by omega) (by omega)]
  have x42 : X 42 = h 42 := by rw [xa 42 (by omega) (by omega) (by omega) (by omega), ga 42 (by omega) (by omega)]
  have x46 : X 46 = h 46 := by rw [xa 46 (by omega) (by omega) (by omega) (by omega), ga 46 (by omega) (by omega)]
  refine gaolM (vg h 8) (mc X x41 x46) ?_
  rw [hx, x42, ← g3]
  intro s p hg
  have ea : ∀ k, k ≠ 41 → k ≠ 42 → k ≠ 45 → up2 (up2 (MK n (h 23) (upA X 45 (cp47 (h 42) (X 45))) s p 0) 41 6 0) 41 14 0 k = X k := fun k a b c => by
    rw [up2_ne a, up2_ne a, MK_n _ _ _ _ _ _ a b, upA_ne c]
  have e41 : ∀ k, k ≠ 6 → k ≠ 14 → (k < 7 ∨ 11 < k) → up2 (up2 (MK n (h 23) (upA X 45 (cp47 (h 42) (X 45))) s p 0) 41 6 0) 41 14 0 41 k = h 41 k := fun k a a2 b => by
    rw [up2_self, upd, if_neg a2, up2_self, upd, if_neg a]
    unfold MK
    rw [upA_self, if_neg (by omega), if_neg (by omega), if_neg (by omega), if_neg (by omega), if_neg (by omega), upA_ne (by decide), x41]
  have e6 : up2 (up2 (MK n (h 23) (upA X 45 (cp47 (h 42) (X 45))) s p 0) 41 6 0) 41 14 0 41 6 = 0 := by
    rw [up2_self, upd, if_neg (by decide), up2_self, upd, if_pos rfl]
  have e14 : up2 (up2 (MK n (h 23) (upA X 45 (cp47 (h 42) (X 45))) s p 0) 41 6 0) 41 14 0 41 14 = 0 := by
    rw [up2_self, upd, if_pos rfl]
  have e42 : up2 (up2 (MK n (h 23) (upA X 45 (cp47 (h 42) (X 45))) s p 0) 41 6 0) 41 14 0 42 = s := by
    rw [up2_ne (by decide), up2_ne (by decide), MK_42]
  generalize up2 (up2 (MK n (h 23) (upA X 45 (cp47 (h 42) (X 45))) s p 0) 41 6 0) 41 14 0 = Y at ea e41 e6 e14 e42 ⊢
  have s0 : s 0 = g 8 6 := by
    have a := hg.1.1
    rw [zG_6] at a
    have b : g 8 = G 0 := gb 0 (by omega)
    rw [b]
    exact a.symm
  have yv : Geq (vg Y 1) (zG (h 1 8) G) := Geq.trans (Geq_of (fun j hj => by rw [vg_fn, vg_fn, ea (1 + j) (by omega) (by omega) (by omega)])) xv
  refine ⟨by rw [s0], Rel_txt r ?_ ?_ ?_ ?_ ?_ e6 (Or.inr ⟨?_, e14⟩) ⟨?_, InvG_c yv.symm (InvG_z _ hI)⟩⟩
  · intro k a1 a2 a3 a4
    unfold scr at a1
    rw [ea k a4 (by omega) (by omega), xa k a2 (by omega) (by omega) a3, ga k (by omega) a3]
  · rw [ea 0 (by omega) (by omega) (by omega), x0 3 (by omega)]
  · rw [e41 4 (by omega) (by omega) (by omega)]
  · rw [e41 22 (by omega) (by omega) (by omega)]
  · rw [ea 22 (by omega) (by omega) (by omega), x22]
  · rw [ea 0 (by omega) (by omega) (by omega), x06]
  · rw [e42]
    exact yv.trans hg
theorem pr_gaol {h : Hp} (r : Rel h)  : S5_gaol [.ref 0] h (fun rv h1 => S6_gaol [.ref 41] h1 (fun rw h2 => rw = rv ∧ Rel h2)) := by
  obtain ⟨⟨g1, g2, g3⟩, -⟩ := raw r
  have rt := r.2.2.1
  have rg := r.1
  obtain ⟨n, hn, n1⟩ : ∃ n, n ≤ 200 ∧ h 22 1 = nI n := by
    have := ix_lt (n := 201) rt.2.1.1 (show h 22 1 < (201 : Int32) by have := rt.2.1.2; grind) (by decide)
    exact ⟨ix (h 22 1), by omega, (nI_ix rt.2.1.1).symm⟩
  have fr : Fr8 h (pg h 8 (bfG (vg h 8))) := Fr8_pg (fun j hj => bf_hi _ hj)
  have b22 : pg h 8 (bfG (vg h 8)) 22 = h 22 := fr 22 (by omega)
  have b23 : pg h 8 (bfG (vg h 8)) 23 = h 23 := fr 23 (by omega)
  have mc : ∀ g : Hp, g 41 = h 41 → g 46 = h 46 → MCt n (h 23) g := fun g e1 e2 => by
    refine ⟨by rw [e1, ← rt.1]; exact n1, hn, fun k hk => ?_⟩
    have := rt.2.2 k (by rw [n1, show ix (nI n) = n from ix_nI (by omega)]; exact hk)
    rw [e2]
    exact ⟨this.1.symm, this.2.1⟩
  have h8 : ∀ G, Hi8 (pg h 8 (bfG (vg h 8))) G → Fr8 h (pg h 8 G) := fun G hG => Fr8_pg (fun j hj => by rw [hG j hj, vg_pg, bf_hi _ hj])
  have e8 : nG (mv (h 42)) ≤ 8 := nG_8 (InvR_c rg.1 rg.2.1)
  show Rn _ _
  refine Rn_in D5_gaol 60 ?_
  simp only [y5_gaol_0, y5_gaol_1, y5_gaol_4, y5_gaol_7, y5_gaol_8, y5_gaol_11, y5_gaol_12, y5_gaol_15, y5_gaol_19, y5_gaol_20, y5_gaol_23, y5_gaol_24, y5_gaol_27, y5_gaol_28, y5_gaol_31, y5_gaol_33, y5_gaol_34, y5_gaol_35, y5_gaol_36, y5_gaol_37, y5_gaol_40, y5_gaol_41, y5_gaol_44, y5_gaol_47, y5_gaol_50, y5_gaol_51, y5_gaol_54, y5_gaol_55, y5_gaol_58, y5_gaol_61, y5_gaol_62, y5_gaol_63, y5_gaol_66, y5_gaol_67, y5_gaol_70, y5_gaol_73, i_ald, i_cV, i_get, i_ic, i_if_lt, i_ild, i_iret, i_ist, i_isub, i_put, oc_0, fv_0_0, fv_0_1, fv_0_2, fv_0_3, ly_0_3, fv_0_4, fv_0_5, fv_0_6, ly_0_6, fv_0_7, fv_0_8, fv_0_9, oc_1, fv_1_0, fv_1_1, fv_1_2, fv_1_3, fv_1_4, fv_1_5, fv_1_6, ly_1_6, fv_1_7, ly_1_7, fv_1_8, ly_1_8, rd_2, al_2, rd_3, al_3, rd_4, al_4, rd_5, al_5, rd_6, al_6, rd_7, al_7, oc_8, fv_8_0, fv_8_1, fv_8_2, fv_8_3, fv_8_4, fv_8_5, fv_8_6, ly_8_6, fv_8_7, ly_8_7, fv_8_8, ly_8_8, rd_9, al_9, rd_10, al_10, rd_11, al_11, rd_12, al_12, rd_13, al_13, rd_14, al_14, oc_22, fv_22_0, fv_22_1, ly_22_1, fv_22_2, ly_22_2, fv_22_3, ly_22_3, fv_22_4, ly_22_4, fv_22_5, ly_22_5, fv_22_6, ly_22_6, rd_23, al_23, lck_0, lck_i, lck_r, lck_n, lck_l, csum_0, csum_i, csum_r, csum_l, pops_0, pops_s, psh_n, psh_s, List.getElem?_cons_zero, List.getElem?_cons_succ, List.set_cons_zero, List.set_cons_succ, true_and, and_true, Nat.reduceAdd, Nat.reduceLeDiff, k5_gaol_18, t5_gaol_18, S1_becomeFirst, GB_8, nn, false_implies, true_implies, implies_true, and_true, true_and, not_true_eq_false, not_false_eq_true, eq_self]
  refine ⟨rfl, rfl, n, hn, by rw [b22]; exact n1, by rw [vg_pg]; exact bf_inv _, ?_⟩
  rw [vg_pg, b23]
  have ok := run_ok (n := n) (t := h 23) n 0 (bfG (vg h 8)) (h := pg h 8 (bfG (vg h 8))) (by omega) (bf_inv _) (fun j hj => by rw [vg_pg])
  revert ok
  rcases hx : run n (h 23) n 0 (bfG (vg h 8)) with q | G
  · intro ok p G hp hG
    rw [pg_pg]
    have f := h8 G hG
    have le := st_le (h 23) ok
    refine glF (Int32.not_lt.mpr (nI_pos' (by omega))) ?_
    refine gl_F r hn mc (fun k a b => ?_) (fun k a => ?_) ?_ hx
    · rw [up2_ne b, CK_n _ _ _ _ _ b, f k (Or.inr a)]
    · rw [up2_ne (by omega), CK_n _ _ _ _ _ (by omega), f k (Or.inl a)]
    · simp [up2]
  · intro ok p hp hG
    rw [pg_pg]
    have f := h8 G hG
    have ga : ∀ k, (k < 8 ∨ 14 < k) → k ≠ 22 → CK n (h 23) (pg h 8 G) p (-1) k = h k := fun k a b => by rw [CK_n _ _ _ _ _ b, f k a]
    have gb : ∀ j, j ≤ 6 → CK n (h 23) (pg h 8 G) p (-1) (8 + j) = G j := fun j hj => by rw [CK_n _ _ _ _ _ (by omega), pg_ge]
    generalize CK n (h 23) (pg h 8 G) p (-1) = g at ga gb ⊢
    refine glS (by decide) (fun g1 e1 => ?_)
    exact gl_S r hn mc ga gb e1 ok.1 hx
