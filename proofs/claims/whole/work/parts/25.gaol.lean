/-! the class Gaol: draws, ring, first state, one more, copy -/
theorem up2_same (h : Hp) (p k : Nat) (x y : Int32) : up2 (up2 h p k x) p k y = up2 h p k y := by
  funext a b; simp only [up2]; grind
theorem drawV_nI (z : Int32) : ∃ m, m < 65536 ∧ drawV z = nI m := by
  have h := pk_ushr z 16 16 (by decide)
  refine ⟨z.toBitVec.toNat / 2 ^ 16, ?_, ?_⟩
  · have := z.toBitVec.isLt
    omega
  · apply Int32.toBitVec_inj.mp
    apply BitVec.eq_of_toNat_eq
    rw [show (drawV z).toBitVec.toNat = z.toBitVec.toNat / 2 ^ 16 from h, pk_tn (by have := z.toBitVec.isLt; omega)]
def oneI (G : GG) : Int32 := drawV (drawZ (G 0 8)) - drawV (drawZ (G 0 8)) / G 0 6 * G 0 6
def chI (G : GG) : Int32 := drawV (drawZ (drawZ (G 0 8))) - drawV (drawZ (drawZ (G 0 8))) / 100 * 100
def snzG (G : GG) : GG := if 0 < G 0 6 then (if chI G < G 1 3 ∧ ¬ G 5 (ix (oneI G)) = 8 then up2 (up2 G 0 8 (drawZ (drawZ (G 0 8)))) 5 (ix (oneI G)) (G 5 (ix (oneI G)) + 1) else up2 G 0 8 (drawZ (drawZ (G 0 8)))) else G
def drwG (G : GG) : GG := occG (snzG G)
theorem one_rng {G : GG} (h0 : 0 < G 0 6) (h8 : G 0 6 ≤ 8) : 0 ≤ oneI G ∧ oneI G < G 0 6 := by
  obtain ⟨m, hm, e⟩ := drawV_nI (drawZ (G 0 8))
  obtain ⟨n, n8, hn, hi⟩ := cntN (x := G 0 6) (by grind) h8
  have n0 : 0 < n := by
    rcases Nat.eq_zero_or_pos n with z | z
    · subst z
      rw [hn] at h0
      exact absurd h0 (by decide)
    · exact z
  unfold oneI
  rw [e, hn, pk_rem (by omega) n0 (by omega)]
  have : m % n < n := Nat.mod_lt _ n0
  exact ⟨nI_pos' (by omega), nI_lt this (by omega)⟩
def S1_passByDraws : Sp := fun av h Q => match av with | [.ref b] => GB b ∧ (0 ≤ h b 6 ∧ h b 6 ≤ 8) ∧ Q none (pg h b (drwG (vg h b))) | _ => False
theorem vg_0 (h : Hp) (b k : Nat) : vg h b 0 k = h b k := rfl
theorem pg_up2 (h : Hp) (b j k : Nat) (x : Int32) (G : GG) : pg (up2 h (b + j) k x) b G = pg h b G := by
  rw [up2_vg, pg_pg]
theorem pu_1_0 (h : Hp) (k : Nat) (x : Int32) (G : GG) : pg (up2 h 1 k x) 1 G = pg h 1 G := pg_up2 h 1 0 k x G
theorem pu_1_3 (h : Hp) (k : Nat) (x : Int32) (G : GG) : pg (up2 h 4 k x) 1 G = pg h 1 G := pg_up2 h 1 3 k x G
theorem pu_1_4 (h : Hp) (k : Nat) (x : Int32) (G : GG) : pg (up2 h 5 k x) 1 G = pg h 1 G := pg_up2 h 1 4 k x G
theorem pu_1_5 (h : Hp) (k : Nat) (x : Int32) (G : GG) : pg (up2 h 6 k x) 1 G = pg h 1 G := pg_up2 h 1 5 k x G
theorem pu_1_6 (h : Hp) (k : Nat) (x : Int32) (G : GG) : pg (up2 h 7 k x) 1 G = pg h 1 G := pg_up2 h 1 6 k x G
theorem pu_8_0 (h : Hp) (k : Nat) (x : Int32) (G : GG) : pg (up2 h 8 k x) 8 G = pg h 8 G := pg_up2 h 8 0 k x G
theorem pu_8_3 (h : Hp) (k : Nat) (x : Int32) (G : GG) : pg (up2 h 11 k x) 8 G = pg h 8 G := pg_up2 h 8 3 k x G
theorem pu_8_4 (h : Hp) (k : Nat) (x : Int32) (G : GG) : pg (up2 h 12 k x) 8 G = pg h 8 G := pg_up2 h 8 4 k x G
theorem pu_8_5 (h : Hp) (k : Nat) (x : Int32) (G : GG) : pg (up2 h 13 k x) 8 G = pg h 8 G := pg_up2 h 8 5 k x G
theorem pu_8_6 (h : Hp) (k : Nat) (x : Int32) (G : GG) : pg (up2 h 14 k x) 8 G = pg h 8 G := pg_up2 h 8 6 k x G
theorem one_pos {x : Int32} (h : 0 ≤ x ∧ x < 8) : x ≠ -1 := by grind
theorem rn1_passByDraws {h : Hp} {Q : Po} {b : Nat} (hS : S1_passByDraws [.ref b] h Q) : Rn (T1_passByDraws Q S1_draw S1_isOut S1_passOccasions) (0, [some (.ref b), none, none], [], h) := by
  obtain ⟨hb, hc, hQ⟩ := hS
  have h1 := fun h0 => one_rng (G := vg h b) h0 hc.2
  rcases hb with rfl | rfl
  · refine Rn_in C1_passByDraws 90 ?_
    simp only [x1_passByDraws_0, x1_passByDraws_1, x1_passByDraws_4, x1_passByDraws_7, x1_passByDraws_8, x1_passByDraws_11, x1_passByDraws_12, x1_passByDraws_15, x1_passByDraws_16, x1_passByDraws_17, x1_passByDraws_18, x1_passByDraws_21, x1_passByDraws_23, x1_passByDraws_24, x1_passByDraws_25, x1_passByDraws_26, x1_passByDraws_27, x1_passByDraws_30, x1_passByDraws_31, x1_passByDraws_32, x1_passByDraws_35, x1_passByDraws_36, x1_passByDraws_37, x1_passByDraws_40, x1_passByDraws_43, x1_passByDraws_44, x1_passByDraws_47, x1_passByDraws_48, x1_passByDraws_49, x1_passByDraws_50, x1_passByDraws_51, x1_passByDraws_52, x1_passByDraws_53, x1_passByDraws_54, x1_passByDraws_55, x1_passByDraws_58, i_ald, i_cV, i_dup2, i_get, i_iadd, i_iald, i_iast, i_ic, i_ic_ge, i_if_le, i_if_ne, i_ild, i_irem, i_ist, i_vret, oc_1, fv_1_0, fv_1_1, fv_1_2, fv_1_3, fv_1_4, fv_1_5, fv_1_6, ly_1_6, fv_1_7, ly_1_7, fv_1_8, ly_1_8, rd_2, al_2, rd_3, al_3, rd_4, al_4, rd_5, al_5, rd_6, al_6, rd_7, al_7, lck_0, lck_i, lck_r, lck_n, lck_l, csum_0, csum_i, csum_r, csum_l, pops_0, pops_s, psh_n, psh_s, List.getElem?_cons_zero, List.getElem?_cons_succ, List.set_cons_zero, List.set_cons_succ, true_and, and_true, Nat.reduceAdd, Nat.reduceLeDiff, v4, v8, S1_draw, S1_isOut, S1_passOccasions, GB_1, GB_8, up2_at, if_true, if_false, Nat.reduceEqDiff, up2_same, outB_0, ix1, ix, occN_1]
    by_cases c0 : 0 < vg h 1 0 6
    · have h1 : 0 ≤ oneI (vg h 1) ∧ oneI (vg h 1) < h 1 6 := h1 c0
      have c1 : 0 < h 1 6 := c0
      have h2 : 0 ≤ oneI (vg h 1) ∧ oneI (vg h 1) < 8 := by grind
      refine ⟨fun c => absurd c (by grind), fun _ => ⟨by grind, by decide, by decide, fun c => ⟨by decide, hc, ?_⟩, fun c => ⟨h2, fun c2 => ⟨by decide, hc, ?_⟩, fun c2 => ⟨h2, h2, by decide, hc, ?_⟩⟩⟩⟩
      · have eS : snzG (vg h 1) = up2 (vg h 1) 0 8 (drawZ (drawZ (h 1 8))) := by
          unfold snzG
          rw [if_pos c0, if_neg (fun q => absurd q.1 (Int32.not_lt.mpr c))]
          rfl
        rw [drwG, eS] at hQ
        simp only [vu_1_0, pu_1_0]
        exact hQ
      · have eS : snzG (vg h 1) = up2 (vg h 1) 0 8 (drawZ (drawZ (h 1 8))) := by
          unfold snzG
          rw [if_pos c0, if_neg (fun q => c2 q.2)]
          rfl
        rw [drwG, eS] at hQ
        simp only [vu_1_0, pu_1_0]
        exact hQ
      · have eS : snzG (vg h 1) = up2 (up2 (vg h 1) 0 8 (drawZ (drawZ (h 1 8)))) 5 (ix (oneI (vg h 1))) (vg h 1 5 (ix (oneI (vg h 1))) + 1) := by
          unfold snzG
          rw [if_pos c0, if_pos ⟨Int32.not_le.mp c, c2⟩]
          rfl
        rw [drwG, eS] at hQ
        simp only [vu_1_0, pu_1_0, vu_1_5, pu_1_5]
        exact hQ
    · have eS : snzG (vg h 1) = vg h 1 := by
        unfold snzG
        rw [if_neg c0]
      rw [drwG, eS] at hQ
      have c1 : ¬ 0 < h 1 6 := c0
      exact ⟨fun _ => ⟨by decide, hc, hQ⟩, fun c => absurd (by grind) c⟩
  · refine Rn_in C1_passByDraws 90 ?_
    simp only [x1_passByDraws_0, x1_passByDraws_1, x1_passByDraws_4, x1_passByDraws_7, x1_passByDraws_8, x1_passByDraws_11, x1_passByDraws_12, x1_passByDraws_15, x1_passByDraws_16, x1_passByDraws_17, x1_passByDraws_18, x1_passByDraws_21, x1_passByDraws_23, x1_passByDraws_24, x1_passByDraws_25, x1_passByDraws_26, x1_passByDraws_27, x1_passByDraws_30, x1_passByDraws_31, x1_passByDraws_32, x1_passByDraws_35, x1_passByDraws_36, x1_passByDraws_37, x1_passByDraws_40, x1_passByDraws_43, x1_passByDraws_44, x1_passByDraws_47, x1_passByDraws_48, x1_passByDraws_49, x1_passByDraws_50, x1_passByDraws_51, x1_passByDraws_52, x1_passByDraws_53, x1_passByDraws_54, x1_passByDraws_55, x1_passByDraws_58, i_ald, i_cV, i_dup2, i_get, i_iadd, i_iald, i_iast, i_ic, i_ic_ge, i_if_le, i_if_ne, i_ild, i_irem, i_ist, i_vret, oc_8, fv_8_0, fv_8_1, fv_8_2, fv_8_3, fv_8_4, fv_8_5, fv_8_6, ly_8_6, fv_8_7, ly_8_7, fv_8_8, ly_8_8, rd_9, al_9, rd_10, al_10, rd_11, al_11, rd_12, al_12, rd_13, al_13, rd_14, al_14, lck_0, lck_i, lck_r, lck_n, lck_l, csum_0, csum_i, csum_r, csum_l, pops_0, pops_s, psh_n, psh_s, List.getElem?_cons_zero, List.getElem?_cons_succ, List.set_cons_zero, List.set_cons_succ, true_and, and_true, Nat.reduceAdd, Nat.reduceLeDiff, v4, v8, S1_draw, S1_isOut, S1_passOccasions, GB_1, GB_8, up2_at, if_true, if_false, Nat.reduceEqDiff, up2_same, outB_0, ix1, ix, occN_1]
    by_cases c0 : 0 < vg h 8 0 6
    · have h1 : 0 ≤ oneI (vg h 8) ∧ oneI (vg h 8) < h 8 6 := h1 c0
      have c1 : 0 < h 8 6 := c0
      have h2 : 0 ≤ oneI (vg h 8) ∧ oneI (vg h 8) < 8 := by grind
      refine ⟨fun c => absurd c (by grind), fun _ => ⟨by grind, by decide, by decide, fun c => ⟨by decide, hc, ?_⟩, fun c => ⟨h2, fun c2 => ⟨by decide, hc, ?_⟩, fun c2 => ⟨h2, h2, by decide, hc, ?_⟩⟩⟩⟩
      · have eS : snzG (vg h 8) = up2 (vg h 8) 0 8 (drawZ (drawZ (h 8 8))) := by
          unfold snzG
          rw [if_pos c0, if_neg (fun q => absurd q.1 (Int32.not_lt.mpr c))]
          rfl
        rw [drwG, eS] at hQ
        simp only [vu_8_0, pu_8_0]
        exact hQ
      · have eS : snzG (vg h 8) = up2 (vg h 8) 0 8 (drawZ (drawZ (h 8 8))) := by
          unfold snzG
          rw [if_pos c0, if_neg (fun q => c2 q.2)]
          rfl
        rw [drwG, eS] at hQ
        simp only [vu_8_0, pu_8_0]
        exact hQ
      · have eS : snzG (vg h 8) = up2 (up2 (vg h 8) 0 8 (drawZ (drawZ (h 8 8)))) 5 (ix (oneI (vg h 8))) (vg h 8 5 (ix (oneI (vg h 8))) + 1) := by
          unfold snzG
          rw [if_pos c0, if_pos ⟨Int32.not_le.mp c, c2⟩]
          rfl
        rw [drwG, eS] at hQ
        simp only [vu_8_0, pu_8_0, vu_8_5, pu_8_5]
        exact hQ
    · have eS : snzG (vg h 8) = vg h 8 := by
        unfold snzG
        rw [if_neg c0]
      rw [drwG, eS] at hQ
      have c1 : ¬ 0 < h 8 6 := c0
      exact ⟨fun _ => ⟨by decide, hc, hQ⟩, fun c => absurd (by grind) c⟩
def addG (G : GG) (k g r : Int32) : GG := up2 (up2 (up2 (up2 (up2 G 3 (nG G) k) 4 (nG G) g) 5 (nG G) r) 6 (nG G) (-1)) 0 6 (G 0 6 + 1)
def S1_add : Sp := fun av h Q => match av with | [.ref b, .int k, .int g, .int r] => GB b ∧ (0 ≤ h b 6 ∧ h b 6 < 8) ∧ Q none (pg h b (addG (vg h b) k g r)) | _ => False
theorem rn1_add {h : Hp} {Q : Po} {b : Nat} {k : Int32} {g : Int32} {r : Int32} (hS : S1_add [.ref b, .int k, .int g, .int r] h Q) : Rn (T1_add Q) (0, [some (.ref b), some (.int k), some (.int g), some (.int r)], [], h) := by
  obtain ⟨hb, hc, hQ⟩ := hS
  rcases hb with rfl | rfl
  · refine Rn_in C1_add 90 ?_
    simp only [addG, pg_up, pg_vg, Nat.reduceAdd] at hQ
    simp only [x1_add_0, x1_add_1, x1_add_4, x1_add_6, x1_add_9, x1_add_10, x1_add_11, x1_add_14, x1_add_15, x1_add_18, x1_add_19, x1_add_20, x1_add_21, x1_add_24, x1_add_25, x1_add_28, x1_add_29, x1_add_30, x1_add_31, x1_add_34, x1_add_35, x1_add_38, x1_add_39, x1_add_40, x1_add_41, x1_add_44, x1_add_45, x1_add_48, x1_add_49, x1_add_50, x1_add_51, x1_add_52, x1_add_55, x1_add_56, x1_add_57, x1_add_60, i_ald, i_dup, i_get, i_iadd, i_iast, i_ic, i_ic_lt, i_ild, i_put, i_vret, oc_1, fv_1_0, fv_1_1, fv_1_2, fv_1_3, fv_1_4, fv_1_5, fv_1_6, ly_1_6, fv_1_7, ly_1_7, fv_1_8, ly_1_8, rd_2, al_2, rd_3, al_3, rd_4, al_4, rd_5, al_5, rd_6, al_6, rd_7, al_7, lck_0, lck_i, lck_r, lck_n, lck_l, csum_0, csum_i, csum_r, csum_l, pops_0, pops_s, psh_n, psh_s, List.getElem?_cons_zero, List.getElem?_cons_succ, List.set_cons_zero, List.set_cons_succ, true_and, and_true, Nat.reduceAdd, Nat.reduceLeDiff, v8, up2_at, if_true, if_false, Nat.reduceEqDiff]
    exact ⟨fun _ => ⟨hc, hc, hc, hc, hQ⟩, fun c => absurd hc.2 c⟩
  · refine Rn_in C1_add 90 ?_
    simp only [addG, pg_up, pg_vg, Nat.reduceAdd] at hQ
    simp only [x1_add_0, x1_add_1, x1_add_4, x1_add_6, x1_add_9, x1_add_10, x1_add_11, x1_add_14, x1_add_15, x1_add_18, x1_add_19, x1_add_20, x1_add_21, x1_add_24, x1_add_25, x1_add_28, x1_add_29, x1_add_30, x1_add_31, x1_add_34, x1_add_35, x1_add_38, x1_add_39, x1_add_40, x1_add_41, x1_add_44, x1_add_45, x1_add_48, x1_add_49, x1_add_50, x1_add_51, x1_add_52, x1_add_55, x1_add_56, x1_add_57, x1_add_60, i_ald, i_dup, i_get, i_iadd, i_iast, i_ic, i_ic_lt, i_ild, i_put, i_vret, oc_8, fv_8_0, fv_8_1, fv_8_2, fv_8_3, fv_8_4, fv_8_5, fv_8_6, ly_8_6, fv_8_7, ly_8_7, fv_8_8, ly_8_8, rd_9, al_9, rd_10, al_10, rd_11, al_11, rd_12, al_12, rd_13, al_13, rd_14, al_14, lck_0, lck_i, lck_r, lck_n, lck_l, csum_0, csum_i, csum_r, csum_l, pops_0, pops_s, psh_n, psh_s, List.getElem?_cons_zero, List.getElem?_cons_succ, List.set_cons_zero, List.set_cons_succ, true_and, and_true, Nat.reduceAdd, Nat.reduceLeDiff, v8, up2_at, if_true, if_false, Nat.reduceEqDiff]
    exact ⟨fun _ => ⟨hc, hc, hc, hc, hQ⟩, fun c => absurd hc.2 c⟩
