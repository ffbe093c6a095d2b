/-! pairs: the least rudeness -/
def rdJ (G : GG) (q n a k : Nat) : Int32 := if a = 6 ∧ k < n ∧ q.testBit k = true then -1 else G a k
theorem rdJ_0 (G : GG) (q : Nat) : rdJ G q 0 = G := by
  funext a k; simp [rdJ]
theorem rdJ_n {a : Nat} (G : GG) (q n : Nat) (h : a ≠ 6) : rdJ G q n a = G a := by
  funext k; simp [rdJ, h]
theorem rdJ_s1 (G : GG) (q j : Nat) (h : q.testBit j = true) : up2 (rdJ G q j) 6 j (-1) = rdJ G q (j + 1) := by
  funext a k; simp only [up2, rdJ]
  by_cases c : a = 6
  · by_cases d : k = j
    · subst c d; simp [h]
    · have : k < j + 1 ↔ k < j := by omega
      simp [c, d, this]
  · simp [c]
theorem rdJ_s0 (G : GG) (q j : Nat) (h : ¬ q.testBit j = true) : rdJ G q (j + 1) = rdJ G q j := by
  funext a k; simp only [rdJ]
  by_cases d : k = j
  · subst d; simp [h]
  · have : k < j + 1 ↔ k < j := by omega
    simp [this]
theorem rdJ_c {G H : GG} (h : Geq G H) (q n : Nat) : Geq (rdJ G q n) (rdJ H q n) := by
  refine ⟨⟨?_, ?_, ?_⟩, fun k hk => ?_, fun k hk => ?_, fun i hi => ?_⟩
  · rw [rdJ_n _ _ _ (by decide), rdJ_n _ _ _ (by decide)]; exact h.1.1
  · rw [rdJ_n _ _ _ (by decide), rdJ_n _ _ _ (by decide)]; exact h.1.2.1
  · rw [rdJ_n _ _ _ (by decide), rdJ_n _ _ _ (by decide)]; exact h.1.2.2
  · rw [rdJ_n _ _ _ (by decide), rdJ_n _ _ _ (by decide)]; exact h.2.1 k hk
  · rw [rdJ_n _ _ _ (by decide), rdJ_n _ _ _ (by decide)]; exact h.2.2.1 k hk
  · have hi2 : i < nG G := hi
    have e := h.2.2.2 i hi2
    rw [rdJ_n _ _ _ (by decide), rdJ_n _ _ _ (by decide), rdJ_n _ _ _ (by decide), rdJ_n _ _ _ (by decide), rdJ_n _ _ _ (by decide), rdJ_n _ _ _ (by decide)]
    refine ⟨e.1, e.2.1, e.2.2.1, ?_⟩
    simp only [rdJ]
    rw [e.2.2.2]
theorem rdJ_i {G : GG} (h : InvG G) (q n : Nat) : InvG (rdJ G q n) := by
  refine ⟨⟨?_, fun i hi => ?_⟩, ?_, fun i hi => ?_⟩
  · rw [rdJ_n _ _ _ (by decide)]; exact h.1.1
  · have hi2 : i < nG G := hi
    have b := h.1.2 i hi2
    rw [rdJ_n (a := 5) _ _ _ (by decide), rdJ_n (a := 0) _ _ _ (by decide)]
    refine ⟨b.1, ?_⟩
    have z : (-1 : Int32) < G 0 6 := Int32.lt_of_lt_of_le (by decide) h.1.1.1
    simp only [rdJ]
    split
    · exact ⟨Int32.le_refl _, z⟩
    · exact b.2
  · rw [rdJ_n _ _ _ (by decide)]; exact h.2.1
  · have hi2 : i < nG G := hi
    rw [rdJ_n _ _ _ (by decide)]; exact h.2.2 i hi2
def rdG (G : GG) (q : Nat) : GG := rdJ G q (nG G)
theorem rdG_c {G H : GG} (h : Geq G H) (q : Nat) : Geq (rdG G q) (rdG H q) := by
  unfold rdG; rw [← Geq_n h]; exact rdJ_c h q _
theorem rdG_n (G : GG) (q : Nat) : nG (rdG G q) = nG G := rfl
/-- the set of those that wait, as a number -/
theorem wt_nat (G : GG) : ∀ j, j ≤ 8 → ∃ w, w < 256 ∧ wtG G j = nI w ∧ ∀ k, k < 8 → (w.testBit k = true ↔ k < j ∧ ¬ G 6 k = -1)
  | 0, _ => ⟨0, by decide, rfl, fun k _ => by simp⟩
  | j + 1, hj => by
    obtain ⟨w, a, b, c⟩ := wt_nat G j (by omega)
    unfold wtG
    split
    · rename_i e
      refine ⟨w, a, b, fun k hk => ?_⟩
      rw [c k hk]
      constructor
      · rintro ⟨x, y⟩; exact ⟨by omega, y⟩
      · rintro ⟨x, y⟩
        refine ⟨?_, y⟩
        rcases Nat.lt_or_ge k j with z | z
        · exact z
        · exact absurd (by rw [show k = j by omega]; exact e) y
    · rename_i e
      obtain ⟨k1, k2, k3, k4, k5, k6⟩ := bt_key w a j (by omega)
      refine ⟨w ||| 2 ^ j, k3, by rw [b, k2], fun k hk => ?_⟩
      rw [bt_or w a j (by omega) k hk, Bool.or_eq_true_iff, c k hk]
      constructor
      · rintro (⟨x, y⟩ | x)
        · exact ⟨by omega, y⟩
        · have : k = j := by simpa using x
          rw [this]; exact ⟨by omega, e⟩
      · rintro ⟨x, y⟩
        rcases Nat.lt_or_ge k j with z | z
        · exact Or.inl ⟨z, y⟩
        · right; have : k = j := by omega
          simp [this]
def rdP (G : GG) (i m q : Nat) : Prop := byN (rdG G q) i m ≤ m
theorem rdP_w {G : GG} (hI : InvG G) {i m w q : Nat} (hi : i < nG G) (hw : ∀ k, k < 8 → (w.testBit k = true ↔ k < nG G ∧ ¬ G 6 k = -1)) : rdP G i m (q &&& w) ↔ rdP G i m q := by
  have n8 := nG_8 hI.1
  have e : Geq (rdG G (q &&& w)) (rdG G q) := by
    refine ⟨⟨rfl, rfl, rfl⟩, fun k hk => rfl, fun k hk => rfl, fun a ha => ⟨rfl, rfl, rfl, ?_⟩⟩
    have ha2 : a < nG G := ha
    simp only [rdG, rdJ, Nat.testBit_and, Bool.and_eq_true]
    by_cases c : G 6 a = -1
    · rw [c]; simp
    · have := (hw a (by omega)).mpr ⟨ha2, c⟩
      simp [this]
  unfold rdP
  rw [byN_c e (rdJ_i hI _ _).1 (by rw [rdG_n]; exact hi) m]
/-- which of two sets comes first: the smaller, and of two as large the one that is the smaller number -/
def lexP (a b : Nat) : Prop := pcn a < pcn b ∨ (pcn a = pcn b ∧ a ≤ b)
def rdR (P : Nat → Prop) (N : Nat) (R : Int32) : Prop := (R = -3 ∧ ∀ q, q < N → ¬ P q) ∨ ∃ q, q < N ∧ R = nI q ∧ P q ∧ ∀ p, p < N → P p → lexP q p
theorem pcn_and (q w : Nat) : pcn (q &&& w) ≤ pcn q := by
  unfold pcn
  refine List.countP_mono_left (fun x _ hx => ?_)
  simp only [Nat.testBit_and, Bool.and_eq_true] at hx
  exact hx.1
theorem lex_trans {a b c : Nat} (h : lexP a b) (g : pcn b ≤ pcn c ∧ b ≤ c) : lexP a c := by
  unfold lexP at *
  omega
theorem rdR_u {P : Nat → Prop} {N : Nat} {R S : Int32} (h : rdR P N R) (g : rdR P N S) (hN : N ≤ 256) : R = S := by
  rcases h with ⟨a, b⟩ | ⟨q, a, b, c, d⟩
  · rcases g with ⟨a1, b1⟩ | ⟨q1, a1, b1, c1, d1⟩
    · rw [a, a1]
    · exact absurd c1 (b q1 a1)
  · rcases g with ⟨a1, b1⟩ | ⟨q1, a1, b1, c1, d1⟩
    · exact absurd c (b1 q a)
    · have x := d q1 a1 c1
      have y := d1 q a c
      have : q = q1 := by unfold lexP at x y; omega
      rw [b, b1, this]
theorem sub_w (q w : Nat) (hq : q < 256) (hw : w < 256) : (nI q &&& (nI w ^^^ -1) = 0) ↔ q &&& w = q := by
  have e1 : (nI q).toBitVec = BitVec.ofNat 32 q := rfl
  have e2 : (nI w).toBitVec = BitVec.ofNat 32 w := rfl
  have e3 : (-1 : Int32).toBitVec = BitVec.allOnes 32 := by decide
  constructor
  · intro h
    apply Nat.eq_of_testBit_eq
    intro i
    have h2 := congrArg (fun x : Int32 => x.toBitVec.getLsbD i) h
    simp only [Int32.toBitVec_and, Int32.toBitVec_xor, e1, e2, e3, BitVec.getLsbD_and, BitVec.getLsbD_xor, BitVec.getLsbD_ofNat, BitVec.getLsbD_allOnes] at h2
    rw [Nat.testBit_and]
    by_cases c : i < 32
    · simp [c] at h2
      cases hqi : q.testBit i
      · rfl
      · simp [h2 hqi]
    · have : q.testBit i = false := Nat.testBit_lt_two_pow (Nat.lt_of_lt_of_le hq (Nat.le_trans (by decide : 256 ≤ 2 ^ 32) (Nat.pow_le_pow_right (by decide) (by omega))))
      rw [this]; rfl
  · intro h
    apply Int32.toBitVec_inj.mp
    apply BitVec.eq_of_getLsbD_eq
    intro i hi
    have h2 : (q &&& w).testBit i = q.testBit i := by rw [h]
    rw [Nat.testBit_and] at h2
    simp only [Int32.toBitVec_and, Int32.toBitVec_xor, e1, e2, e3, BitVec.getLsbD_and, BitVec.getLsbD_xor, BitVec.getLsbD_ofNat, BitVec.getLsbD_allOnes, hi, decide_true, Bool.true_and]
    cases hqi : q.testBit i
    · simp
    · rw [hqi] at h2
      simp at h2
      simp [h2]

theorem b2_by {G : GG} {i m : Nat} {d : Decidable (byN G i m ≤ m)} : @b2 (byN G i m ≤ m) d = byB G i m := by
  unfold b2 byB; split <;> rfl
def S5_isOutIfRude : Sp := fun av h Q => match av with | [.ref x, .int i, .int n, .int q] => x = 0 ∧ ∃ k m p, i = nI k ∧ n = nI m ∧ q = nI p ∧ k < nG (vg h 1) ∧ m ≤ 40 ∧ p < 256 ∧ InvG (vg h 1) ∧ ∀ h1, Fr8 h h1 → Q (some (.int (byB (rdG (vg h 1) p) k m))) h1 | _ => False
theorem lp5_rude {h : Hp} {Q : Po} {C : GG} {k m p n : Nat} (hC : C 0 6 = nI n) (hn8 : n ≤ 8) (hk : k < n) (hm : m ≤ 40) (hp : p < 256) (hQ : Q (some (.int (byB (rdJ C p n) k m))) (pg h 8 (occN (rdJ C p n) (byN (rdJ C p n) k m)))) : ∀ d j, d + j = n → Rn (T5_isOutIfRude Q S1_copy S1_timeTo) (14, [some (.ref 0), some (.int (nI k)), some (.int (nI m)), some (.int (nI p)), some (.int (nI j))], [], pg h 8 (rdJ C p j))
  | 0, j, e => by
    have e : j = n := by omega
    subst e
    have hx : (nI k).toNatClampNeg = k := ix_nI (by omega)
    have hxm : (nI m).toNatClampNeg = m := ix_nI (by omega)
    have i8 := nlt8 (j := k) (by omega)
    have m60 : 0 ≤ nI m ∧ nI m ≤ 60 := ⟨nI_pos' (by omega), nI_le (b := 60) (by omega) (by decide)⟩
    have e0 : rdJ C p j 0 6 = nI j := hC
    have n8 : 0 ≤ nI j ∧ nI j ≤ 8 := ⟨nI_pos' (by omega), nI_le (b := 8) (by omega) (by decide)⟩
    refine Rn_go C5_isOutIfRude 60 ?_
    have t61 := fun (G : GG) (d : Decidable (byN G k m ≤ m)) => by61 (G := G) (i := k) (m := m) (by omega) d
    simp only [x5_isOutIfRude_0, x5_isOutIfRude_1, x5_isOutIfRude_4, x5_isOutIfRude_5, x5_isOutIfRude_8, x5_isOutIfRude_11, x5_isOutIfRude_12, k5_isOutIfRude_14, t5_isOutIfRude_14, x5_isOutIfRude_16, x5_isOutIfRude_17, x5_isOutIfRude_20, x5_isOutIfRude_23, x5_isOutIfRude_26, x5_isOutIfRude_27, x5_isOutIfRude_29, x5_isOutIfRude_30, x5_isOutIfRude_31, x5_isOutIfRude_32, x5_isOutIfRude_33, x5_isOutIfRude_36, x5_isOutIfRude_37, x5_isOutIfRude_40, x5_isOutIfRude_43, x5_isOutIfRude_45, x5_isOutIfRude_46, x5_isOutIfRude_47, x5_isOutIfRude_50, x5_isOutIfRude_53, x5_isOutIfRude_54, x5_isOutIfRude_57, x5_isOutIfRude_58, x5_isOutIfRude_60, x5_isOutIfRude_61, x5_isOutIfRude_64, x5_isOutIfRude_66, x5_isOutIfRude_69, x5_isOutIfRude_70, x5_isOutIfRude_73, x5_isOutIfRude_74, i_ald, i_cV, i_get, i_goto, i_iand, i_iast, i_ic, i_ic_eq, i_ic_ge, i_ic_ne, i_ild, i_inc, i_ishr, i_ist, i_zret, oc_0, fv_0_0, fv_0_1, fv_0_2, fv_0_3, ly_0_3, fv_0_4, fv_0_5, fv_0_6, ly_0_6, fv_0_7, fv_0_8, fv_0_9, oc_1, fv_1_0, fv_1_1, fv_1_2, fv_1_3, fv_1_4, fv_1_5, fv_1_6, ly_1_6, fv_1_7, ly_1_7, fv_1_8, ly_1_8, rd_2, al_2, rd_3, al_3, rd_4, al_4, rd_5, al_5, rd_6, al_6, rd_7, al_7, oc_8, fv_8_0, fv_8_1, fv_8_2, fv_8_3, fv_8_4, fv_8_5, fv_8_6, ly_8_6, fv_8_7, ly_8_7, fv_8_8, ly_8_8, rd_9, al_9, rd_10, al_10, rd_11, al_11, rd_12, al_12, rd_13, al_13, rd_14, al_14, lck_0, lck_i, lck_r, lck_n, lck_l, csum_0, csum_i, csum_r, csum_l, pops_0, pops_s, psh_n, psh_s, List.getElem?_cons_zero, List.getElem?_cons_succ, List.set_cons_zero, List.set_cons_succ, true_and, and_true, Nat.reduceAdd, Nat.reduceLeDiff, S1_timeTo, GB_8, pg8_0, e0, vg_pg, pg_pg, ix, hx, hxm, byK, t61]
    refine ⟨fun _ => ⟨i8, n8, m60, fun c => ?_, fun c => ?_⟩, fun c => absurd (Int32.le_refl _) c⟩
    · rw [byB, if_neg c] at hQ
      exact ⟨Or.inl trivial, hQ⟩
    · rw [byB, if_pos (Classical.not_not.mp c)] at hQ
      exact ⟨Or.inr trivial, hQ⟩
  | d + 1, j, e => by
    have ih := lp5_rude hC hn8 hk hm hp hQ d (j + 1) (by omega)
    rw [← nI_1] at ih
    have hlt : ¬ nI n ≤ nI j := nI_ge (by omega) (by omega)
    have e0 : rdJ C p j 0 6 = nI n := hC
    have j8 := nlt8 (j := j) (by omega)
    have hxj : (nI j).toNatClampNeg = j := ix_nI (by omega)
    obtain ⟨k1, -⟩ := bt_key p hp j (by omega)
    refine Rn_go C5_isOutIfRude 60 ?_
    simp only [x5_isOutIfRude_0, x5_isOutIfRude_1, x5_isOutIfRude_4, x5_isOutIfRude_5, x5_isOutIfRude_8, x5_isOutIfRude_11, x5_isOutIfRude_12, k5_isOutIfRude_14, t5_isOutIfRude_14, x5_isOutIfRude_16, x5_isOutIfRude_17, x5_isOutIfRude_20, x5_isOutIfRude_23, x5_isOutIfRude_26, x5_isOutIfRude_27, x5_isOutIfRude_29, x5_isOutIfRude_30, x5_isOutIfRude_31, x5_isOutIfRude_32, x5_isOutIfRude_33, x5_isOutIfRude_36, x5_isOutIfRude_37, x5_isOutIfRude_40, x5_isOutIfRude_43, x5_isOutIfRude_45, x5_isOutIfRude_46, x5_isOutIfRude_47, x5_isOutIfRude_50, x5_isOutIfRude_53, x5_isOutIfRude_54, x5_isOutIfRude_57, x5_isOutIfRude_58, x5_isOutIfRude_60, x5_isOutIfRude_61, x5_isOutIfRude_64, x5_isOutIfRude_66, x5_isOutIfRude_69, x5_isOutIfRude_70, x5_isOutIfRude_73, x5_isOutIfRude_74, i_ald, i_cV, i_get, i_goto, i_iand, i_iast, i_ic, i_ic_eq, i_ic_ge, i_ic_ne, i_ild, i_inc, i_ishr, i_ist, i_zret, oc_0, fv_0_0, fv_0_1, fv_0_2, fv_0_3, ly_0_3, fv_0_4, fv_0_5, fv_0_6, ly_0_6, fv_0_7, fv_0_8, fv_0_9, oc_1, fv_1_0, fv_1_1, fv_1_2, fv_1_3, fv_1_4, fv_1_5, fv_1_6, ly_1_6, fv_1_7, ly_1_7, fv_1_8, ly_1_8, rd_2, al_2, rd_3, al_3, rd_4, al_4, rd_5, al_5, rd_6, al_6, rd_7, al_7, oc_8, fv_8_0, fv_8_1, fv_8_2, fv_8_3, fv_8_4, fv_8_5, fv_8_6, ly_8_6, fv_8_7, ly_8_7, fv_8_8, ly_8_8, rd_9, al_9, rd_10, al_10, rd_11, al_11, rd_12, al_12, rd_13, al_13, rd_14, al_14, lck_0, lck_i, lck_r, lck_n, lck_l, csum_0, csum_i, csum_r, csum_l, pops_0, pops_s, psh_n, psh_s, List.getElem?_cons_zero, List.getElem?_cons_succ, List.set_cons_zero, List.set_cons_succ, true_and, and_true, Nat.reduceAdd, Nat.reduceLeDiff, pg8_0, e0, k1, v8, hxj, up8_6]
    refine ⟨fun c => absurd c hlt, fun _ => ⟨fun c => ?_, fun c => ⟨j8, ?_⟩⟩⟩
    · rw [rdJ_s0 _ _ _ (fun q => by rw [if_pos q] at c; exact c rfl)] at ih
      exact ih
    · rw [rdJ_s1 C p j (Classical.byContradiction (fun q => by rw [if_neg q] at c; exact absurd c (by decide)))]
      exact ih
theorem rn5_isOutIfRude {h : Hp} {Q : Po} {x : Nat} {i : Int32} {n : Int32} {q : Int32} (hS : S5_isOutIfRude [.ref x, .int i, .int n, .int q] h Q) : Rn (T5_isOutIfRude Q S1_copy S1_timeTo) (0, [some (.ref x), some (.int i), some (.int n), some (.int q), none], [], h) := by
  obtain ⟨rfl, k, m, p, rfl, rfl, rfl, hk, hm, hp, hI, hQ⟩ := hS
  obtain ⟨eC, iC⟩ := InvG_c8 (h := h) (vg h 8) hI
  obtain ⟨N, n8, hc, hi⟩ := cntN hI.1.1.1 hI.1.1.2
  have hnG : nG (vg h 1) = N := hi
  have hC : cpG (vg h 8) (vg h 1) 0 6 = nI N := by rw [cpG_6]; exact hc
  have e1 : byB (rdJ (cpG (vg h 8) (vg h 1)) p N) k m = byB (rdG (vg h 1) p) k m := by
    unfold byB
    rw [byN_c (rdJ_c eC p N) (rdJ_i iC _ _).1 (by show k < nG (cpG (vg h 8) (vg h 1)); rw [Geq_n eC]; exact hk) m, rdG, hnG]
  have h8 : Hi8 h (occN (rdJ (cpG (vg h 8) (vg h 1)) p N) (byN (rdJ (cpG (vg h 8) (vg h 1)) p N) k m)) := by
    refine Hi8_occ (fun j hj => ?_) _
    rw [rdJ_n _ _ _ (by omega), cpG_hi _ _ hj]
  have nx := lp5_rude (h := h) (Q := Q) (k := k) hC n8 (by omega) hm hp (by rw [e1]; exact hQ _ (Hi8_fr h8)) N 0 (by omega)
  rw [rdJ_0] at nx
  refine Rn_in C5_isOutIfRude 60 ?_
  simp only [x5_isOutIfRude_0, x5_isOutIfRude_1, x5_isOutIfRude_4, x5_isOutIfRude_5, x5_isOutIfRude_8, x5_isOutIfRude_11, x5_isOutIfRude_12, k5_isOutIfRude_14, t5_isOutIfRude_14, x5_isOutIfRude_16, x5_isOutIfRude_17, x5_isOutIfRude_20, x5_isOutIfRude_23, x5_isOutIfRude_26, x5_isOutIfRude_27, x5_isOutIfRude_29, x5_isOutIfRude_30, x5_isOutIfRude_31, x5_isOutIfRude_32, x5_isOutIfRude_33, x5_isOutIfRude_36, x5_isOutIfRude_37, x5_isOutIfRude_40, x5_isOutIfRude_43, x5_isOutIfRude_45, x5_isOutIfRude_46, x5_isOutIfRude_47, x5_isOutIfRude_50, x5_isOutIfRude_53, x5_isOutIfRude_54, x5_isOutIfRude_57, x5_isOutIfRude_58, x5_isOutIfRude_60, x5_isOutIfRude_61, x5_isOutIfRude_64, x5_isOutIfRude_66, x5_isOutIfRude_69, x5_isOutIfRude_70, x5_isOutIfRude_73, x5_isOutIfRude_74, i_ald, i_cV, i_get, i_goto, i_iand, i_iast, i_ic, i_ic_eq, i_ic_ge, i_ic_ne, i_ild, i_inc, i_ishr, i_ist, i_zret, oc_0, fv_0_0, fv_0_1, fv_0_2, fv_0_3, ly_0_3, fv_0_4, fv_0_5, fv_0_6, ly_0_6, fv_0_7, fv_0_8, fv_0_9, oc_1, fv_1_0, fv_1_1, fv_1_2, fv_1_3, fv_1_4, fv_1_5, fv_1_6, ly_1_6, fv_1_7, ly_1_7, fv_1_8, ly_1_8, rd_2, al_2, rd_3, al_3, rd_4, al_4, rd_5, al_5, rd_6, al_6, rd_7, al_7, oc_8, fv_8_0, fv_8_1, fv_8_2, fv_8_3, fv_8_4, fv_8_5, fv_8_6, ly_8_6, fv_8_7, ly_8_7, fv_8_8, ly_8_8, rd_9, al_9, rd_10, al_10, rd_11, al_11, rd_12, al_12, rd_13, al_13, rd_14, al_14, lck_0, lck_i, lck_r, lck_n, lck_l, csum_0, csum_i, csum_r, csum_l, pops_0, pops_s, psh_n, psh_s, List.getElem?_cons_zero, List.getElem?_cons_succ, List.set_cons_zero, List.set_cons_succ, true_and, and_true, Nat.reduceAdd, Nat.reduceLeDiff, S1_copy, CP_81]
  exact nx
def S5_rudeFor : Sp := fun av h Q => match av with | [.ref x, .int o, .int n] => Rn (T5_rudeFor Q S1_has S5_isWithin S1_thoseWaiting SJ6_bitCount S5_isOutIfRude) (0, [some (.ref x), some (.int o), some (.int n), none, none, none, none], [], h) | _ => False
theorem rn5_rudeFor {h : Hp} {Q : Po} {x : Nat} {o : Int32} {n : Int32} (hS : S5_rudeFor [.ref x, .int o, .int n] h Q) : Rn (T5_rudeFor Q S1_has S5_isWithin S1_thoseWaiting SJ6_bitCount S5_isOutIfRude) (0, [some (.ref x), some (.int o), some (.int n), none, none, none, none], [], h) := hS
def S6_rudeFor : Sp := fun av h Q => match av with | [.ref x, .int o, .int n] => Rn (T6_rudeFor Q S6_isOne S6_isShort S6_its S6_size S6_passesBy) (0, [some (.ref x), some (.int o), some (.int n), none, none, none], [], h) | _ => False
theorem rn6_rudeFor {h : Hp} {Q : Po} {x : Nat} {o : Int32} {n : Int32} (hS : S6_rudeFor [.ref x, .int o, .int n] h Q) : Rn (T6_rudeFor Q S6_isOne S6_isShort S6_its S6_size S6_passesBy) (0, [some (.ref x), some (.int o), some (.int n), none, none, none], [], h) := hS
theorem Fr8_t {h h1 h2 : Hp} (f : Fr8 h h1) (g : Fr8 h1 h2) : Fr8 h h2 := fun p hp => by rw [g p hp, f p hp]
theorem rdP_8 {h h1 : Hp} (f : Fr8 h h1) (hI : InvG (vg h 1)) {k m p : Nat} (hk : k < nG (vg h 1)) : byB (rdG (vg h1 1) p) k m = byB (rdG (vg h 1) p) k m := by
  have e := vg_F8 f
  unfold byB
  rw [byN_c (rdG_c e p) (rdJ_i (InvG_c e.symm hI) _ _).1 (by rw [rdG_n, Geq_n e]; exact hk) m]
theorem lp5_rudeI {h : Hp} {Q : Po} (hI : InvG (vg h 1)) {k m w : Nat} (hk : k < nG (vg h 1)) (hm : m ≤ 40) (hw : w < 256) (hb : ∀ j, j < 8 → (w.testBit j = true ↔ j < nG (vg h 1) ∧ ¬ vg h 1 6 j = -1)) (hwN : w < 2 ^ nG (vg h 1)) {s : Nat} (hs : s ≤ 8) (hA : ∀ p, p < 256 → p &&& w = p → pcn p < s → ¬ rdP (vg h 1) k m p) (hQ : ∀ R, rdR (rdP (vg h 1) k m) (2 ^ nG (vg h 1)) R → ∀ h1, Fr8 h h1 → Q (some (.int R)) h1) (next : (∀ p, p < 256 → p &&& w = p → pcn p < s + 1 → ¬ rdP (vg h 1) k m p) → ∀ h1, Fr8 h h1 → ∀ y z, Rn (T5_rudeFor Q S1_has S5_isWithin S1_thoseWaiting SJ6_bitCount S5_isOutIfRude) (33, [some (.ref 0), some (.int (nI k)), some (.int (nI m)), some (.int (nI w)), some (.int (nI s + 1)), y, z], [], h1)) : ∀ d q, d + q = w + 1 → (∀ p, p < q → p &&& w = p → pcn p = s → ¬ rdP (vg h 1) k m p) → ∀ h1, Fr8 h h1 → ∀ z, Rn (T5_rudeFor Q S1_has S5_isWithin S1_thoseWaiting SJ6_bitCount S5_isOutIfRude) (43, [some (.ref 0), some (.int (nI k)), some (.int (nI m)), some (.int (nI w)), some (.int (nI s)), some (.int (nI q)), z], [], h1)
  | 0, q, e, hB, h1, f, z => by
    have e : q = w + 1 := by omega
    subst e
    have hlt : nI w < nI (w + 1) := nI_lt (by omega) (by omega)
    have nx := next (fun p p1 p2 p3 => by
      rcases Nat.lt_or_ge (pcn p) s with c | c
      · exact hA p p1 p2 c
      · have : p ≤ w := by rw [← p2]; exact Nat.and_le_right
        exact hB p (by omega) p2 (by omega)) h1 f (some (.int (nI (w + 1)))) z
    refine Rn_go C5_rudeFor 60 ?_
    simp only [x5_rudeFor_0, x5_rudeFor_1, x5_rudeFor_4, x5_rudeFor_5, x5_rudeFor_8, x5_rudeFor_11, x5_rudeFor_12, x5_rudeFor_14, x5_rudeFor_17, x5_rudeFor_20, x5_rudeFor_21, x5_rudeFor_22, x5_rudeFor_23, x5_rudeFor_26, x5_rudeFor_29, x5_rudeFor_30, x5_rudeFor_31, k5_rudeFor_33, t5_rudeFor_33, x5_rudeFor_35, x5_rudeFor_37, x5_rudeFor_40, x5_rudeFor_41, k5_rudeFor_43, t5_rudeFor_43, x5_rudeFor_45, x5_rudeFor_46, x5_rudeFor_49, x5_rudeFor_51, x5_rudeFor_52, x5_rudeFor_53, x5_rudeFor_54, x5_rudeFor_55, x5_rudeFor_58, x5_rudeFor_60, x5_rudeFor_63, x5_rudeFor_65, x5_rudeFor_68, x5_rudeFor_69, x5_rudeFor_72, x5_rudeFor_73, x5_rudeFor_75, x5_rudeFor_77, x5_rudeFor_80, x5_rudeFor_81, x5_rudeFor_82, x5_rudeFor_83, x5_rudeFor_85, x5_rudeFor_88, x5_rudeFor_91, x5_rudeFor_93, x5_rudeFor_94, x5_rudeFor_97, x5_rudeFor_100, x5_rudeFor_103, x5_rudeFor_106, x5_rudeFor_108, i_ald, i_cS, i_cV, i_get, i_goto, i_iand, i_ic, i_ic_gt, i_ic_ne, i_if_eq, i_if_ne, i_ild, i_inc, i_iret, i_ist, i_ixor, oc_0, fv_0_0, fv_0_1, fv_0_2, fv_0_3, ly_0_3, fv_0_4, fv_0_5, fv_0_6, ly_0_6, fv_0_7, fv_0_8, fv_0_9, oc_1, fv_1_0, fv_1_1, fv_1_2, fv_1_3, fv_1_4, fv_1_5, fv_1_6, ly_1_6, fv_1_7, ly_1_7, fv_1_8, ly_1_8, rd_2, al_2, rd_3, al_3, rd_4, al_4, rd_5, al_5, rd_6, al_6, rd_7, al_7, oc_8, fv_8_0, fv_8_1, fv_8_2, fv_8_3, fv_8_4, fv_8_5, fv_8_6, ly_8_6, fv_8_7, ly_8_7, fv_8_8, ly_8_8, rd_9, al_9, rd_10, al_10, rd_11, al_11, rd_12, al_12, rd_13, al_13, rd_14, al_14, lck_0, lck_i, lck_r, lck_n, lck_l, csum_0, csum_i, csum_r, csum_l, pops_0, pops_s, psh_n, psh_s, List.getElem?_cons_zero, List.getElem?_cons_succ, List.set_cons_zero, List.set_cons_succ, true_and, and_true, Nat.reduceAdd, Nat.reduceLeDiff]
    exact ⟨fun _ => nx, fun c => absurd hlt c⟩
  | d + 1, q, e, hB, h1, f, z => by
    have hlt : ¬ nI w < nI q := nI_nlt (by omega) (by omega)
    have q8 : 0 ≤ nI q ∧ nI q < 256 := ⟨nI_pos' (by omega), nI_lt (b := 256) (by omega) (by decide)⟩
    have pq : pc8 (nI q) = nI (pcn q) := pc_is q (by omega)
    have p8 := pcn_le q (by omega)
    have ih := lp5_rudeI hI hk hm hw hb hwN hs hA hQ next d (q + 1) (by omega)
    rw [← nI_1] at ih
    have skip : ¬ (q &&& w = q ∧ pcn q = s) → ∀ z, Rn (T5_rudeFor Q S1_has S5_isWithin S1_thoseWaiting SJ6_bitCount S5_isOutIfRude) (43, [some (.ref 0), some (.int (nI k)), some (.int (nI m)), some (.int (nI w)), some (.int (nI s)), some (.int (nI q + 1)), z], [], h1) := fun c z => ih (fun p p1 p2 p3 => by
      rcases Nat.lt_or_ge p q with x | x
      · exact hB p x p2 p3
      · have : p = q := by omega
        subst this
        exact absurd ⟨p2, p3⟩ c) h1 f z
    refine Rn_go C5_rudeFor 60 ?_
    simp only [x5_rudeFor_0, x5_rudeFor_1, x5_rudeFor_4, x5_rudeFor_5, x5_rudeFor_8, x5_rudeFor_11, x5_rudeFor_12, x5_rudeFor_14, x5_rudeFor_17, x5_rudeFor_20, x5_rudeFor_21, x5_rudeFor_22, x5_rudeFor_23, x5_rudeFor_26, x5_rudeFor_29, x5_rudeFor_30, x5_rudeFor_31, k5_rudeFor_33, t5_rudeFor_33, x5_rudeFor_35, x5_rudeFor_37, x5_rudeFor_40, x5_rudeFor_41, k5_rudeFor_43, t5_rudeFor_43, x5_rudeFor_45, x5_rudeFor_46, x5_rudeFor_49, x5_rudeFor_51, x5_rudeFor_52, x5_rudeFor_53, x5_rudeFor_54, x5_rudeFor_55, x5_rudeFor_58, x5_rudeFor_60, x5_rudeFor_63, x5_rudeFor_65, x5_rudeFor_68, x5_rudeFor_69, x5_rudeFor_72, x5_rudeFor_73, x5_rudeFor_75, x5_rudeFor_77, x5_rudeFor_80, x5_rudeFor_81, x5_rudeFor_82, x5_rudeFor_83, x5_rudeFor_85, x5_rudeFor_88, x5_rudeFor_91, x5_rudeFor_93, x5_rudeFor_94, x5_rudeFor_97, x5_rudeFor_100, x5_rudeFor_103, x5_rudeFor_106, x5_rudeFor_108, i_ald, i_cS, i_cV, i_get, i_goto, i_iand, i_ic, i_ic_gt, i_ic_ne, i_if_eq, i_if_ne, i_ild, i_inc, i_iret, i_ist, i_ixor, oc_0, fv_0_0, fv_0_1, fv_0_2, fv_0_3, ly_0_3, fv_0_4, fv_0_5, fv_0_6, ly_0_6, fv_0_7, fv_0_8, fv_0_9, oc_1, fv_1_0, fv_1_1, fv_1_2, fv_1_3, fv_1_4, fv_1_5, fv_1_6, ly_1_6, fv_1_7, ly_1_7, fv_1_8, ly_1_8, rd_2, al_2, rd_3, al_3, rd_4, al_4, rd_5, al_5, rd_6, al_6, rd_7, al_7, oc_8, fv_8_0, fv_8_1, fv_8_2, fv_8_3, fv_8_4, fv_8_5, fv_8_6, ly_8_6, fv_8_7, ly_8_7, fv_8_8, ly_8_8, rd_9, al_9, rd_10, al_10, rd_11, al_11, rd_12, al_12, rd_13, al_13, rd_14, al_14, lck_0, lck_i, lck_r, lck_n, lck_l, csum_0, csum_i, csum_r, csum_l, pops_0, pops_s, psh_n, psh_s, List.getElem?_cons_zero, List.getElem?_cons_succ, List.set_cons_zero, List.set_cons_succ, true_and, and_true, Nat.reduceAdd, Nat.reduceLeDiff, SJ6_bitCount, pq, i00, i10, not_true_eq_false, not_false_eq_true, true_implies, false_implies, and_true, true_and, implies_true]
    refine ⟨fun c => absurd c hlt, fun _ => ⟨fun c => ?_, fun c => ⟨q8, fun c2 => ?_, fun c2 => ?_⟩⟩⟩
    · exact skip (fun x => c ((sub_w q w (by omega) hw).mpr x.1)) _
    · exact skip (fun x => c2 (by rw [x.2])) _
    · have c3 : q &&& w = q := (sub_w q w (by omega) hw).mp c
      have c4 : pcn q = s := (nI_eq (by omega) (by omega)).mp c2
      have e8 := vg_F8 f
      refine ⟨rfl, k, m, q, rfl, rfl, rfl, by rw [Geq_n e8]; exact hk, hm, by omega, InvG_c e8.symm hI, fun h2 f2 => ?_⟩
      rw [rdP_8 f hI hk]
      have f3 := Fr8_t f f2
      refine ⟨fun c5 => ?_, fun c5 => ?_⟩
      · rw [byB_0] at c5
        exact ih (fun p p1 p2 p3 => by
          rcases Nat.lt_or_ge p q with x | x
          · exact hB p x p2 p3
          · have : p = q := by omega
            rw [this]; exact c5) h2 f3 _
      · rw [byB_0] at c5
        have c6 : rdP (vg h 1) k m q := Classical.not_not.mp c5
        refine hQ _ (Or.inr ⟨q, by omega, rfl, c6, fun p p1 p2 => ?_⟩) h2 f3
        have p3 := (rdP_w hI (q := p) (m := m) hk hb).mpr p2
        have p4 : p &&& w < 256 := Nat.lt_of_le_of_lt Nat.and_le_right hw
        have p5 : (p &&& w) &&& w = p &&& w := by rw [Nat.and_assoc, Nat.and_self]
        have p6 : s ≤ pcn (p &&& w) := Nat.le_of_not_lt (fun x => hA _ p4 p5 x p3)
        refine lex_trans (b := p &&& w) ?_ ⟨pcn_and p w, Nat.and_le_left⟩
        unfold lexP
        rcases Nat.lt_or_ge s (pcn (p &&& w)) with x | x
        · left; omega
        · right
          refine ⟨by omega, Nat.le_of_not_lt (fun y => hB _ y p5 (by omega) p3)⟩
theorem lp5_rudeO {h : Hp} {Q : Po} (hI : InvG (vg h 1)) {k m w : Nat} (hk : k < nG (vg h 1)) (hm : m ≤ 40) (hw : w < 256) (hb : ∀ j, j < 8 → (w.testBit j = true ↔ j < nG (vg h 1) ∧ ¬ vg h 1 6 j = -1)) (hwN : w < 2 ^ nG (vg h 1)) (hQ : ∀ R, rdR (rdP (vg h 1) k m) (2 ^ nG (vg h 1)) R → ∀ h1, Fr8 h h1 → Q (some (.int R)) h1) : ∀ d s, d + s = 9 → (∀ p, p < 256 → p &&& w = p → pcn p < s → ¬ rdP (vg h 1) k m p) → ∀ h1, Fr8 h h1 → ∀ y z, Rn (T5_rudeFor Q S1_has S5_isWithin S1_thoseWaiting SJ6_bitCount S5_isOutIfRude) (33, [some (.ref 0), some (.int (nI k)), some (.int (nI m)), some (.int (nI w)), some (.int (nI s)), y, z], [], h1)
  | 0, s, e, hA, h1, f, y, z => by
    have e : s = 9 := by omega
    subst e
    have nx := hQ (-3) (Or.inl ⟨rfl, fun q _ p2 => by
      have p3 := (rdP_w hI (q := q) (m := m) hk hb).mpr p2
      have p4 : q &&& w < 256 := Nat.lt_of_le_of_lt Nat.and_le_right hw
      have p5 : (q &&& w) &&& w = q &&& w := by rw [Nat.and_assoc, Nat.and_self]
      have := pcn_le _ p4
      exact hA _ p4 p5 (by omega) p3⟩) h1 f
    refine Rn_go C5_rudeFor 60 ?_
    simp only [x5_rudeFor_0, x5_rudeFor_1, x5_rudeFor_4, x5_rudeFor_5, x5_rudeFor_8, x5_rudeFor_11, x5_rudeFor_12, x5_rudeFor_14, x5_rudeFor_17, x5_rudeFor_20, x5_rudeFor_21, x5_rudeFor_22, x5_rudeFor_23, x5_rudeFor_26, x5_rudeFor_29, x5_rudeFor_30, x5_rudeFor_31, k5_rudeFor_33, t5_rudeFor_33, x5_rudeFor_35, x5_rudeFor_37, x5_rudeFor_40, x5_rudeFor_41, k5_rudeFor_43, t5_rudeFor_43, x5_rudeFor_45, x5_rudeFor_46, x5_rudeFor_49, x5_rudeFor_51, x5_rudeFor_52, x5_rudeFor_53, x5_rudeFor_54, x5_rudeFor_55, x5_rudeFor_58, x5_rudeFor_60, x5_rudeFor_63, x5_rudeFor_65, x5_rudeFor_68, x5_rudeFor_69, x5_rudeFor_72, x5_rudeFor_73, x5_rudeFor_75, x5_rudeFor_77, x5_rudeFor_80, x5_rudeFor_81, x5_rudeFor_82, x5_rudeFor_83, x5_rudeFor_85, x5_rudeFor_88, x5_rudeFor_91, x5_rudeFor_93, x5_rudeFor_94, x5_rudeFor_97, x5_rudeFor_100, x5_rudeFor_103, x5_rudeFor_106, x5_rudeFor_108, i_ald, i_cS, i_cV, i_get, i_goto, i_iand, i_ic, i_ic_gt, i_ic_ne, i_if_eq, i_if_ne, i_ild, i_inc, i_iret, i_ist, i_ixor, oc_0, fv_0_0, fv_0_1, fv_0_2, fv_0_3, ly_0_3, fv_0_4, fv_0_5, fv_0_6, ly_0_6, fv_0_7, fv_0_8, fv_0_9, oc_1, fv_1_0, fv_1_1, fv_1_2, fv_1_3, fv_1_4, fv_1_5, fv_1_6, ly_1_6, fv_1_7, ly_1_7, fv_1_8, ly_1_8, rd_2, al_2, rd_3, al_3, rd_4, al_4, rd_5, al_5, rd_6, al_6, rd_7, al_7, oc_8, fv_8_0, fv_8_1, fv_8_2, fv_8_3, fv_8_4, fv_8_5, fv_8_6, ly_8_6, fv_8_7, ly_8_7, fv_8_8, ly_8_8, rd_9, al_9, rd_10, al_10, rd_11, al_11, rd_12, al_12, rd_13, al_13, rd_14, al_14, lck_0, lck_i, lck_r, lck_n, lck_l, csum_0, csum_i, csum_r, csum_l, pops_0, pops_s, psh_n, psh_s, List.getElem?_cons_zero, List.getElem?_cons_succ, List.set_cons_zero, List.set_cons_succ, true_and, and_true, Nat.reduceAdd, Nat.reduceLeDiff]
    exact ⟨fun _ => nx, fun c => absurd (by decide) c⟩
  | d + 1, s, e, hA, h1, f, y, z => by
    have hlt : ¬ 8 < nI s := (show ¬ nI 8 < nI s from nI_nlt (by omega) (by omega))
    have nx := lp5_rudeI (Q := Q) hI hk hm hw hb hwN (s := s) (by omega) hA hQ (fun hA1 h2 f2 y1 z1 => by
      rw [nI_1]
      exact lp5_rudeO hI hk hm hw hb hwN hQ d (s + 1) (by omega) hA1 h2 f2 y1 z1) (w + 1) 0 (by omega) (fun p p1 => absurd p1 (by omega)) h1 f z
    refine Rn_go C5_rudeFor 60 ?_
    simp only [x5_rudeFor_0, x5_rudeFor_1, x5_rudeFor_4, x5_rudeFor_5, x5_rudeFor_8, x5_rudeFor_11, x5_rudeFor_12, x5_rudeFor_14, x5_rudeFor_17, x5_rudeFor_20, x5_rudeFor_21, x5_rudeFor_22, x5_rudeFor_23, x5_rudeFor_26, x5_rudeFor_29, x5_rudeFor_30, x5_rudeFor_31, k5_rudeFor_33, t5_rudeFor_33, x5_rudeFor_35, x5_rudeFor_37, x5_rudeFor_40, x5_rudeFor_41, k5_rudeFor_43, t5_rudeFor_43, x5_rudeFor_45, x5_rudeFor_46, x5_rudeFor_49, x5_rudeFor_51, x5_rudeFor_52, x5_rudeFor_53, x5_rudeFor_54, x5_rudeFor_55, x5_rudeFor_58, x5_rudeFor_60, x5_rudeFor_63, x5_rudeFor_65, x5_rudeFor_68, x5_rudeFor_69, x5_rudeFor_72, x5_rudeFor_73, x5_rudeFor_75, x5_rudeFor_77, x5_rudeFor_80, x5_rudeFor_81, x5_rudeFor_82, x5_rudeFor_83, x5_rudeFor_85, x5_rudeFor_88, x5_rudeFor_91, x5_rudeFor_93, x5_rudeFor_94, x5_rudeFor_97, x5_rudeFor_100, x5_rudeFor_103, x5_rudeFor_106, x5_rudeFor_108, i_ald, i_cS, i_cV, i_get, i_goto, i_iand, i_ic, i_ic_gt, i_ic_ne, i_if_eq, i_if_ne, i_ild, i_inc, i_iret, i_ist, i_ixor, oc_0, fv_0_0, fv_0_1, fv_0_2, fv_0_3, ly_0_3, fv_0_4, fv_0_5, fv_0_6, ly_0_6, fv_0_7, fv_0_8, fv_0_9, oc_1, fv_1_0, fv_1_1, fv_1_2, fv_1_3, fv_1_4, fv_1_5, fv_1_6, ly_1_6, fv_1_7, ly_1_7, fv_1_8, ly_1_8, rd_2, al_2, rd_3, al_3, rd_4, al_4, rd_5, al_5, rd_6, al_6, rd_7, al_7, oc_8, fv_8_0, fv_8_1, fv_8_2, fv_8_3, fv_8_4, fv_8_5, fv_8_6, ly_8_6, fv_8_7, ly_8_7, fv_8_8, ly_8_8, rd_9, al_9, rd_10, al_10, rd_11, al_11, rd_12, al_12, rd_13, al_13, rd_14, al_14, lck_0, lck_i, lck_r, lck_n, lck_l, csum_0, csum_i, csum_r, csum_l, pops_0, pops_s, psh_n, psh_s, List.getElem?_cons_zero, List.getElem?_cons_succ, List.set_cons_zero, List.set_cons_succ, true_and, and_true, Nat.reduceAdd, Nat.reduceLeDiff]
    exact ⟨fun c => absurd c hlt, fun _ => nx⟩
