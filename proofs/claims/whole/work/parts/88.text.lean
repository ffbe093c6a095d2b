/-! names of kinds and laws; the productions of the text; the class tells -/
def nmI (n : Nat) (t : Nat → Int32) (p : Nat) (w : List Nat) : Int32 := if kd n t (st n t p) = 1 ∧ nI (nx n t p - st n t p) = nI w.length ∧ nmE t (st n t p) w = true then 1 else 0
def nuI (n : Nat) (t : Nat → Int32) (p : Nat) (top : Int32) : Int32 := if kd n t (st n t p) = 2 ∧ nx n t p - st n t p ≤ 3 ∧ vlC n t (st n t p) ≤ top then 1 else 0
def seI (n : Nat) (t : Nat → Int32) (p : Nat) : Int32 := if kd n t (st n t p) = 3 ∧ t (st n t p) = 59 then 1 else 0
def kdF (N : List Nat → Int32) : Int32 := if N [105, 110, 109, 97, 116, 101] = 0 then (if N [98, 117, 114, 103, 108, 97, 114] = 0 then (if N [100, 117, 101, 108, 108, 105, 115, 116] = 0 then (if N [102, 111, 114, 103, 101, 114] = 0 then (if N [110, 117, 110] = 0 then (if N [99, 104, 105, 108, 100] = 0 then (-1) else 5) else 4) else 3) else 2) else 1) else 0
def lwF (N : List Nat → Int32) : Int32 := if N [115, 116, 114, 105, 99, 116] = 0 then (if N [101, 97, 115, 101] = 0 then (if N [100, 117, 101] = 0 then (if N [115, 110, 101, 101, 122, 101] = 0 then (-1) else 3) else 2) else 1) else 0
theorem kd_le (n : Nat) (t : Nat → Int32) (s : Nat) : kd n t s ≤ 3 := by
  unfold kd
  split
  · split
    · omega
    · split <;> omega
  · omega
theorem kdE (n : Nat) (t : Nat → Int32) (s k : Nat) (hk : k < 1000) : (nI (kd n t s) = nI k) = (kd n t s = k) := by
  have := kd_le n t s
  exact propext (nI_eq (by omega) (by omega))
theorem ckB {n : Nat} {t : Nat → Int32} {h : Hp} {G : GG} (ht : h 23 = t) (hG : Hi8 h G) (hn : n ≤ 200) :
    (∀ p f, p ≤ n → TP (CK n t (pg h 8 G) p f)) ∧ (∀ p f, p ≤ n → TQ (CK n t (pg h 8 G) p f)) ∧ (∀ p f, p ≤ n → stp (CK n t (pg h 8 G) p f) = CK n t (pg h 8 G) (nx n t p) f) ∧ (∀ p f w, p ≤ n → nmH (CK n t (pg h 8 G) p f) w = nmI n t p w) ∧ (∀ p f top, p ≤ n → nuH (CK n t (pg h 8 G) p f) top = nuI n t p top) ∧ (∀ p f, p ≤ n → seH (CK n t (pg h 8 G) p f) = seI n t p) ∧ (∀ p f, p ≤ n → TE (CK n t (pg h 8 G) p f)) ∧ (∀ p, flH (CK n t (pg h 8 G) p (-1)) = CK n t (pg h 8 G) p (nI (st n t p))) ∧ (∀ p q, q ≤ n → flH (CK n t (pg h 8 G) p (nI q)) = CK n t (pg h 8 G) p (nI q)) := by
  have e23 : pg h 8 G 23 = t := by rw [hi_at hG (by decide)]; exact ht
  have c23 : ∀ p f, CK n t (pg h 8 G) p f 23 = t := fun p f => by rw [CK_n _ _ _ _ _ (show (23 : Nat) ≠ 22 by decide)]; exact e23
  refine ⟨fun p f hp => TP_CK hn t _ hp f, fun p f hp => ?_, fun p f hp => stp_CK hn e23 hp f, fun p f w hp => ?_, fun p f top hp => ?_, fun p f hp => ?_, fun p f hp => ?_, fun p => ?_, fun p q hq => ?_⟩
  · have a := st_le t hp
    have b := nx_le t hp
    have d := st_nx n t p
    unfold TQ
    rw [CK_3, CK_4]
    exact ⟨nI_pos' (by omega), nI_le d (by omega), nI_le (b := 200) (by omega) (by decide)⟩
  · have a := st_le t hp
    have d := st_nx n t p
    unfold nmH nmI
    rw [CK_2, CK_3, CK_4, c23, nI_s d, show ix (nI (st n t p)) = st n t p from ix_nI (by omega)]
    have := kdE n t (st n t p) 1 (by decide)
    simp only [show (nI (kd n t (st n t p)) = 1) = (kd n t (st n t p) = 1) from this]
  · have a := st_le t hp
    have b := nx_le t hp
    have d := st_nx n t p
    unfold nuH nuI
    rw [CK_2, CK_3, CK_4, CK_5, nI_s d]
    have k2 := kdE n t (st n t p) 2 (by decide)
    have k3 : (¬ (3 : Int32) < nI (nx n t p - st n t p)) = (nx n t p - st n t p ≤ 3) := by
      apply propext
      constructor
      · intro q
        rcases Nat.lt_or_ge 3 (nx n t p - st n t p) with x | x
        · exact absurd (nI_lt x (by omega)) q
        · exact x
      · intro q
        exact nI_nlt (a := 3) q (by decide)
    simp only [show (nI (kd n t (st n t p)) = 2) = (kd n t (st n t p) = 2) from k2, k3]
  · have a := st_le t hp
    unfold seH seI
    rw [CK_2, CK_3, c23, show ix (nI (st n t p)) = st n t p from ix_nI (by omega)]
    have := kdE n t (st n t p) 3 (by decide)
    simp only [show (nI (kd n t (st n t p)) = 3) = (kd n t (st n t p) = 3) from this]
  · unfold TE
    rw [CK_2, CK_3]
    intro q
    have q2 : kd n t (st n t p) = 3 := by
      have := kdE n t (st n t p) 3 (by decide)
      rw [← this]; exact q
    have : st n t p < n := by
      rcases Nat.lt_or_ge (st n t p) n with x | x
      · exact x
      · unfold kd at q2
        rw [if_neg (by omega)] at q2
        omega
    exact ⟨nI_pos' (by omega), nI_lt (b := 200) (by omega) (by decide)⟩
  · unfold flH
    rw [CK_6, if_pos rfl, CK_3, CK_f]
  · unfold flH
    rw [CK_6, if_neg (fun e => ?_)]
    have : (0 : Int32) ≤ -1 := by rw [← e]; exact nI_pos' (by omega)
    exact absurd this (by decide)
def S4_kindNamed : Sp := fun av h Q => match av with | [.ref q] => q = 22 ∧ TQ h ∧ Q (some (.int (kdF (nmH h)))) h | _ => False
def S4_lawNamed : Sp := fun av h Q => match av with | [.ref q] => q = 22 ∧ TQ h ∧ Q (some (.int (lwF (nmH h)))) h | _ => False
theorem rn4_kindNamed {h : Hp} {Q : Po} {q : Nat} (hS : S4_kindNamed [.ref q] h Q) : Rn (T4_kindNamed Q S4_isName) (0, [some (.ref q)], [], h) := by
  obtain ⟨rfl, tq, hQ⟩ := hS
  simp only [kdF] at hQ
  refine Rn_in C4_kindNamed 60 ?_
  simp only [x4_kindNamed_0, x4_kindNamed_1, x4_kindNamed_3, x4_kindNamed_6, x4_kindNamed_9, x4_kindNamed_10, x4_kindNamed_11, x4_kindNamed_12, x4_kindNamed_14, x4_kindNamed_17, x4_kindNamed_20, x4_kindNamed_21, x4_kindNamed_22, x4_kindNamed_23, x4_kindNamed_25, x4_kindNamed_28, x4_kindNamed_31, x4_kindNamed_32, x4_kindNamed_33, x4_kindNamed_34, x4_kindNamed_36, x4_kindNamed_39, x4_kindNamed_42, x4_kindNamed_43, x4_kindNamed_44, x4_kindNamed_45, x4_kindNamed_47, x4_kindNamed_50, x4_kindNamed_53, x4_kindNamed_54, x4_kindNamed_55, x4_kindNamed_56, x4_kindNamed_58, x4_kindNamed_61, x4_kindNamed_64, x4_kindNamed_65, x4_kindNamed_68, x4_kindNamed_69, i_ald, i_cV, i_goto, i_ic, i_if_eq, i_iret, i_rc, oc_22, fv_22_0, fv_22_1, ly_22_1, fv_22_2, ly_22_2, fv_22_3, ly_22_3, fv_22_4, ly_22_4, fv_22_5, ly_22_5, fv_22_6, ly_22_6, rd_23, al_23, st_200, st_201, st_202, st_203, st_204, st_205, st_206, st_207, st_208, st_209, st_210, st_211, st_212, st_213, st_214, st_215, lck_0, lck_i, lck_r, lck_n, lck_l, csum_0, csum_i, csum_r, csum_l, pops_0, pops_s, psh_n, psh_s, List.getElem?_cons_zero, List.getElem?_cons_succ, List.set_cons_zero, List.set_cons_succ, true_and, and_true, Nat.reduceAdd, Nat.reduceLeDiff, S4_isName, tq, List.length_cons, List.length_nil, Nat.reduceLT, nn, false_implies, true_implies, implies_true, and_true, true_and, not_true_eq_false, not_false_eq_true, eq_self]
  grind
theorem rn4_lawNamed {h : Hp} {Q : Po} {q : Nat} (hS : S4_lawNamed [.ref q] h Q) : Rn (T4_lawNamed Q S4_isName) (0, [some (.ref q)], [], h) := by
  obtain ⟨rfl, tq, hQ⟩ := hS
  simp only [lwF] at hQ
  refine Rn_in C4_lawNamed 60 ?_
  simp only [x4_lawNamed_0, x4_lawNamed_1, x4_lawNamed_3, x4_lawNamed_6, x4_lawNamed_9, x4_lawNamed_10, x4_lawNamed_11, x4_lawNamed_12, x4_lawNamed_14, x4_lawNamed_17, x4_lawNamed_20, x4_lawNamed_21, x4_lawNamed_22, x4_lawNamed_23, x4_lawNamed_25, x4_lawNamed_28, x4_lawNamed_31, x4_lawNamed_32, x4_lawNamed_33, x4_lawNamed_34, x4_lawNamed_36, x4_lawNamed_39, x4_lawNamed_42, x4_lawNamed_43, x4_lawNamed_46, x4_lawNamed_47, i_ald, i_cV, i_goto, i_ic, i_if_eq, i_iret, i_rc, oc_22, fv_22_0, fv_22_1, ly_22_1, fv_22_2, ly_22_2, fv_22_3, ly_22_3, fv_22_4, ly_22_4, fv_22_5, ly_22_5, fv_22_6, ly_22_6, rd_23, al_23, st_200, st_201, st_202, st_203, st_204, st_205, st_206, st_207, st_208, st_209, st_210, st_211, st_212, st_213, st_214, st_215, lck_0, lck_i, lck_r, lck_n, lck_l, csum_0, csum_i, csum_r, csum_l, pops_0, pops_s, psh_n, psh_s, List.getElem?_cons_zero, List.getElem?_cons_succ, List.set_cons_zero, List.set_cons_succ, true_and, and_true, Nat.reduceAdd, Nat.reduceLeDiff, S4_isName, tq, List.length_cons, List.length_nil, Nat.reduceLT, nn, false_implies, true_implies, implies_true, and_true, true_and, not_true_eq_false, not_false_eq_true, eq_self]
  grind
/-- the productions: where it goes wrong, or where its end must stand and what the gaol is then -/
def oInm (n : Nat) (t : Nat → Int32) (p : Nat) (G : GG) (k : Int32) : Sum Nat (Nat × GG) := if G 0 6 < 8 then (if nmI n t (nx n t p) [105, 110] = 0 then .inl (nx n t p) else if nuI n t (nx n t (nx n t p)) 7 = 0 then .inl (nx n t (nx n t p)) else if nmI n t (nx n t (nx n t (nx n t p))) [103, 114, 97, 99, 101] = 0 then .inr ((nx n t (nx n t (nx n t p))), addG G k 5 (vlC n t (st n t (nx n t (nx n t p))))) else if nuI n t (nx n t (nx n t (nx n t (nx n t p)))) 99 = 0 then .inl (nx n t (nx n t (nx n t (nx n t p)))) else .inr ((nx n t (nx n t (nx n t (nx n t (nx n t p))))), addG G k (vlC n t (st n t (nx n t (nx n t (nx n t (nx n t p)))))) (vlC n t (st n t (nx n t (nx n t p)))))) else .inl p
def oLaw (n : Nat) (t : Nat → Int32) (p : Nat) (G : GG) (l : Nat) (top : Int32) : Sum Nat (Nat × GG) := if nuI n t (nx n t p) top = 0 then .inl (nx n t p) else .inr ((nx n t (nx n t p)), up2 G 1 l (vlC n t (st n t (nx n t p))))
def oRit (n : Nat) (t : Nat → Int32) (p : Nat) (G : GG) : Sum Nat (Nat × GG) := if nuI n t (nx n t p) 7 = 0 then .inl (nx n t p) else if nmI n t (nx n t (nx n t p)) [105, 115] = 0 then .inl (nx n t (nx n t p)) else if nuI n t (nx n t (nx n t (nx n t p))) 99 = 0 then .inl (nx n t (nx n t (nx n t p))) else .inr ((nx n t (nx n t (nx n t (nx n t p)))), up2 G 2 (ix (vlC n t (st n t (nx n t p)))) (vlC n t (st n t (nx n t (nx n t (nx n t p))))))
def oWai (n : Nat) (t : Nat → Int32) (p : Nat) (G : GG) : Sum Nat (Nat × GG) := if nuI n t (nx n t p) (G 0 6 - 1) = 0 then .inl (nx n t p) else if nmI n t (nx n t (nx n t p)) [102, 111, 114] = 0 then .inl (nx n t (nx n t p)) else if nuI n t (nx n t (nx n t (nx n t p))) (G 0 6 - 1) = 0 ∨ (vlC n t (st n t (nx n t (nx n t (nx n t p))))) = (vlC n t (st n t (nx n t p))) then .inl (nx n t (nx n t (nx n t p))) else .inr ((nx n t (nx n t (nx n t (nx n t p)))), up2 G 6 (ix (vlC n t (st n t (nx n t p)))) (vlC n t (st n t (nx n t (nx n t (nx n t p))))))
def endS (n : Nat) (t : Nat → Int32) (x : Sum Nat (Nat × GG)) : Sum Nat (Nat × GG) := match x with
  | .inl q => .inl q
  | .inr (e, G) => if seI n t e = 0 then .inl e else .inr (nx n t e, G)
def cRes (n : Nat) (t : Nat → Int32) (h : Hp) (G : GG) (Q : Po) (x : Sum Nat (Nat × GG)) : Prop := match x with
  | .inl q => ∀ p, p ≤ n → Q none (CK n t (pg h 8 G) p (nI (st n t q)))
  | .inr (p, H) => Q none (CK n t (pg h 8 H) p (-1))
def CC (n : Nat) (t : Nat → Int32) (h : Hp) (p : Nat) (G : GG) : Prop := h 23 = t ∧ Hi8 h G ∧ n ≤ 200 ∧ p ≤ n ∧ InvG G
def S4_tellInmate : Sp := fun av hh Q => match av with | [.ref q, .ref g, .int k] => q = 22 ∧ g = 8 ∧ ∃ n t h p G, hh = CK n t (pg h 8 G) p (-1) ∧ CC n t h p G ∧ cRes n t h G Q (endS n t (oInm n t p G k)) | _ => False
def S4_tellLaw : Sp := fun av hh Q => match av with | [.ref q, .ref g, .int l] => q = 22 ∧ g = 8 ∧ (0 ≤ l ∧ l < 4) ∧ ∃ n t h p G, hh = CK n t (pg h 8 G) p (-1) ∧ CC n t h p G ∧ cRes n t h G Q (endS n t (oLaw n t p G (ix l) (tbT.getD (ix l) 0))) | _ => False
def S4_tellRite : Sp := fun av hh Q => match av with | [.ref q, .ref g] => q = 22 ∧ g = 8 ∧ ∃ n t h p G, hh = CK n t (pg h 8 G) p (-1) ∧ CC n t h p G ∧ cRes n t h G Q (endS n t (oRit n t p G)) | _ => False
def S4_tellWait : Sp := fun av hh Q => match av with | [.ref q, .ref g] => q = 22 ∧ g = 8 ∧ ∃ n t h p G, hh = CK n t (pg h 8 G) p (-1) ∧ CC n t h p G ∧ cRes n t h G Q (endS n t (oWai n t p G)) | _ => False
theorem add_CK (n : Nat) (t : Nat → Int32) (h : Hp) (G : GG) (p : Nat) (f k g r : Int32) : pg (CK n t (pg h 8 G) p f) 8 (addG (vg (CK n t (pg h 8 G) p f) 8) k g r) = CK n t (pg h 8 (addG G k g r)) p f := by
  have e6 : vg (CK n t (pg h 8 G) p f) 8 0 6 = G 0 6 := by
    show CK n t (pg h 8 G) p f 8 6 = G 0 6
    rw [CK_n _ _ _ _ _ (show (8 : Nat) ≠ 22 by decide), pg8_0]
  have e : nG (vg (CK n t (pg h 8 G) p f) 8) = nG G := by
    show ix (vg (CK n t (pg h 8 G) p f) 8 0 6) = ix (G 0 6)
    rw [e6]
  unfold addG
  rw [e, e6]
  simp only [pg_up, pg_vg, Nat.reduceAdd]
  rw [CK_up _ _ _ _ _ 11 _ _ (by simp), CK_up _ _ _ _ _ 12 _ _ (by simp), CK_up _ _ _ _ _ 13 _ _ (by simp), CK_up _ _ _ _ _ 14 _ _ (by simp), CK_up _ _ _ _ _ 8 _ _ (by simp)]
theorem pgu (h : Hp) (G : GG) (j k : Nat) (x : Int32) : up2 (pg h 8 G) (8 + j) k x = pg h 8 (up2 G j k x) := up2_pg h 8 j k G x
theorem upc_1 (n : Nat) (t : Nat → Int32) (h : Hp) (G : GG) (p : Nat) (f : Int32) (k : Nat) (x : Int32) : up2 (CK n t (pg h 8 G) p f) 9 k x = CK n t (pg h 8 (up2 G 1 k x)) p f := by
  rw [CK_up _ _ _ _ _ 9 _ _ (by simp)]; exact congrArg (fun z => CK n t z p f) (pgu h G 1 k x)
theorem upc_2 (n : Nat) (t : Nat → Int32) (h : Hp) (G : GG) (p : Nat) (f : Int32) (k : Nat) (x : Int32) : up2 (CK n t (pg h 8 G) p f) 10 k x = CK n t (pg h 8 (up2 G 2 k x)) p f := by
  rw [CK_up _ _ _ _ _ 10 _ _ (by simp)]; exact congrArg (fun z => CK n t z p f) (pgu h G 2 k x)
theorem upc_6 (n : Nat) (t : Nat → Int32) (h : Hp) (G : GG) (p : Nat) (f : Int32) (k : Nat) (x : Int32) : up2 (CK n t (pg h 8 G) p f) 14 k x = CK n t (pg h 8 (up2 G 6 k x)) p f := by
  rw [CK_up _ _ _ _ _ 14 _ _ (by simp)]; exact congrArg (fun z => CK n t z p f) (pgu h G 6 k x)
/-- a number of at most three digits -/
theorem vl_rng {n : Nat} {t : Nat → Int32} {p : Nat} {top : Int32} (h : ¬ nuI n t p top = 0) : 0 ≤ vlC n t (st n t p) ∧ vlC n t (st n t p) ≤ top ∧ vlM n t (st n t p) = vlC n t (st n t p) := by
  unfold nuI at h
  by_cases c : kd n t (st n t p) = 2 ∧ nx n t p - st n t p ≤ 3 ∧ vlC n t (st n t p) ≤ top
  · obtain ⟨c1, c2, c3⟩ := c
    have dg : ∀ j, st n t p ≤ j → j < nx n t p → 48 ≤ t j ∧ t j ≤ 57 := by
      have sn : st n t p < n := by
        rcases Nat.lt_or_ge (st n t p) n with x | x
        · exact x
        · unfold kd at c1
          rw [if_neg (by omega)] at c1
          omega
      have e : nx n t p = en n t dgt (st n t p) := by
        unfold kd at c1
        unfold nx ee
        rw [if_pos sn] at c1 ⊢
        by_cases a : alp (t (st n t p)) = true
        · rw [if_pos a] at c1; omega
        · rw [if_neg a] at c1 ⊢
          by_cases d : dgt (t (st n t p)) = true
          · rw [if_pos d]
          · rw [if_neg d] at c1; omega
      intro j h1 h2
      rw [e] at h2
      have := en_all (n - st n t p) (st n t p) (by omega) j h1 h2
      rw [dgt_t] at this
      exact this
    refine ⟨?_, c3, ?_⟩
    · unfold vlC
      rw [if_pos c1]
      have e2 : ee n t (st n t p) = nx n t p := rfl
      rw [e2]
      rcases (show nx n t p - st n t p = 0 ∨ nx n t p - st n t p = 1 ∨ nx n t p - st n t p = 2 ∨ nx n t p - st n t p = 3 by omega) with z | z | z | z
      · rw [z, vC]; decide
      · rw [z]
        have d0 := dg (st n t p) (by omega) (by omega)
        simp only [vC]
        grind
      · rw [z]
        have d0 := dg (st n t p) (by omega) (by omega)
        have d1 := dg (st n t p + 1) (by omega) (by omega)
        simp only [vC]
        grind
      · rw [z]
        have d0 := dg (st n t p) (by omega) (by omega)
        have d1 := dg (st n t p + 1) (by omega) (by omega)
        have d2 := dg (st n t p + 1 + 1) (by omega) (by omega)
        simp only [vC]
        grind
    · unfold vlC vlM
      rw [if_pos c1, if_pos c1]
      have e2 : ee n t (st n t p) = nx n t p := rfl
      rw [e2]
      rcases (show nx n t p - st n t p = 0 ∨ nx n t p - st n t p = 1 ∨ nx n t p - st n t p = 2 ∨ nx n t p - st n t p = 3 by omega) with z | z | z | z
      · rw [z]; rfl
      · rw [z]
        simp only [vC, vM]
        rw [if_neg (by decide), Int32.mul_comm 10 0]
      · rw [z]
        have d0 := dg (st n t p) (by omega) (by omega)
        simp only [vC, vM]
        rw [if_neg (show ¬ (999 : Int32) < 0 by decide), Int32.mul_comm 10 0, if_neg (by grind), Int32.mul_comm 10]
      · rw [z]
        have d0 := dg (st n t p) (by omega) (by omega)
        have d1 := dg (st n t p + 1) (by omega) (by omega)
        simp only [vC, vM]
        rw [if_neg (show ¬ (999 : Int32) < 0 by decide), Int32.mul_comm 10 0, if_neg (show ¬ (999 : Int32) < 0 * 10 + t (st n t p) - 48 by grind), Int32.mul_comm 10 (0 * 10 + t (st n t p) - 48), if_neg (by grind), Int32.mul_comm 10]
  · rw [if_neg c] at h
    exact absurd rfl h
