/-! the class Gaol: sets, sums, time -/
def hdG (G : GG) : Nat → Int32
  | 0 => 0
  | j + 1 => if heldB G j = 0 then hdG G j else hdG G j ||| ((1 : Int32) <<< (nI j &&& 31))
def wtG (G : GG) : Nat → Int32
  | 0 => 0
  | j + 1 => if G 6 j = -1 then wtG G j else wtG G j ||| ((1 : Int32) <<< (nI j &&& 31))
def grG (G : GG) : Nat → Int32
  | 0 => 0
  | j + 1 => grG G j + G 4 j
def rtG (G : GG) : Nat → Int32
  | 0 => 0
  | j + 1 => rtG G j + G 2 j
def cwG (G : GG) : Nat → Int32 × Int32
  | 0 => (8, 0)
  | r + 1 => if pc8 (thG G (nI r) (nG G)) ≤ (cwG G r).2 then cwG G r else (nI r, pc8 (thG G (nI r) (nG G)))
def rgA (G : GG) : Nat → Int32 → Int32
  | 0, o => o
  | d + 1, o => if 0 ≤ o ∧ o < G 0 6 then rgA G d (G 6 (ix o)) else o
def rgB (G : GG) : Nat → Int32 → Int32 → Int32
  | 0, _, r => r
  | d + 1, o, r => if 0 ≤ o ∧ o < G 0 6 then rgB G d (G 6 (ix o)) (r ||| ((1 : Int32) <<< (o &&& 31))) else r
def fstT (G : GG) (i : Nat) (room : Int32) : Nat → Nat → Nat
  | 0, t => t
  | d + 1, t => if room ≤ occN G t 5 i then t else fstT G i room d (t + 1)
theorem hdG_rng (G : GG) : ∀ j, j ≤ 8 → 0 ≤ hdG G j ∧ hdG G j < nI (2 ^ j)
  | 0, _ => by
    show 0 ≤ (0 : Int32) ∧ (0 : Int32) < nI (2 ^ 0)
    decide
  | j + 1, hj => by
    obtain ⟨a, b⟩ := hdG_rng G j (by omega)
    unfold hdG
    split
    · exact ⟨a, rng_up (by omega) b⟩
    · exact or_rng j (by omega) _ a b
theorem wtG_rng (G : GG) : ∀ j, j ≤ 8 → 0 ≤ wtG G j ∧ wtG G j < nI (2 ^ j)
  | 0, _ => by
    show 0 ≤ (0 : Int32) ∧ (0 : Int32) < nI (2 ^ 0)
    decide
  | j + 1, hj => by
    obtain ⟨a, b⟩ := wtG_rng G j (by omega)
    unfold wtG
    split
    · exact ⟨a, rng_up (by omega) b⟩
    · exact or_rng j (by omega) _ a b
def S1_thoseHeld : Sp := fun av h Q => match av with | [.ref b] => GB b ∧ (0 ≤ h b 6 ∧ h b 6 ≤ 8) ∧ Q (some (.int (hdG (vg h b) (nG (vg h b))))) h | _ => False
theorem lp1_thoseHeld {h : Hp} {Q : Po} {b : Nat} (hb : GB b) {n : Nat} (hn : h b 6 = nI n) (hn8 : n ≤ 8) (hQ : Q (some (.int (hdG (vg h b) n))) h) : ∀ d j, d + j = n → Rn (T1_thoseHeld Q S1_isHeld) (4, [some (.ref b), some (.int (hdG (vg h b) j)), some (.int (nI j))], [], h)
  | 0, j, e => by
    have e : j = n := by omega
    subst e
    rcases hb with rfl | rfl
    · refine Rn_go C1_thoseHeld 60 ?_
      simp only [x1_thoseHeld_0, x1_thoseHeld_1, x1_thoseHeld_2, x1_thoseHeld_3, k1_thoseHeld_4, t1_thoseHeld_4, x1_thoseHeld_5, x1_thoseHeld_6, x1_thoseHeld_9, x1_thoseHeld_12, x1_thoseHeld_13, x1_thoseHeld_14, x1_thoseHeld_17, x1_thoseHeld_20, x1_thoseHeld_21, x1_thoseHeld_22, x1_thoseHeld_23, x1_thoseHeld_24, x1_thoseHeld_25, x1_thoseHeld_26, x1_thoseHeld_29, x1_thoseHeld_32, x1_thoseHeld_33, i_ald, i_cV, i_get, i_goto, i_ic, i_ic_ge, i_if_eq, i_ild, i_inc, i_ior, i_iret, i_ishl, i_ist, oc_1, fv_1_0, fv_1_1, fv_1_2, fv_1_3, fv_1_4, fv_1_5, fv_1_6, ly_1_6, fv_1_7, ly_1_7, fv_1_8, ly_1_8, rd_2, al_2, rd_3, al_3, rd_4, al_4, rd_5, al_5, rd_6, al_6, rd_7, al_7, lck_0, lck_i, lck_r, lck_n, lck_l, csum_0, csum_i, csum_r, csum_l, pops_0, pops_s, psh_n, psh_s, List.getElem?_cons_zero, List.getElem?_cons_succ, List.set_cons_zero, List.set_cons_succ, true_and, and_true, Nat.reduceAdd, Nat.reduceLeDiff, hn]
      exact ⟨fun _ => hQ, fun c => absurd (Int32.le_refl _) c⟩
    · refine Rn_go C1_thoseHeld 60 ?_
      simp only [x1_thoseHeld_0, x1_thoseHeld_1, x1_thoseHeld_2, x1_thoseHeld_3, k1_thoseHeld_4, t1_thoseHeld_4, x1_thoseHeld_5, x1_thoseHeld_6, x1_thoseHeld_9, x1_thoseHeld_12, x1_thoseHeld_13, x1_thoseHeld_14, x1_thoseHeld_17, x1_thoseHeld_20, x1_thoseHeld_21, x1_thoseHeld_22, x1_thoseHeld_23, x1_thoseHeld_24, x1_thoseHeld_25, x1_thoseHeld_26, x1_thoseHeld_29, x1_thoseHeld_32, x1_thoseHeld_33, i_ald, i_cV, i_get, i_goto, i_ic, i_ic_ge, i_if_eq, i_ild, i_inc, i_ior, i_iret, i_ishl, i_ist, oc_8, fv_8_0, fv_8_1, fv_8_2, fv_8_3, fv_8_4, fv_8_5, fv_8_6, ly_8_6, fv_8_7, ly_8_7, fv_8_8, ly_8_8, rd_9, al_9, rd_10, al_10, rd_11, al_11, rd_12, al_12, rd_13, al_13, rd_14, al_14, lck_0, lck_i, lck_r, lck_n, lck_l, csum_0, csum_i, csum_r, csum_l, pops_0, pops_s, psh_n, psh_s, List.getElem?_cons_zero, List.getElem?_cons_succ, List.set_cons_zero, List.set_cons_succ, true_and, and_true, Nat.reduceAdd, Nat.reduceLeDiff, hn]
      exact ⟨fun _ => hQ, fun c => absurd (Int32.le_refl _) c⟩
  | d + 1, j, e => by
    have ih := lp1_thoseHeld hb hn hn8 hQ d (j + 1) (by omega)
    rw [← nI_1] at ih
    simp only [hdG] at ih
    have hj := nlt8 (j := j) (by omega)
    have hlt : ¬ nI n ≤ nI j := nI_ge (by omega) (by omega)
    have hx : (nI j).toNatClampNeg = j := ix_nI (by omega)
    have h8 : nI n ≤ 8 := nI_le (b := 8) (by omega) (by decide)
    rcases hb with rfl | rfl
    · refine Rn_go C1_thoseHeld 60 ?_
      simp only [x1_thoseHeld_0, x1_thoseHeld_1, x1_thoseHeld_2, x1_thoseHeld_3, k1_thoseHeld_4, t1_thoseHeld_4, x1_thoseHeld_5, x1_thoseHeld_6, x1_thoseHeld_9, x1_thoseHeld_12, x1_thoseHeld_13, x1_thoseHeld_14, x1_thoseHeld_17, x1_thoseHeld_20, x1_thoseHeld_21, x1_thoseHeld_22, x1_thoseHeld_23, x1_thoseHeld_24, x1_thoseHeld_25, x1_thoseHeld_26, x1_thoseHeld_29, x1_thoseHeld_32, x1_thoseHeld_33, i_ald, i_cV, i_get, i_goto, i_ic, i_ic_ge, i_if_eq, i_ild, i_inc, i_ior, i_iret, i_ishl, i_ist, oc_1, fv_1_0, fv_1_1, fv_1_2, fv_1_3, fv_1_4, fv_1_5, fv_1_6, ly_1_6, fv_1_7, ly_1_7, fv_1_8, ly_1_8, rd_2, al_2, rd_3, al_3, rd_4, al_4, rd_5, al_5, rd_6, al_6, rd_7, al_7, lck_0, lck_i, lck_r, lck_n, lck_l, csum_0, csum_i, csum_r, csum_l, pops_0, pops_s, psh_n, psh_s, List.getElem?_cons_zero, List.getElem?_cons_succ, List.set_cons_zero, List.set_cons_succ, true_and, and_true, Nat.reduceAdd, Nat.reduceLeDiff, v8, hn, S1_isHeld, GB_1, GB_8, ix, hx]
      refine ⟨fun c => absurd c hlt, fun _ => ⟨hj, h8, fun c => ?_, fun c => ?_⟩⟩
      · rw [if_pos c] at ih
        exact ih
      · rw [if_neg c] at ih
        exact ih
    · refine Rn_go C1_thoseHeld 60 ?_
      simp only [x1_thoseHeld_0, x1_thoseHeld_1, x1_thoseHeld_2, x1_thoseHeld_3, k1_thoseHeld_4, t1_thoseHeld_4, x1_thoseHeld_5, x1_thoseHeld_6, x1_thoseHeld_9, x1_thoseHeld_12, x1_thoseHeld_13, x1_thoseHeld_14, x1_thoseHeld_17, x1_thoseHeld_20, x1_thoseHeld_21, x1_thoseHeld_22, x1_thoseHeld_23, x1_thoseHeld_24, x1_thoseHeld_25, x1_thoseHeld_26, x1_thoseHeld_29, x1_thoseHeld_32, x1_thoseHeld_33, i_ald, i_cV, i_get, i_goto, i_ic, i_ic_ge, i_if_eq, i_ild, i_inc, i_ior, i_iret, i_ishl, i_ist, oc_8, fv_8_0, fv_8_1, fv_8_2, fv_8_3, fv_8_4, fv_8_5, fv_8_6, ly_8_6, fv_8_7, ly_8_7, fv_8_8, ly_8_8, rd_9, al_9, rd_10, al_10, rd_11, al_11, rd_12, al_12, rd_13, al_13, rd_14, al_14, lck_0, lck_i, lck_r, lck_n, lck_l, csum_0, csum_i, csum_r, csum_l, pops_0, pops_s, psh_n, psh_s, List.getElem?_cons_zero, List.getElem?_cons_succ, List.set_cons_zero, List.set_cons_succ, true_and, and_true, Nat.reduceAdd, Nat.reduceLeDiff, v8, hn, S1_isHeld, GB_1, GB_8, ix, hx]
      refine ⟨fun c => absurd c hlt, fun _ => ⟨hj, h8, fun c => ?_, fun c => ?_⟩⟩
      · rw [if_pos c] at ih
        exact ih
      · rw [if_neg c] at ih
        exact ih
theorem rn1_thoseHeld {h : Hp} {Q : Po} {b : Nat} (hS : S1_thoseHeld [.ref b] h Q) : Rn (T1_thoseHeld Q S1_isHeld) (0, [some (.ref b), none, none], [], h) := by
  obtain ⟨hb, ⟨h0, h8⟩, hQ⟩ := hS
  obtain ⟨n, n8, hn, hi⟩ := cntN h0 h8
  have hnG : nG (vg h b) = n := hi
  rw [hnG] at hQ
  have := lp1_thoseHeld hb hn n8 hQ n 0 (by omega)
  refine Rn_in C1_thoseHeld 60 ?_
  simp only [x1_thoseHeld_0, x1_thoseHeld_1, x1_thoseHeld_2, x1_thoseHeld_3, k1_thoseHeld_4, t1_thoseHeld_4, x1_thoseHeld_5, x1_thoseHeld_6, x1_thoseHeld_9, x1_thoseHeld_12, x1_thoseHeld_13, x1_thoseHeld_14, x1_thoseHeld_17, x1_thoseHeld_20, x1_thoseHeld_21, x1_thoseHeld_22, x1_thoseHeld_23, x1_thoseHeld_24, x1_thoseHeld_25, x1_thoseHeld_26, x1_thoseHeld_29, x1_thoseHeld_32, x1_thoseHeld_33, i_ald, i_cV, i_get, i_goto, i_ic, i_ic_ge, i_if_eq, i_ild, i_inc, i_ior, i_iret, i_ishl, i_ist, oc_1, fv_1_0, fv_1_1, fv_1_2, fv_1_3, fv_1_4, fv_1_5, fv_1_6, ly_1_6, fv_1_7, ly_1_7, fv_1_8, ly_1_8, rd_2, al_2, rd_3, al_3, rd_4, al_4, rd_5, al_5, rd_6, al_6, rd_7, al_7, lck_0, lck_i, lck_r, lck_n, lck_l, csum_0, csum_i, csum_r, csum_l, pops_0, pops_s, psh_n, psh_s, List.getElem?_cons_zero, List.getElem?_cons_succ, List.set_cons_zero, List.set_cons_succ, true_and, and_true, Nat.reduceAdd, Nat.reduceLeDiff]
  exact this
def S1_thoseWaiting : Sp := fun av h Q => match av with | [.ref b] => GB b ∧ (0 ≤ h b 6 ∧ h b 6 ≤ 8) ∧ Q (some (.int (wtG (vg h b) (nG (vg h b))))) h | _ => False
theorem lp1_thoseWaiting {h : Hp} {Q : Po} {b : Nat} (hb : GB b) {n : Nat} (hn : h b 6 = nI n) (hn8 : n ≤ 8) (hQ : Q (some (.int (wtG (vg h b) n))) h) : ∀ d j, d + j = n → Rn (T1_thoseWaiting Q) (4, [some (.ref b), some (.int (wtG (vg h b) j)), some (.int (nI j))], [], h)
  | 0, j, e => by
    have e : j = n := by omega
    subst e
    rcases hb with rfl | rfl
    · refine Rn_go C1_thoseWaiting 60 ?_
      simp only [x1_thoseWaiting_0, x1_thoseWaiting_1, x1_thoseWaiting_2, x1_thoseWaiting_3, k1_thoseWaiting_4, t1_thoseWaiting_4, x1_thoseWaiting_5, x1_thoseWaiting_6, x1_thoseWaiting_9, x1_thoseWaiting_12, x1_thoseWaiting_13, x1_thoseWaiting_16, x1_thoseWaiting_17, x1_thoseWaiting_18, x1_thoseWaiting_19, x1_thoseWaiting_22, x1_thoseWaiting_23, x1_thoseWaiting_24, x1_thoseWaiting_25, x1_thoseWaiting_26, x1_thoseWaiting_27, x1_thoseWaiting_28, x1_thoseWaiting_31, x1_thoseWaiting_34, x1_thoseWaiting_35, i_ald, i_get, i_goto, i_iald, i_ic, i_ic_eq, i_ic_ge, i_ild, i_inc, i_ior, i_iret, i_ishl, i_ist, oc_1, fv_1_0, fv_1_1, fv_1_2, fv_1_3, fv_1_4, fv_1_5, fv_1_6, ly_1_6, fv_1_7, ly_1_7, fv_1_8, ly_1_8, rd_2, al_2, rd_3, al_3, rd_4, al_4, rd_5, al_5, rd_6, al_6, rd_7, al_7, lck_0, lck_i, lck_r, lck_n, lck_l, csum_0, csum_i, csum_r, csum_l, pops_0, pops_s, psh_n, psh_s, List.getElem?_cons_zero, List.getElem?_cons_succ, List.set_cons_zero, List.set_cons_succ, true_and, and_true, Nat.reduceAdd, Nat.reduceLeDiff, hn]
      exact ⟨fun _ => hQ, fun c => absurd (Int32.le_refl _) c⟩
    · refine Rn_go C1_thoseWaiting 60 ?_
      simp only [x1_thoseWaiting_0, x1_thoseWaiting_1, x1_thoseWaiting_2, x1_thoseWaiting_3, k1_thoseWaiting_4, t1_thoseWaiting_4, x1_thoseWaiting_5, x1_thoseWaiting_6, x1_thoseWaiting_9, x1_thoseWaiting_12, x1_thoseWaiting_13, x1_thoseWaiting_16, x1_thoseWaiting_17, x1_thoseWaiting_18, x1_thoseWaiting_19, x1_thoseWaiting_22, x1_thoseWaiting_23, x1_thoseWaiting_24, x1_thoseWaiting_25, x1_thoseWaiting_26, x1_thoseWaiting_27, x1_thoseWaiting_28, x1_thoseWaiting_31, x1_thoseWaiting_34, x1_thoseWaiting_35, i_ald, i_get, i_goto, i_iald, i_ic, i_ic_eq, i_ic_ge, i_ild, i_inc, i_ior, i_iret, i_ishl, i_ist, oc_8, fv_8_0, fv_8_1, fv_8_2, fv_8_3, fv_8_4, fv_8_5, fv_8_6, ly_8_6, fv_8_7, ly_8_7, fv_8_8, ly_8_8, rd_9, al_9, rd_10, al_10, rd_11, al_11, rd_12, al_12, rd_13, al_13, rd_14, al_14, lck_0, lck_i, lck_r, lck_n, lck_l, csum_0, csum_i, csum_r, csum_l, pops_0, pops_s, psh_n, psh_s, List.getElem?_cons_zero, List.getElem?_cons_succ, List.set_cons_zero, List.set_cons_succ, true_and, and_true, Nat.reduceAdd, Nat.reduceLeDiff, hn]
      exact ⟨fun _ => hQ, fun c => absurd (Int32.le_refl _) c⟩
  | d + 1, j, e => by
    have ih := lp1_thoseWaiting hb hn hn8 hQ d (j + 1) (by omega)
    rw [← nI_1] at ih
    simp only [wtG] at ih
    have hj := nlt8 (j := j) (by omega)
    have hlt : ¬ nI n ≤ nI j := nI_ge (by omega) (by omega)
    have hx : (nI j).toNatClampNeg = j := ix_nI (by omega)
    rcases hb with rfl | rfl
    · refine Rn_go C1_thoseWaiting 60 ?_
      simp only [x1_thoseWaiting_0, x1_thoseWaiting_1, x1_thoseWaiting_2, x1_thoseWaiting_3, k1_thoseWaiting_4, t1_thoseWaiting_4, x1_thoseWaiting_5, x1_thoseWaiting_6, x1_thoseWaiting_9, x1_thoseWaiting_12, x1_thoseWaiting_13, x1_thoseWaiting_16, x1_thoseWaiting_17, x1_thoseWaiting_18, x1_thoseWaiting_19, x1_thoseWaiting_22, x1_thoseWaiting_23, x1_thoseWaiting_24, x1_thoseWaiting_25, x1_thoseWaiting_26, x1_thoseWaiting_27, x1_thoseWaiting_28, x1_thoseWaiting_31, x1_thoseWaiting_34, x1_thoseWaiting_35, i_ald, i_get, i_goto, i_iald, i_ic, i_ic_eq, i_ic_ge, i_ild, i_inc, i_ior, i_iret, i_ishl, i_ist, oc_1, fv_1_0, fv_1_1, fv_1_2, fv_1_3, fv_1_4, fv_1_5, fv_1_6, ly_1_6, fv_1_7, ly_1_7, fv_1_8, ly_1_8, rd_2, al_2, rd_3, al_3, rd_4, al_4, rd_5, al_5, rd_6, al_6, rd_7, al_7, lck_0, lck_i, lck_r, lck_n, lck_l, csum_0, csum_i, csum_r, csum_l, pops_0, pops_s, psh_n, psh_s, List.getElem?_cons_zero, List.getElem?_cons_succ, List.set_cons_zero, List.set_cons_succ, true_and, and_true, Nat.reduceAdd, Nat.reduceLeDiff, v8, hn, hx]
      refine ⟨fun c => absurd c hlt, fun _ => ⟨hj, fun c => ?_, fun c => ?_⟩⟩
      · rw [if_pos (show vg h 1 6 j = -1 from c)] at ih
        exact ih
      · rw [if_neg (show ¬ vg h 1 6 j = -1 from c)] at ih
        exact ih
    · refine Rn_go C1_thoseWaiting 60 ?_
      simp only [x1_thoseWaiting_0, x1_thoseWaiting_1, x1_thoseWaiting_2, x1_thoseWaiting_3, k1_thoseWaiting_4, t1_thoseWaiting_4, x1_thoseWaiting_5, x1_thoseWaiting_6, x1_thoseWaiting_9, x1_thoseWaiting_12, x1_thoseWaiting_13, x1_thoseWaiting_16, x1_thoseWaiting_17, x1_thoseWaiting_18, x1_thoseWaiting_19, x1_thoseWaiting_22, x1_thoseWaiting_23, x1_thoseWaiting_24, x1_thoseWaiting_25, x1_thoseWaiting_26, x1_thoseWaiting_27, x1_thoseWaiting_28, x1_thoseWaiting_31, x1_thoseWaiting_34, x1_thoseWaiting_35, i_ald, i_get, i_goto, i_iald, i_ic, i_ic_eq, i_ic_ge, i_ild, i_inc, i_ior, i_iret, i_ishl, i_ist, oc_8, fv_8_0, fv_8_1, fv_8_2, fv_8_3, fv_8_4, fv_8_5, fv_8_6, ly_8_6, fv_8_7, ly_8_7, fv_8_8, ly_8_8, rd_9, al_9, rd_10, al_10, rd_11, al_11, rd_12, al_12, rd_13, al_13, rd_14, al_14, lck_0, lck_i, lck_r, lck_n, lck_l, csum_0, csum_i, csum_r, csum_l, pops_0, pops_s, psh_n, psh_s, List.getElem?_cons_zero, List.getElem?_cons_succ, List.set_cons_zero, List.set_cons_succ, true_and, and_true, Nat.reduceAdd, Nat.reduceLeDiff, v8, hn, hx]
      refine ⟨fun c => absurd c hlt, fun _ => ⟨hj, fun c => ?_, fun c => ?_⟩⟩
      · rw [if_pos (show vg h 8 6 j = -1 from c)] at ih
        exact ih
      · rw [if_neg (show ¬ vg h 8 6 j = -1 from c)] at ih
        exact ih
theorem rn1_thoseWaiting {h : Hp} {Q : Po} {b : Nat} (hS : S1_thoseWaiting [.ref b] h Q) : Rn (T1_thoseWaiting Q) (0, [some (.ref b), none, none], [], h) := by
  obtain ⟨hb, ⟨h0, h8⟩, hQ⟩ := hS
  obtain ⟨n, n8, hn, hi⟩ := cntN h0 h8
  have hnG : nG (vg h b) = n := hi
  rw [hnG] at hQ
  have := lp1_thoseWaiting hb hn n8 hQ n 0 (by omega)
  refine Rn_in C1_thoseWaiting 60 ?_
  simp only [x1_thoseWaiting_0, x1_thoseWaiting_1, x1_thoseWaiting_2, x1_thoseWaiting_3, k1_thoseWaiting_4, t1_thoseWaiting_4, x1_thoseWaiting_5, x1_thoseWaiting_6, x1_thoseWaiting_9, x1_thoseWaiting_12, x1_thoseWaiting_13, x1_thoseWaiting_16, x1_thoseWaiting_17, x1_thoseWaiting_18, x1_thoseWaiting_19, x1_thoseWaiting_22, x1_thoseWaiting_23, x1_thoseWaiting_24, x1_thoseWaiting_25, x1_thoseWaiting_26, x1_thoseWaiting_27, x1_thoseWaiting_28, x1_thoseWaiting_31, x1_thoseWaiting_34, x1_thoseWaiting_35, i_ald, i_get, i_goto, i_iald, i_ic, i_ic_eq, i_ic_ge, i_ild, i_inc, i_ior, i_iret, i_ishl, i_ist, oc_1, fv_1_0, fv_1_1, fv_1_2, fv_1_3, fv_1_4, fv_1_5, fv_1_6, ly_1_6, fv_1_7, ly_1_7, fv_1_8, ly_1_8, rd_2, al_2, rd_3, al_3, rd_4, al_4, rd_5, al_5, rd_6, al_6, rd_7, al_7, lck_0, lck_i, lck_r, lck_n, lck_l, csum_0, csum_i, csum_r, csum_l, pops_0, pops_s, psh_n, psh_s, List.getElem?_cons_zero, List.getElem?_cons_succ, List.set_cons_zero, List.set_cons_succ, true_and, and_true, Nat.reduceAdd, Nat.reduceLeDiff]
  exact this
def S1_allGrace : Sp := fun av h Q => match av with | [.ref b] => GB b ∧ (0 ≤ h b 6 ∧ h b 6 ≤ 8) ∧ Q (some (.int (grG (vg h b) (nG (vg h b))))) h | _ => False
theorem lp1_allGrace {h : Hp} {Q : Po} {b : Nat} (hb : GB b) {n : Nat} (hn : h b 6 = nI n) (hn8 : n ≤ 8) (hQ : Q (some (.int (grG (vg h b) n))) h) : ∀ d j, d + j = n → Rn (T1_allGrace Q) (4, [some (.ref b), some (.int (grG (vg h b) j)), some (.int (nI j))], [], h)
  | 0, j, e => by
    have e : j = n := by omega
    subst e
    rcases hb with rfl | rfl
    · refine Rn_go C1_allGrace 60 ?_
      simp only [x1_allGrace_0, x1_allGrace_1, x1_allGrace_2, x1_allGrace_3, k1_allGrace_4, t1_allGrace_4, x1_allGrace_5, x1_allGrace_6, x1_allGrace_9, x1_allGrace_12, x1_allGrace_13, x1_allGrace_14, x1_allGrace_17, x1_allGrace_18, x1_allGrace_19, x1_allGrace_20, x1_allGrace_21, x1_allGrace_24, x1_allGrace_27, x1_allGrace_28, i_ald, i_get, i_goto, i_iadd, i_iald, i_ic, i_ic_ge, i_ild, i_inc, i_iret, i_ist, oc_1, fv_1_0, fv_1_1, fv_1_2, fv_1_3, fv_1_4, fv_1_5, fv_1_6, ly_1_6, fv_1_7, ly_1_7, fv_1_8, ly_1_8, rd_2, al_2, rd_3, al_3, rd_4, al_4, rd_5, al_5, rd_6, al_6, rd_7, al_7, lck_0, lck_i, lck_r, lck_n, lck_l, csum_0, csum_i, csum_r, csum_l, pops_0, pops_s, psh_n, psh_s, List.getElem?_cons_zero, List.getElem?_cons_succ, List.set_cons_zero, List.set_cons_succ, true_and, and_true, Nat.reduceAdd, Nat.reduceLeDiff, hn]
      exact ⟨fun _ => hQ, fun c => absurd (Int32.le_refl _) c⟩
    · refine Rn_go C1_allGrace 60 ?_
      simp only [x1_allGrace_0, x1_allGrace_1, x1_allGrace_2, x1_allGrace_3, k1_allGrace_4, t1_allGrace_4, x1_allGrace_5, x1_allGrace_6, x1_allGrace_9, x1_allGrace_12, x1_allGrace_13, x1_allGrace_14, x1_allGrace_17, x1_allGrace_18, x1_allGrace_19, x1_allGrace_20, x1_allGrace_21, x1_allGrace_24, x1_allGrace_27, x1_allGrace_28, i_ald, i_get, i_goto, i_iadd, i_iald, i_ic, i_ic_ge, i_ild, i_inc, i_iret, i_ist, oc_8, fv_8_0, fv_8_1, fv_8_2, fv_8_3, fv_8_4, fv_8_5, fv_8_6, ly_8_6, fv_8_7, ly_8_7, fv_8_8, ly_8_8, rd_9, al_9, rd_10, al_10, rd_11, al_11, rd_12, al_12, rd_13, al_13, rd_14, al_14, lck_0, lck_i, lck_r, lck_n, lck_l, csum_0, csum_i, csum_r, csum_l, pops_0, pops_s, psh_n, psh_s, List.getElem?_cons_zero, List.getElem?_cons_succ, List.set_cons_zero, List.set_cons_succ, true_and, and_true, Nat.reduceAdd, Nat.reduceLeDiff, hn]
      exact ⟨fun _ => hQ, fun c => absurd (Int32.le_refl _) c⟩
  | d + 1, j, e => by
    have ih := lp1_allGrace hb hn hn8 hQ d (j + 1) (by omega)
    rw [← nI_1] at ih
    simp only [grG] at ih
    have hj := nlt8 (j := j) (by omega)
    have hlt : ¬ nI n ≤ nI j := nI_ge (by omega) (by omega)
    have hx : (nI j).toNatClampNeg = j := ix_nI (by omega)
    rcases hb with rfl | rfl
    · refine Rn_go C1_allGrace 60 ?_
      simp only [x1_allGrace_0, x1_allGrace_1, x1_allGrace_2, x1_allGrace_3, k1_allGrace_4, t1_allGrace_4, x1_allGrace_5, x1_allGrace_6, x1_allGrace_9, x1_allGrace_12, x1_allGrace_13, x1_allGrace_14, x1_allGrace_17, x1_allGrace_18, x1_allGrace_19, x1_allGrace_20, x1_allGrace_21, x1_allGrace_24, x1_allGrace_27, x1_allGrace_28, i_ald, i_get, i_goto, i_iadd, i_iald, i_ic, i_ic_ge, i_ild, i_inc, i_iret, i_ist, oc_1, fv_1_0, fv_1_1, fv_1_2, fv_1_3, fv_1_4, fv_1_5, fv_1_6, ly_1_6, fv_1_7, ly_1_7, fv_1_8, ly_1_8, rd_2, al_2, rd_3, al_3, rd_4, al_4, rd_5, al_5, rd_6, al_6, rd_7, al_7, lck_0, lck_i, lck_r, lck_n, lck_l, csum_0, csum_i, csum_r, csum_l, pops_0, pops_s, psh_n, psh_s, List.getElem?_cons_zero, List.getElem?_cons_succ, List.set_cons_zero, List.set_cons_succ, true_and, and_true, Nat.reduceAdd, Nat.reduceLeDiff, v8, hn, hx]
      exact ⟨fun c => absurd c hlt, fun _ => ⟨hj, ih⟩⟩
    · refine Rn_go C1_allGrace 60 ?_
      simp only [x1_allGrace_0, x1_allGrace_1, x1_allGrace_2, x1_allGrace_3, k1_allGrace_4, t1_allGrace_4, x1_allGrace_5, x1_allGrace_6, x1_allGrace_9, x1_allGrace_12, x1_allGrace_13, x1_allGrace_14, x1_allGrace_17, x1_allGrace_18, x1_allGrace_19, x1_allGrace_20, x1_allGrace_21, x1_allGrace_24, x1_allGrace_27, x1_allGrace_28, i_ald, i_get, i_goto, i_iadd, i_iald, i_ic, i_ic_ge, i_ild, i_inc, i_iret, i_ist, oc_8, fv_8_0, fv_8_1, fv_8_2, fv_8_3, fv_8_4, fv_8_5, fv_8_6, ly_8_6, fv_8_7, ly_8_7, fv_8_8, ly_8_8, rd_9, al_9, rd_10, al_10, rd_11, al_11, rd_12, al_12, rd_13, al_13, rd_14, al_14, lck_0, lck_i, lck_r, lck_n, lck_l, csum_0, csum_i, csum_r, csum_l, pops_0, pops_s, psh_n, psh_s, List.getElem?_cons_zero, List.getElem?_cons_succ, List.set_cons_zero, List.set_cons_succ, true_and, and_true, Nat.reduceAdd, Nat.reduceLeDiff, v8, hn, hx]
      exact ⟨fun c => absurd c hlt, fun _ => ⟨hj, ih⟩⟩
theorem rn1_allGrace {h : Hp} {Q : Po} {b : Nat} (hS : S1_allGrace [.ref b] h Q) : Rn (T1_allGrace Q) (0, [some (.ref b), none, none], [], h) := by
  obtain ⟨hb, ⟨h0, h8⟩, hQ⟩ := hS
  obtain ⟨n, n8, hn, hi⟩ := cntN h0 h8
  have hnG : nG (vg h b) = n := hi
  rw [hnG] at hQ
  have := lp1_allGrace hb hn n8 hQ n 0 (by omega)
  refine Rn_in C1_allGrace 60 ?_
  simp only [x1_allGrace_0, x1_allGrace_1, x1_allGrace_2, x1_allGrace_3, k1_allGrace_4, t1_allGrace_4, x1_allGrace_5, x1_allGrace_6, x1_allGrace_9, x1_allGrace_12, x1_allGrace_13, x1_allGrace_14, x1_allGrace_17, x1_allGrace_18, x1_allGrace_19, x1_allGrace_20, x1_allGrace_21, x1_allGrace_24, x1_allGrace_27, x1_allGrace_28, i_ald, i_get, i_goto, i_iadd, i_iald, i_ic, i_ic_ge, i_ild, i_inc, i_iret, i_ist, oc_1, fv_1_0, fv_1_1, fv_1_2, fv_1_3, fv_1_4, fv_1_5, fv_1_6, ly_1_6, fv_1_7, ly_1_7, fv_1_8, ly_1_8, rd_2, al_2, rd_3, al_3, rd_4, al_4, rd_5, al_5, rd_6, al_6, rd_7, al_7, lck_0, lck_i, lck_r, lck_n, lck_l, csum_0, csum_i, csum_r, csum_l, pops_0, pops_s, psh_n, psh_s, List.getElem?_cons_zero, List.getElem?_cons_succ, List.set_cons_zero, List.set_cons_succ, true_and, and_true, Nat.reduceAdd, Nat.reduceLeDiff]
  exact this
def S1_allRites : Sp := fun av h Q => match av with | [.ref b] => GB b ∧ Q (some (.int (rtG (vg h b) 8))) h | _ => False
theorem lp1_allRites {h : Hp} {Q : Po} {b : Nat} (hb : GB b) (hQ : Q (some (.int (rtG (vg h b) 8))) h) : ∀ d j, d + j = 8 → Rn (T1_allRites Q) (4, [some (.ref b), some (.int (rtG (vg h b) j)), some (.int (nI j))], [], h)
  | 0, j, e => by
    have e : j = 8 := by omega
    subst e
    rcases hb with rfl | rfl
    · refine Rn_go C1_allRites 60 ?_
      simp only [x1_allRites_0, x1_allRites_1, x1_allRites_2, x1_allRites_3, k1_allRites_4, t1_allRites_4, x1_allRites_5, x1_allRites_7, x1_allRites_10, x1_allRites_11, x1_allRites_12, x1_allRites_15, x1_allRites_16, x1_allRites_17, x1_allRites_18, x1_allRites_19, x1_allRites_22, x1_allRites_25, x1_allRites_26, i_ald, i_get, i_goto, i_iadd, i_iald, i_ic, i_ic_ge, i_ild, i_inc, i_iret, i_ist, oc_1, fv_1_0, fv_1_1, fv_1_2, fv_1_3, fv_1_4, fv_1_5, fv_1_6, ly_1_6, fv_1_7, ly_1_7, fv_1_8, ly_1_8, rd_2, al_2, rd_3, al_3, rd_4, al_4, rd_5, al_5, rd_6, al_6, rd_7, al_7, lck_0, lck_i, lck_r, lck_n, lck_l, csum_0, csum_i, csum_r, csum_l, pops_0, pops_s, psh_n, psh_s, List.getElem?_cons_zero, List.getElem?_cons_succ, List.set_cons_zero, List.set_cons_succ, true_and, and_true, Nat.reduceAdd, Nat.reduceLeDiff]
      exact ⟨fun _ => hQ, fun c => absurd (by decide) c⟩
    · refine Rn_go C1_allRites 60 ?_
      simp only [x1_allRites_0, x1_allRites_1, x1_allRites_2, x1_allRites_3, k1_allRites_4, t1_allRites_4, x1_allRites_5, x1_allRites_7, x1_allRites_10, x1_allRites_11, x1_allRites_12, x1_allRites_15, x1_allRites_16, x1_allRites_17, x1_allRites_18, x1_allRites_19, x1_allRites_22, x1_allRites_25, x1_allRites_26, i_ald, i_get, i_goto, i_iadd, i_iald, i_ic, i_ic_ge, i_ild, i_inc, i_iret, i_ist, oc_8, fv_8_0, fv_8_1, fv_8_2, fv_8_3, fv_8_4, fv_8_5, fv_8_6, ly_8_6, fv_8_7, ly_8_7, fv_8_8, ly_8_8, rd_9, al_9, rd_10, al_10, rd_11, al_11, rd_12, al_12, rd_13, al_13, rd_14, al_14, lck_0, lck_i, lck_r, lck_n, lck_l, csum_0, csum_i, csum_r, csum_l, pops_0, pops_s, psh_n, psh_s, List.getElem?_cons_zero, List.getElem?_cons_succ, List.set_cons_zero, List.set_cons_succ, true_and, and_true, Nat.reduceAdd, Nat.reduceLeDiff]
      exact ⟨fun _ => hQ, fun c => absurd (by decide) c⟩
  | d + 1, j, e => by
    have ih := lp1_allRites hb hQ d (j + 1) (by omega)
    rw [← nI_1] at ih
    simp only [rtG] at ih
    have hj := nlt8 (j := j) (by omega)
    have hlt : ¬ 8 ≤ nI j := Int32.not_le.mpr hj.2
    have hx : (nI j).toNatClampNeg = j := ix_nI (by omega)
    rcases hb with rfl | rfl
    · refine Rn_go C1_allRites 60 ?_
      simp only [x1_allRites_0, x1_allRites_1, x1_allRites_2, x1_allRites_3, k1_allRites_4, t1_allRites_4, x1_allRites_5, x1_allRites_7, x1_allRites_10, x1_allRites_11, x1_allRites_12, x1_allRites_15, x1_allRites_16, x1_allRites_17, x1_allRites_18, x1_allRites_19, x1_allRites_22, x1_allRites_25, x1_allRites_26, i_ald, i_get, i_goto, i_iadd, i_iald, i_ic, i_ic_ge, i_ild, i_inc, i_iret, i_ist, oc_1, fv_1_0, fv_1_1, fv_1_2, fv_1_3, fv_1_4, fv_1_5, fv_1_6, ly_1_6, fv_1_7, ly_1_7, fv_1_8, ly_1_8, rd_2, al_2, rd_3, al_3, rd_4, al_4, rd_5, al_5, rd_6, al_6, rd_7, al_7, lck_0, lck_i, lck_r, lck_n, lck_l, csum_0, csum_i, csum_r, csum_l, pops_0, pops_s, psh_n, psh_s, List.getElem?_cons_zero, List.getElem?_cons_succ, List.set_cons_zero, List.set_cons_succ, true_and, and_true, Nat.reduceAdd, Nat.reduceLeDiff, v8, hx]
      exact ⟨fun c => absurd c hlt, fun _ => ⟨hj, ih⟩⟩
    · refine Rn_go C1_allRites 60 ?_
      simp only [x1_allRites_0, x1_allRites_1, x1_allRites_2, x1_allRites_3, k1_allRites_4, t1_allRites_4, x1_allRites_5, x1_allRites_7, x1_allRites_10, x1_allRites_11, x1_allRites_12, x1_allRites_15, x1_allRites_16, x1_allRites_17, x1_allRites_18, x1_allRites_19, x1_allRites_22, x1_allRites_25, x1_allRites_26, i_ald, i_get, i_goto, i_iadd, i_iald, i_ic, i_ic_ge, i_ild, i_inc, i_iret, i_ist, oc_8, fv_8_0, fv_8_1, fv_8_2, fv_8_3, fv_8_4, fv_8_5, fv_8_6, ly_8_6, fv_8_7, ly_8_7, fv_8_8, ly_8_8, rd_9, al_9, rd_10, al_10, rd_11, al_11, rd_12, al_12, rd_13, al_13, rd_14, al_14, lck_0, lck_i, lck_r, lck_n, lck_l, csum_0, csum_i, csum_r, csum_l, pops_0, pops_s, psh_n, psh_s, List.getElem?_cons_zero, List.getElem?_cons_succ, List.set_cons_zero, List.set_cons_succ, true_and, and_true, Nat.reduceAdd, Nat.reduceLeDiff, v8, hx]
      exact ⟨fun c => absurd c hlt, fun _ => ⟨hj, ih⟩⟩
theorem rn1_allRites {h : Hp} {Q : Po} {b : Nat} (hS : S1_allRites [.ref b] h Q) : Rn (T1_allRites Q) (0, [some (.ref b), none, none], [], h) := by
  obtain ⟨hb, hQ⟩ := hS
  have := lp1_allRites hb hQ 8 0 (by omega)
  refine Rn_in C1_allRites 60 ?_
  simp only [x1_allRites_0, x1_allRites_1, x1_allRites_2, x1_allRites_3, k1_allRites_4, t1_allRites_4, x1_allRites_5, x1_allRites_7, x1_allRites_10, x1_allRites_11, x1_allRites_12, x1_allRites_15, x1_allRites_16, x1_allRites_17, x1_allRites_18, x1_allRites_19, x1_allRites_22, x1_allRites_25, x1_allRites_26, i_ald, i_get, i_goto, i_iadd, i_iald, i_ic, i_ic_ge, i_ild, i_inc, i_iret, i_ist, oc_1, fv_1_0, fv_1_1, fv_1_2, fv_1_3, fv_1_4, fv_1_5, fv_1_6, ly_1_6, fv_1_7, ly_1_7, fv_1_8, ly_1_8, rd_2, al_2, rd_3, al_3, rd_4, al_4, rd_5, al_5, rd_6, al_6, rd_7, al_7, lck_0, lck_i, lck_r, lck_n, lck_l, csum_0, csum_i, csum_r, csum_l, pops_0, pops_s, psh_n, psh_s, List.getElem?_cons_zero, List.getElem?_cons_succ, List.set_cons_zero, List.set_cons_succ, true_and, and_true, Nat.reduceAdd, Nat.reduceLeDiff]
  exact this
def S1_crowd : Sp := fun av h Q => match av with | [.ref b] => GB b ∧ (0 ≤ h b 6 ∧ h b 6 ≤ 8) ∧ Q (some (.int (cwG (vg h b) 8).1)) h | _ => False
theorem lp1_crowd {h : Hp} {Q : Po} {b : Nat} (hb : GB b) (hc : 0 ≤ h b 6 ∧ h b 6 ≤ 8) (hQ : Q (some (.int (cwG (vg h b) 8).1)) h) : ∀ d j, d + j = 8 → ∀ y : Option Value, Rn (T1_crowd Q S1_thoseIn SJ6_bitCount) (7, [some (.ref b), some (.int (cwG (vg h b) j).1), some (.int (cwG (vg h b) j).2), some (.int (nI j)), y], [], h)
  | 0, j, e, y => by
    have e : j = 8 := by omega
    subst e
    rcases hb with rfl | rfl
    · refine Rn_go C1_crowd 60 ?_
      simp only [x1_crowd_0, x1_crowd_2, x1_crowd_3, x1_crowd_4, x1_crowd_5, x1_crowd_6, k1_crowd_7, t1_crowd_7, x1_crowd_8, x1_crowd_10, x1_crowd_13, x1_crowd_14, x1_crowd_15, x1_crowd_18, x1_crowd_21, x1_crowd_23, x1_crowd_25, x1_crowd_26, x1_crowd_29, x1_crowd_31, x1_crowd_32, x1_crowd_33, x1_crowd_34, x1_crowd_37, x1_crowd_40, x1_crowd_41, i_ald, i_cS, i_cV, i_goto, i_ic, i_ic_ge, i_ic_le, i_ild, i_inc, i_iret, i_ist, oc_1, fv_1_0, fv_1_1, fv_1_2, fv_1_3, fv_1_4, fv_1_5, fv_1_6, ly_1_6, fv_1_7, ly_1_7, fv_1_8, ly_1_8, rd_2, al_2, rd_3, al_3, rd_4, al_4, rd_5, al_5, rd_6, al_6, rd_7, al_7, lck_0, lck_i, lck_r, lck_n, lck_l, csum_0, csum_i, csum_r, csum_l, pops_0, pops_s, psh_n, psh_s, List.getElem?_cons_zero, List.getElem?_cons_succ, List.set_cons_zero, List.set_cons_succ, true_and, and_true, Nat.reduceAdd, Nat.reduceLeDiff]
      exact ⟨fun _ => hQ, fun c => absurd (by decide) c⟩
    · refine Rn_go C1_crowd 60 ?_
      simp only [x1_crowd_0, x1_crowd_2, x1_crowd_3, x1_crowd_4, x1_crowd_5, x1_crowd_6, k1_crowd_7, t1_crowd_7, x1_crowd_8, x1_crowd_10, x1_crowd_13, x1_crowd_14, x1_crowd_15, x1_crowd_18, x1_crowd_21, x1_crowd_23, x1_crowd_25, x1_crowd_26, x1_crowd_29, x1_crowd_31, x1_crowd_32, x1_crowd_33, x1_crowd_34, x1_crowd_37, x1_crowd_40, x1_crowd_41, i_ald, i_cS, i_cV, i_goto, i_ic, i_ic_ge, i_ic_le, i_ild, i_inc, i_iret, i_ist, oc_8, fv_8_0, fv_8_1, fv_8_2, fv_8_3, fv_8_4, fv_8_5, fv_8_6, ly_8_6, fv_8_7, ly_8_7, fv_8_8, ly_8_8, rd_9, al_9, rd_10, al_10, rd_11, al_11, rd_12, al_12, rd_13, al_13, rd_14, al_14, lck_0, lck_i, lck_r, lck_n, lck_l, csum_0, csum_i, csum_r, csum_l, pops_0, pops_s, psh_n, psh_s, List.getElem?_cons_zero, List.getElem?_cons_succ, List.set_cons_zero, List.set_cons_succ, true_and, and_true, Nat.reduceAdd, Nat.reduceLeDiff]
      exact ⟨fun _ => hQ, fun c => absurd (by decide) c⟩
  | d + 1, j, e, y => by
    have ih := lp1_crowd hb hc hQ d (j + 1) (by omega)
    rw [← nI_1] at ih
    simp only [cwG] at ih
    have hj := nlt8 (j := j) (by omega)
    have hlt : ¬ 8 ≤ nI j := Int32.not_le.mpr hj.2
    have h2 := thG_256 (vg h b) (nI j) (nG8 hc)
    rcases hb with rfl | rfl
    · refine Rn_go C1_crowd 60 ?_
      simp only [x1_crowd_0, x1_crowd_2, x1_crowd_3, x1_crowd_4, x1_crowd_5, x1_crowd_6, k1_crowd_7, t1_crowd_7, x1_crowd_8, x1_crowd_10, x1_crowd_13, x1_crowd_14, x1_crowd_15, x1_crowd_18, x1_crowd_21, x1_crowd_23, x1_crowd_25, x1_crowd_26, x1_crowd_29, x1_crowd_31, x1_crowd_32, x1_crowd_33, x1_crowd_34, x1_crowd_37, x1_crowd_40, x1_crowd_41, i_ald, i_cS, i_cV, i_goto, i_ic, i_ic_ge, i_ic_le, i_ild, i_inc, i_iret, i_ist, oc_1, fv_1_0, fv_1_1, fv_1_2, fv_1_3, fv_1_4, fv_1_5, fv_1_6, ly_1_6, fv_1_7, ly_1_7, fv_1_8, ly_1_8, rd_2, al_2, rd_3, al_3, rd_4, al_4, rd_5, al_5, rd_6, al_6, rd_7, al_7, lck_0, lck_i, lck_r, lck_n, lck_l, csum_0, csum_i, csum_r, csum_l, pops_0, pops_s, psh_n, psh_s, List.getElem?_cons_zero, List.getElem?_cons_succ, List.set_cons_zero, List.set_cons_succ, true_and, and_true, Nat.reduceAdd, Nat.reduceLeDiff, v8, S1_thoseIn, SJ6_bitCount, GB_1, GB_8]
      refine ⟨fun c => absurd c hlt, fun _ => ⟨hc, h2, fun c => ?_, fun c => ?_⟩⟩
      · have := ih (some (.int (pc8 (thG (vg h 1) (nI j) (nG (vg h 1))))))
        rw [if_pos c] at this
        exact this
      · have := ih (some (.int (pc8 (thG (vg h 1) (nI j) (nG (vg h 1))))))
        rw [if_neg c] at this
        exact this
    · refine Rn_go C1_crowd 60 ?_
      simp only [x1_crowd_0, x1_crowd_2, x1_crowd_3, x1_crowd_4, x1_crowd_5, x1_crowd_6, k1_crowd_7, t1_crowd_7, x1_crowd_8, x1_crowd_10, x1_crowd_13, x1_crowd_14, x1_crowd_15, x1_crowd_18, x1_crowd_21, x1_crowd_23, x1_crowd_25, x1_crowd_26, x1_crowd_29, x1_crowd_31, x1_crowd_32, x1_crowd_33, x1_crowd_34, x1_crowd_37, x1_crowd_40, x1_crowd_41, i_ald, i_cS, i_cV, i_goto, i_ic, i_ic_ge, i_ic_le, i_ild, i_inc, i_iret, i_ist, oc_8, fv_8_0, fv_8_1, fv_8_2, fv_8_3, fv_8_4, fv_8_5, fv_8_6, ly_8_6, fv_8_7, ly_8_7, fv_8_8, ly_8_8, rd_9, al_9, rd_10, al_10, rd_11, al_11, rd_12, al_12, rd_13, al_13, rd_14, al_14, lck_0, lck_i, lck_r, lck_n, lck_l, csum_0, csum_i, csum_r, csum_l, pops_0, pops_s, psh_n, psh_s, List.getElem?_cons_zero, List.getElem?_cons_succ, List.set_cons_zero, List.set_cons_succ, true_and, and_true, Nat.reduceAdd, Nat.reduceLeDiff, v8, S1_thoseIn, SJ6_bitCount, GB_1, GB_8]
      refine ⟨fun c => absurd c hlt, fun _ => ⟨hc, h2, fun c => ?_, fun c => ?_⟩⟩
      · have := ih (some (.int (pc8 (thG (vg h 8) (nI j) (nG (vg h 8))))))
        rw [if_pos c] at this
        exact this
      · have := ih (some (.int (pc8 (thG (vg h 8) (nI j) (nG (vg h 8))))))
        rw [if_neg c] at this
        exact this
theorem rn1_crowd {h : Hp} {Q : Po} {b : Nat} (hS : S1_crowd [.ref b] h Q) : Rn (T1_crowd Q S1_thoseIn SJ6_bitCount) (0, [some (.ref b), none, none, none, none], [], h) := by
  obtain ⟨hb, hc, hQ⟩ := hS
  have := lp1_crowd hb hc hQ 8 0 (by omega) none
  refine Rn_in C1_crowd 60 ?_
  simp only [x1_crowd_0, x1_crowd_2, x1_crowd_3, x1_crowd_4, x1_crowd_5, x1_crowd_6, k1_crowd_7, t1_crowd_7, x1_crowd_8, x1_crowd_10, x1_crowd_13, x1_crowd_14, x1_crowd_15, x1_crowd_18, x1_crowd_21, x1_crowd_23, x1_crowd_25, x1_crowd_26, x1_crowd_29, x1_crowd_31, x1_crowd_32, x1_crowd_33, x1_crowd_34, x1_crowd_37, x1_crowd_40, x1_crowd_41, i_ald, i_cS, i_cV, i_goto, i_ic, i_ic_ge, i_ic_le, i_ild, i_inc, i_iret, i_ist, oc_1, fv_1_0, fv_1_1, fv_1_2, fv_1_3, fv_1_4, fv_1_5, fv_1_6, ly_1_6, fv_1_7, ly_1_7, fv_1_8, ly_1_8, rd_2, al_2, rd_3, al_3, rd_4, al_4, rd_5, al_5, rd_6, al_6, rd_7, al_7, lck_0, lck_i, lck_r, lck_n, lck_l, csum_0, csum_i, csum_r, csum_l, pops_0, pops_s, psh_n, psh_s, List.getElem?_cons_zero, List.getElem?_cons_succ, List.set_cons_zero, List.set_cons_succ, true_and, and_true, Nat.reduceAdd, Nat.reduceLeDiff]
  exact this
def S1_rowPart : Sp := fun av h Q => match av with | [.ref b, .int i, .int t] => GB b ∧ (0 ≤ i ∧ i < 8) ∧ (0 ≤ h b 6 ∧ h b 6 ≤ 8) ∧ Q (some (.int (if t = 0 then vg h b 5 (ix i) else if t = 1 then vg h b 4 (ix i) else thG (vg h b) 8 (nG (vg h b))))) h | _ => False
theorem rn1_rowPart {h : Hp} {Q : Po} {b : Nat} {i : Int32} {t : Int32} (hS : S1_rowPart [.ref b, .int i, .int t] h Q) : Rn (T1_rowPart Q S1_thoseIn) (0, [some (.ref b), some (.int i), some (.int t)], [], h) := by
  obtain ⟨hb, hi, hc, hQ⟩ := hS
  rcases hb with rfl | rfl
  · refine Rn_in C1_rowPart 60 ?_
    simp only [x1_rowPart_0, x1_rowPart_1, x1_rowPart_28, x1_rowPart_29, x1_rowPart_32, x1_rowPart_33, x1_rowPart_34, x1_rowPart_35, x1_rowPart_36, x1_rowPart_39, x1_rowPart_40, x1_rowPart_41, x1_rowPart_42, x1_rowPart_43, x1_rowPart_45, x1_rowPart_48, i_ald, i_cV, i_get, i_iald, i_ic, i_ild, i_iret, i_sw, oc_1, fv_1_0, fv_1_1, fv_1_2, fv_1_3, fv_1_4, fv_1_5, fv_1_6, ly_1_6, fv_1_7, ly_1_7, fv_1_8, ly_1_8, rd_2, al_2, rd_3, al_3, rd_4, al_4, rd_5, al_5, rd_6, al_6, rd_7, al_7, lck_0, lck_i, lck_r, lck_n, lck_l, csum_0, csum_i, csum_r, csum_l, pops_0, pops_s, psh_n, psh_s, List.getElem?_cons_zero, List.getElem?_cons_succ, List.set_cons_zero, List.set_cons_succ, true_and, and_true, Nat.reduceAdd, Nat.reduceLeDiff, v8, S1_thoseIn, GB_1, GB_8, List.forall_mem_cons, List.not_mem_nil]
    simp only [vg, Nat.reduceAdd, ix] at hQ ⊢
    grind
  · refine Rn_in C1_rowPart 60 ?_
    simp only [x1_rowPart_0, x1_rowPart_1, x1_rowPart_28, x1_rowPart_29, x1_rowPart_32, x1_rowPart_33, x1_rowPart_34, x1_rowPart_35, x1_rowPart_36, x1_rowPart_39, x1_rowPart_40, x1_rowPart_41, x1_rowPart_42, x1_rowPart_43, x1_rowPart_45, x1_rowPart_48, i_ald, i_cV, i_get, i_iald, i_ic, i_ild, i_iret, i_sw, oc_8, fv_8_0, fv_8_1, fv_8_2, fv_8_3, fv_8_4, fv_8_5, fv_8_6, ly_8_6, fv_8_7, ly_8_7, fv_8_8, ly_8_8, rd_9, al_9, rd_10, al_10, rd_11, al_11, rd_12, al_12, rd_13, al_13, rd_14, al_14, lck_0, lck_i, lck_r, lck_n, lck_l, csum_0, csum_i, csum_r, csum_l, pops_0, pops_s, psh_n, psh_s, List.getElem?_cons_zero, List.getElem?_cons_succ, List.set_cons_zero, List.set_cons_succ, true_and, and_true, Nat.reduceAdd, Nat.reduceLeDiff, v8, S1_thoseIn, GB_1, GB_8, List.forall_mem_cons, List.not_mem_nil]
    simp only [vg, Nat.reduceAdd, ix] at hQ ⊢
    grind
def S1_timeTo : Sp := fun av h Q => match av with | [.ref b, .int i, .int room, .int last] => GB b ∧ (0 ≤ i ∧ i < 8) ∧ (0 ≤ h b 6 ∧ h b 6 ≤ 8) ∧ (0 ≤ last ∧ last ≤ 60) ∧ Q (some (.int (if fstT (vg h b) (ix i) room (ix last + 1) 0 ≤ ix last then nI (fstT (vg h b) (ix i) room (ix last + 1) 0) else 61))) (pg h b (occN (vg h b) (fstT (vg h b) (ix i) room (ix last + 1) 0))) | _ => False
theorem lp1_timeTo {h : Hp} {Q : Po} {b : Nat} {i room : Int32} (hb : GB b) (hi : 0 ≤ i ∧ i < 8) (hc : 0 ≤ h b 6 ∧ h b 6 ≤ 8) {m : Nat} (hm : m ≤ 60) : ∀ d t, d + t = m + 1 → Q (some (.int (if fstT (vg h b) (ix i) room d t ≤ m then nI (fstT (vg h b) (ix i) room d t) else 61))) (pg h b (occN (vg h b) (fstT (vg h b) (ix i) room d t))) → Rn (T1_timeTo Q S1_passOccasions) (3, [some (.ref b), some (.int i), some (.int room), some (.int (nI m)), some (.int (nI t))], [], pg h b (occN (vg h b) t))
  | 0, t, e, hQ => by
    have e : t = m + 1 := by omega
    subst e
    have e1 : fstT (vg h b) (ix i) room 0 (m + 1) = m + 1 := rfl
    rw [e1, if_neg (by omega)] at hQ
    have hlt : nI m < nI (m + 1) := nI_lt (by omega) (by omega)
    refine Rn_go C1_timeTo 60 ?_
    simp only [x1_timeTo_0, x1_timeTo_1, k1_timeTo_3, t1_timeTo_3, x1_timeTo_5, x1_timeTo_6, x1_timeTo_9, x1_timeTo_10, x1_timeTo_13, x1_timeTo_14, x1_timeTo_15, x1_timeTo_16, x1_timeTo_19, x1_timeTo_21, x1_timeTo_22, x1_timeTo_23, x1_timeTo_24, x1_timeTo_27, x1_timeTo_30, x1_timeTo_33, x1_timeTo_35, i_ald, i_cV, i_get, i_goto, i_iald, i_ic, i_ic_gt, i_ic_lt, i_ild, i_inc, i_iret, i_ist, oc_1, fv_1_0, fv_1_1, fv_1_2, fv_1_3, fv_1_4, fv_1_5, fv_1_6, ly_1_6, fv_1_7, ly_1_7, fv_1_8, ly_1_8, rd_2, al_2, rd_3, al_3, rd_4, al_4, rd_5, al_5, rd_6, al_6, rd_7, al_7, lck_0, lck_i, lck_r, lck_n, lck_l, csum_0, csum_i, csum_r, csum_l, pops_0, pops_s, psh_n, psh_s, List.getElem?_cons_zero, List.getElem?_cons_succ, List.set_cons_zero, List.set_cons_succ, true_and, and_true, Nat.reduceAdd, Nat.reduceLeDiff]
    exact ⟨fun _ => hQ, fun c => absurd hlt c⟩
  | d + 1, t, e, hQ => by
    have hlt : ¬ nI m < nI t := nI_nlt (by omega) (by omega)
    have hG : occN (vg h b) t 0 6 = h b 6 := by
      rw [occN_6]; rfl
    by_cases hr : room ≤ occN (vg h b) t 5 (ix i)
    · have e1 : fstT (vg h b) (ix i) room (d + 1) t = t := by rw [fstT, if_pos hr]
      rw [e1, if_pos (by omega)] at hQ
      have hr2 : ¬ occN (vg h b) t 5 (ix i) < room := Int32.not_lt.mpr hr
      rcases hb with rfl | rfl
      · refine Rn_go C1_timeTo 60 ?_
        rw [← pg_ge h 1 5 (occN (vg h 1) t)] at hr2
        simp only [x1_timeTo_0, x1_timeTo_1, k1_timeTo_3, t1_timeTo_3, x1_timeTo_5, x1_timeTo_6, x1_timeTo_9, x1_timeTo_10, x1_timeTo_13, x1_timeTo_14, x1_timeTo_15, x1_timeTo_16, x1_timeTo_19, x1_timeTo_21, x1_timeTo_22, x1_timeTo_23, x1_timeTo_24, x1_timeTo_27, x1_timeTo_30, x1_timeTo_33, x1_timeTo_35, i_ald, i_cV, i_get, i_goto, i_iald, i_ic, i_ic_gt, i_ic_lt, i_ild, i_inc, i_iret, i_ist, oc_1, fv_1_0, fv_1_1, fv_1_2, fv_1_3, fv_1_4, fv_1_5, fv_1_6, ly_1_6, fv_1_7, ly_1_7, fv_1_8, ly_1_8, rd_2, al_2, rd_3, al_3, rd_4, al_4, rd_5, al_5, rd_6, al_6, rd_7, al_7, lck_0, lck_i, lck_r, lck_n, lck_l, csum_0, csum_i, csum_r, csum_l, pops_0, pops_s, psh_n, psh_s, List.getElem?_cons_zero, List.getElem?_cons_succ, List.set_cons_zero, List.set_cons_succ, true_and, and_true, Nat.reduceAdd, Nat.reduceLeDiff, v8, S1_passOccasions]
        exact ⟨fun c => absurd c hlt, fun _ => ⟨hi, fun c => absurd c hr2, fun _ => hQ⟩⟩
      · refine Rn_go C1_timeTo 60 ?_
        rw [← pg_ge h 8 5 (occN (vg h 8) t)] at hr2
        simp only [x1_timeTo_0, x1_timeTo_1, k1_timeTo_3, t1_timeTo_3, x1_timeTo_5, x1_timeTo_6, x1_timeTo_9, x1_timeTo_10, x1_timeTo_13, x1_timeTo_14, x1_timeTo_15, x1_timeTo_16, x1_timeTo_19, x1_timeTo_21, x1_timeTo_22, x1_timeTo_23, x1_timeTo_24, x1_timeTo_27, x1_timeTo_30, x1_timeTo_33, x1_timeTo_35, i_ald, i_cV, i_get, i_goto, i_iald, i_ic, i_ic_gt, i_ic_lt, i_ild, i_inc, i_iret, i_ist, oc_8, fv_8_0, fv_8_1, fv_8_2, fv_8_3, fv_8_4, fv_8_5, fv_8_6, ly_8_6, fv_8_7, ly_8_7, fv_8_8, ly_8_8, rd_9, al_9, rd_10, al_10, rd_11, al_11, rd_12, al_12, rd_13, al_13, rd_14, al_14, lck_0, lck_i, lck_r, lck_n, lck_l, csum_0, csum_i, csum_r, csum_l, pops_0, pops_s, psh_n, psh_s, List.getElem?_cons_zero, List.getElem?_cons_succ, List.set_cons_zero, List.set_cons_succ, true_and, and_true, Nat.reduceAdd, Nat.reduceLeDiff, v8, S1_passOccasions]
        exact ⟨fun c => absurd c hlt, fun _ => ⟨hi, fun c => absurd c hr2, fun _ => hQ⟩⟩
    · have e1 : fstT (vg h b) (ix i) room (d + 1) t = fstT (vg h b) (ix i) room d (t + 1) := by rw [fstT, if_neg hr]
      rw [e1] at hQ
      have ih := lp1_timeTo hb hi hc hm d (t + 1) (by omega) hQ
      rw [← nI_1] at ih
      have hr2 : occN (vg h b) t 5 (ix i) < room := Int32.not_le.mp hr
      rcases hb with rfl | rfl
      · refine Rn_go C1_timeTo 60 ?_
        rw [← pg_ge h 1 5 (occN (vg h 1) t)] at hr2
        simp only [x1_timeTo_0, x1_timeTo_1, k1_timeTo_3, t1_timeTo_3, x1_timeTo_5, x1_timeTo_6, x1_timeTo_9, x1_timeTo_10, x1_timeTo_13, x1_timeTo_14, x1_timeTo_15, x1_timeTo_16, x1_timeTo_19, x1_timeTo_21, x1_timeTo_22, x1_timeTo_23, x1_timeTo_24, x1_timeTo_27, x1_timeTo_30, x1_timeTo_33, x1_timeTo_35, i_ald, i_cV, i_get, i_goto, i_iald, i_ic, i_ic_gt, i_ic_lt, i_ild, i_inc, i_iret, i_ist, oc_1, fv_1_0, fv_1_1, fv_1_2, fv_1_3, fv_1_4, fv_1_5, fv_1_6, ly_1_6, fv_1_7, ly_1_7, fv_1_8, ly_1_8, rd_2, al_2, rd_3, al_3, rd_4, al_4, rd_5, al_5, rd_6, al_6, rd_7, al_7, lck_0, lck_i, lck_r, lck_n, lck_l, csum_0, csum_i, csum_r, csum_l, pops_0, pops_s, psh_n, psh_s, List.getElem?_cons_zero, List.getElem?_cons_succ, List.set_cons_zero, List.set_cons_succ, true_and, and_true, Nat.reduceAdd, Nat.reduceLeDiff, v8, S1_passOccasions, GB_1, GB_8, pg_0, hG, vg_pg, pg_pg, ix1, ix, occN_1]
        exact ⟨fun c => absurd c hlt, fun _ => ⟨hi, fun _ => ⟨by decide, hc, ih⟩, fun c => absurd hr2 c⟩⟩
      · refine Rn_go C1_timeTo 60 ?_
        rw [← pg_ge h 8 5 (occN (vg h 8) t)] at hr2
        simp only [x1_timeTo_0, x1_timeTo_1, k1_timeTo_3, t1_timeTo_3, x1_timeTo_5, x1_timeTo_6, x1_timeTo_9, x1_timeTo_10, x1_timeTo_13, x1_timeTo_14, x1_timeTo_15, x1_timeTo_16, x1_timeTo_19, x1_timeTo_21, x1_timeTo_22, x1_timeTo_23, x1_timeTo_24, x1_timeTo_27, x1_timeTo_30, x1_timeTo_33, x1_timeTo_35, i_ald, i_cV, i_get, i_goto, i_iald, i_ic, i_ic_gt, i_ic_lt, i_ild, i_inc, i_iret, i_ist, oc_8, fv_8_0, fv_8_1, fv_8_2, fv_8_3, fv_8_4, fv_8_5, fv_8_6, ly_8_6, fv_8_7, ly_8_7, fv_8_8, ly_8_8, rd_9, al_9, rd_10, al_10, rd_11, al_11, rd_12, al_12, rd_13, al_13, rd_14, al_14, lck_0, lck_i, lck_r, lck_n, lck_l, csum_0, csum_i, csum_r, csum_l, pops_0, pops_s, psh_n, psh_s, List.getElem?_cons_zero, List.getElem?_cons_succ, List.set_cons_zero, List.set_cons_succ, true_and, and_true, Nat.reduceAdd, Nat.reduceLeDiff, v8, S1_passOccasions, GB_1, GB_8, pg_0, hG, vg_pg, pg_pg, ix1, ix, occN_1]
        exact ⟨fun c => absurd c hlt, fun _ => ⟨hi, fun _ => ⟨by decide, hc, ih⟩, fun c => absurd hr2 c⟩⟩
theorem rn1_timeTo {h : Hp} {Q : Po} {b : Nat} {i : Int32} {room : Int32} {last : Int32} (hS : S1_timeTo [.ref b, .int i, .int room, .int last] h Q) : Rn (T1_timeTo Q S1_passOccasions) (0, [some (.ref b), some (.int i), some (.int room), some (.int last), none], [], h) := by
  obtain ⟨hb, hi, hc, hl, hQ⟩ := hS
  have hm : nI (ix last) = last := nI_ix hl.1
  have hm2 : ix last ≤ 60 := by
    have := ix_lt (n := 61) hl.1 (show last < (61 : Int32) by grind) (by decide)
    omega
  have := lp1_timeTo hb hi hc hm2 (ix last + 1) 0 (by omega) hQ
  rw [hm, show pg h b (occN (vg h b) 0) = h from pg_vg h b] at this
  refine Rn_in C1_timeTo 60 ?_
  simp only [x1_timeTo_0, x1_timeTo_1, k1_timeTo_3, t1_timeTo_3, x1_timeTo_5, x1_timeTo_6, x1_timeTo_9, x1_timeTo_10, x1_timeTo_13, x1_timeTo_14, x1_timeTo_15, x1_timeTo_16, x1_timeTo_19, x1_timeTo_21, x1_timeTo_22, x1_timeTo_23, x1_timeTo_24, x1_timeTo_27, x1_timeTo_30, x1_timeTo_33, x1_timeTo_35, i_ald, i_cV, i_get, i_goto, i_iald, i_ic, i_ic_gt, i_ic_lt, i_ild, i_inc, i_iret, i_ist, oc_1, fv_1_0, fv_1_1, fv_1_2, fv_1_3, fv_1_4, fv_1_5, fv_1_6, ly_1_6, fv_1_7, ly_1_7, fv_1_8, ly_1_8, rd_2, al_2, rd_3, al_3, rd_4, al_4, rd_5, al_5, rd_6, al_6, rd_7, al_7, lck_0, lck_i, lck_r, lck_n, lck_l, csum_0, csum_i, csum_r, csum_l, pops_0, pops_s, psh_n, psh_s, List.getElem?_cons_zero, List.getElem?_cons_succ, List.set_cons_zero, List.set_cons_succ, true_and, and_true, Nat.reduceAdd, Nat.reduceLeDiff]
  exact this
