/-! pairs: act, trace, taken -/
def AR (g m : Hp) : Prop := g 39 1 = m 41 22 ∧ (0 ≤ g 39 1 ∧ g 39 1 ≤ 30) ∧ ∀ k, k < ix (g 39 1) → g 40 k = m 55 k
theorem AR_1 {g m : Hp} (r : AR g m) (b : Int32) : AR (markH g b) (runM m b) := by
  unfold markH runM
  rw [← r.1]
  by_cases c : g 39 1 < 30
  · rw [if_pos c, if_pos c]
    unfold AR
    have e1 : up2 (up2 g 40 (ix (g 39 1)) b) 39 1 (g 39 1 + 1) 39 1 = g 39 1 + 1 := by rw [up2_self, upd_ap, if_pos rfl]
    have e2 : up2 (up2 m 55 (ix (g 39 1)) b) 41 22 (g 39 1 + 1) 41 22 = g 39 1 + 1 := by rw [up2_self, upd_ap, if_pos rfl]
    have e3 : up2 (up2 g 40 (ix (g 39 1)) b) 39 1 (g 39 1 + 1) 40 = upd (g 40) (ix (g 39 1)) b := by rw [up2_ne (by decide), up2_self]
    have e4 : up2 (up2 m 55 (ix (g 39 1)) b) 41 22 (g 39 1 + 1) 55 = upd (m 55) (ix (g 39 1)) b := by rw [up2_ne (by decide), up2_self]
    rw [e1, e2, e3, e4]
    obtain ⟨n, n30, en⟩ : ∃ n, n < 30 ∧ g 39 1 = nI n := ofN (n := 30) (by decide) r.2.1.1 c
    have r3 := r.2.2
    have r0 := r.2.1.1
    have ex : ix (g 39 1) = n := by rw [en]; exact ix_nI (by omega)
    rw [ex] at r3
    refine ⟨rfl, ⟨by grind, by grind⟩, fun k hk => ?_⟩
    rw [ex]
    rw [en, nI_1, show ix (nI (n + 1)) = n + 1 from ix_nI (by omega)] at hk
    rw [upd_ap, upd_ap]
    by_cases d : k = n
    · rw [if_pos d, if_pos d]
    · rw [if_neg d, if_neg d]; exact r3 k (by omega)
  · rw [if_neg c, if_neg c]; exact r
theorem AR_L : ∀ (l : List Int32) {g m : Hp}, AR g m → AR (mkL g l) (mmL m l)
  | [], _, _, h => h
  | b :: l, g, m, h => by
    rw [← mkL_1, ← mmL_1]; exact AR_L l (AR_1 h b)
theorem AR_u {g m : Hp} (r : AR g m) (v w : Int32) : AR (up2 g 39 5 v) (up2 m 41 26 w) := by
  unfold AR
  have e1 : up2 g 39 5 v 39 1 = g 39 1 := by rw [up2_self, upd_ap, if_neg (by decide)]
  have e2 : up2 m 41 26 w 41 22 = m 41 22 := by rw [up2_self, upd_ap, if_neg (by decide)]
  rw [e1, e2, up2_ne (by decide), up2_ne (by decide)]
  exact r
theorem AR_pt {g m : Hp} (r : AR g m) (K : Nat) (e3 : g 39 3 = m 41 24) (e4 : g 39 4 = m 41 25) : AR (ptH K g) (pmH K m) := by
  unfold ptH pmH
  rw [← e3, ← e4]
  split
  · exact AR_u (AR_L _ r) _ _
  · exact AR_L _ r
theorem AR_lv {g m : Hp} (r : AR g m) (K : Nat) (e3 : g 39 3 = m 41 24) (e4 : g 39 4 = m 41 25) : AR (lvH K g) (lmH K m) := by
  unfold lvH lmH
  split
  · refine AR_pt (AR_L _ r) K ?_ ?_
    · rw [mkL_k (by decide), mmL_24]; exact e3
    · rw [mkL_k (by decide), mmL_25]; exact e4
  · exact AR_L _ r
/-- the act of a kind: value, cells -/
def acV (K c : Nat) (n a x : Int32) : Int32 := if c = 0 then bwV K n x else if c = 1 then thV K n a x else if c = 2 then ptV K n a x else lvV K n a x
def acH (K c : Nat) (g : Hp) : Hp := if c = 0 then mkL g (bwL K) else if c = 1 then mkL g (thL K) else if c = 2 then ptH K g else lvH K g
def amH (K c : Nat) (g : Hp) : Hp := if c = 0 then mmL g (bwL K) else if c = 1 then mmL g (thL K) else if c = 2 then pmH K g else lmH K g
theorem AR_ac {g m : Hp} (r : AR g m) (K c : Nat) (e3 : g 39 3 = m 41 24) (e4 : g 39 4 = m 41 25) : AR (acH K c g) (amH K c m) := by
  unfold acH amH
  split
  · exact AR_L _ r
  · split
    · exact AR_L _ r
    · split
      · exact AR_pt r K e3 e4
      · exact AR_lv r K e3 e4
theorem ptH_p {K : Nat} {g : Hp} {p : Nat} (h1 : p ≠ 39) (h2 : p ≠ 40) : ptH K g p = g p := by
  unfold ptH
  split
  · rw [up2_ne h1, mkL_p h1 h2]
  · rw [mkL_p h1 h2]
theorem acH_p {K c : Nat} {g : Hp} {p : Nat} (h1 : p ≠ 39) (h2 : p ≠ 40) : acH K c g p = g p := by
  unfold acH lvH
  split
  · exact mkL_p h1 h2 _ _
  · split
    · exact mkL_p h1 h2 _ _
    · split
      · exact ptH_p h1 h2
      · split
        · rw [ptH_p h1 h2]; exact mkL_p h1 h2 _ _
        · exact mkL_p h1 h2 _ _
theorem pmH_p {K : Nat} {g : Hp} {p : Nat} (h1 : p ≠ 41) (h2 : p ≠ 55) : pmH K g p = g p := by
  unfold pmH
  split
  · rw [up2_ne h1, mmL_p h1 h2]
  · rw [mmL_p h1 h2]
theorem amH_p {K c : Nat} {g : Hp} {p : Nat} (h1 : p ≠ 41) (h2 : p ≠ 55) : amH K c g p = g p := by
  unfold amH lmH
  split
  · exact mmL_p h1 h2 _ _
  · split
    · exact mmL_p h1 h2 _ _
    · split
      · exact pmH_p h1 h2
      · split
        · rw [pmH_p h1 h2]; exact mmL_p h1 h2 _ _
        · exact mmL_p h1 h2 _ _
theorem pmH_k {K : Nat} {g : Hp} {k : Nat} (h1 : k ≠ 22) (h2 : k ≠ 26) : pmH K g 41 k = g 41 k := by
  unfold pmH
  split
  · rw [up2_self, upd_ap, if_neg h2, mmL_k h1]
  · rw [mmL_k h1]
theorem amH_k {K c : Nat} {g : Hp} {k : Nat} (h1 : k ≠ 22) (h2 : k ≠ 26) : amH K c g 41 k = g 41 k := by
  unfold amH lmH
  split
  · exact mmL_k h1 _ _
  · split
    · exact mmL_k h1 _ _
    · split
      · exact pmH_k h1 h2
      · split
        · rw [pmH_k h1 h2]; exact mmL_k h1 _ _
        · exact mmL_k h1 _ _
/-- stuck at both sides alike -/
def stk (K c : Nat) (n a : Int32) : Int32 := if (c = 2 ∨ (c = 3 ∧ (K = 2 ∨ K = 4))) ∧ a - n = 0 then 1 else 0
theorem acH_5 {K c : Nat} (hc : c < 4) {g : Hp} (h5 : g 39 5 = 0) : acH K c g 39 5 = stk K c (g 39 3) (g 39 4) := by
  have pt : ∀ g : Hp, g 39 5 = 0 → ptH K g 39 5 = if g 39 4 - g 39 3 = 0 then 1 else 0 := by
    intro g h5
    unfold ptH
    split
    · rw [up2_self, upd_ap, if_pos rfl]
    · rw [mkL_k (by decide)]; exact h5
  unfold acH stk lvH
  rcases (show c = 0 ∨ c = 1 ∨ c = 2 ∨ c = 3 by omega) with rfl | rfl | rfl | rfl
  · simp [mkL_k, h5]
  · simp [mkL_k, h5]
  · simp [pt g h5]
  · by_cases z : K = 2 ∨ K = 4
    · simp only [z]
      rw [if_neg (by decide), if_neg (by decide), if_neg (by decide), if_pos trivial, pt _ (by rw [mkL_k (by decide)]; exact h5), mkL_k (by decide), mkL_k (by decide)]
      simp
    · simp [z, mkL_k, h5]
theorem amH_26 {K c : Nat} (hc : c < 4) {g : Hp} (h5 : g 41 26 = 0) : amH K c g 41 26 = stk K c (g 41 24) (g 41 25) := by
  have pt : ∀ g : Hp, g 41 26 = 0 → pmH K g 41 26 = if g 41 25 - g 41 24 = 0 then 1 else 0 := by
    intro g h5
    unfold pmH
    split
    · rw [up2_self, upd_ap, if_pos rfl]
    · rw [mmL_k (by decide)]; exact h5
  unfold amH stk lmH
  rcases (show c = 0 ∨ c = 1 ∨ c = 2 ∨ c = 3 by omega) with rfl | rfl | rfl | rfl
  · simp [mmL_k, h5]
  · simp [mmL_k, h5]
  · simp [pt g h5]
  · by_cases z : K = 2 ∨ K = 4
    · simp only [z]
      rw [if_neg (by decide), if_neg (by decide), if_neg (by decide), if_pos trivial, pt _ (by rw [mmL_k (by decide)]; exact h5), mmL_k (by decide), mmL_k (by decide)]
      simp
    · simp [z, mmL_k, h5]
