/-! acts: what each does, by kind -/
def bwV (K : Nat) (n x : Int32) : Int32 := if K = 2 then (x * 4 - n) ^^^ 1 else if K = 3 then x * 4 - n + 8 else if K = 4 then 0 - ((x * 4 - n) ^^^ 1) else x * 4 - n
def bwL (K : Nat) : List Int32 := if K = 2 then [30, 10] else if K = 3 then [51, 10] else if K = 4 then [40, 30, 10] else [10]
def thV (K : Nat) (n a x : Int32) : Int32 := if K = 1 ∨ K = 3 then (bwV K n x + a) * 2 else if K = 4 then bwV K n x + a - bwV K n a else bwV K n x + a
def thL (K : Nat) : List Int32 := if K = 1 ∨ K = 3 then 20 :: 11 :: bwL K else if K = 4 then 41 :: 11 :: (bwL K ++ bwL K) else 11 :: bwL K
def ptV (K : Nat) (n a x : Int32) : Int32 := if a - n = 0 then (if K = 3 then 0 - 1 else 0) else if K = 3 then x * 3 / (a - n) - 1 else if K = 5 then x / (a - n) + bwV 5 n n else x / (a - n)
def ptL (K : Nat) : List Int32 := if K = 3 then [50, 12] else if K = 5 then [61, 12] else [12]
def ptM (K : Nat) : List Int32 := if K = 5 then bwL 5 else []
def ptH (K : Nat) (g : Hp) : Hp := if g 39 4 - g 39 3 = 0 then up2 (mkL g (ptL K)) 39 5 1 else mkL g (ptL K ++ ptM K)
def lvV (K : Nat) (n a x : Int32) : Int32 := if K = 2 ∨ K = 4 then (thV K n a x ^^^ 180) + ptV K n a n else if K = 5 then (thV K n a x ^^^ 180) - x else thV K n a x ^^^ 180
def lvL (K : Nat) : List Int32 := if K = 2 ∨ K = 4 then 31 :: 13 :: thL K else if K = 5 then 60 :: 13 :: thL K else 13 :: thL K
def lvH (K : Nat) (g : Hp) : Hp := if K = 2 ∨ K = 4 then ptH K (mkL g (lvL K)) else mkL g (lvL K)
theorem lvV_24 {K : Nat} (h : K = 2 ∨ K = 4) (n a x : Int32) : lvV K n a x = (thV K n a x ^^^ 180) + ptV K n a n := by unfold lvV; rw [if_pos h]
theorem lvV_5 (n a x : Int32) : lvV 5 n a x = (thV 5 n a x ^^^ 180) - x := by unfold lvV; rw [if_neg (by decide), if_pos rfl]
theorem lvV_o {K : Nat} (h : ¬ (K = 2 ∨ K = 4)) (h5 : ¬ K = 5) (n a x : Int32) : lvV K n a x = thV K n a x ^^^ 180 := by unfold lvV; rw [if_neg h, if_neg h5]
theorem lvH_24 {K : Nat} (h : K = 2 ∨ K = 4) (g : Hp) : lvH K g = ptH K (mkL g (31 :: 13 :: thL K)) := by unfold lvH lvL; rw [if_pos h, if_pos h]
theorem lvH_5 (g : Hp) : lvH 5 g = mkL g (60 :: 13 :: thL 5) := by unfold lvH lvL; rw [if_neg (by decide), if_neg (by decide), if_pos rfl]
theorem lvH_o {K : Nat} (h : ¬ (K = 2 ∨ K = 4)) (h5 : ¬ K = 5) (g : Hp) : lvH K g = mkL g (13 :: thL K) := by unfold lvH lvL; rw [if_neg h, if_neg h, if_neg h5]
theorem kin {g : Hp} {K : Nat} (hK : g 39 2 = nI K) (h6 : K < 6) : 0 ≤ g 39 2 ∧ g 39 2 ≤ 5 := by
  rw [hK]; exact ⟨nI_pos' (by omega), nI_le (b := 5) (by omega) (by decide)⟩
theorem RT_bows {d K : Nat} (hK6 : K < 6) {x : Int32} {e : Nat} {g : Hp} (hK : g 39 2 = nI K) (h5 : g 39 5 = 0) (hp : PR g) (he : e + 3 ≤ 30) : RTo (d + 3) (owF (g 39 2) 0) x e g (bwV K (g 39 3) x) (mkL g (bwL K)) := by
  have h30 : ∀ b, markH g b 39 5 = 0 := fun b => by rw [mk_5]; exact h5
  have h40 : ∀ b c, markH (markH g b) c 39 5 = 0 := fun b c => by rw [mk_5]; exact h30 b
  rw [hK]
  rcases (show K = 0 ∨ K = 1 ∨ K = 2 ∨ K = 3 ∨ K = 4 ∨ K = 5 by omega) with rfl | rfl | rfl | rfl | rfl | rfl
  · rw [show owF (nI 0) 0 = 10 by decide]
    exact RT_10 h5 hp (by omega)
  · rw [show owF (nI 1) 0 = 10 by decide]
    exact RT_10 h5 hp (by omega)
  · rw [show owF (nI 2) 0 = 30 by decide]
    have := RT_30 h5 hp (by omega) (RT_10 (d := d + 1) (x := x) (h30 30) (mk_PR hp 30) (show e + 1 < 30 by omega))
    rw [mk_3] at this
    exact this
  · rw [show owF (nI 3) 0 = 51 by decide]
    have := RT_51 h5 hp (by omega) (RT_10 (d := d + 1) (x := x) (h30 51) (mk_PR hp 51) (show e + 1 < 30 by omega))
    rw [mk_3] at this
    exact this
  · rw [show owF (nI 4) 0 = 40 by decide]
    have := RT_40 h5 hp (by omega) (RT_30 (h30 40) (mk_PR hp 40) (by omega) (RT_10 (d := d) (x := x) (h40 40 30) (mk_PR (mk_PR hp 40) 30) (show e + 1 + 1 < 30 by omega)))
    rw [mk_3, mk_3] at this
    exact this
  · rw [show owF (nI 5) 0 = 10 by decide]
    exact RT_10 h5 hp (by omega)
theorem RT_t11 {d K : Nat} (hK6 : K < 6) {x : Int32} {e : Nat} {g : Hp} (hK : g 39 2 = nI K) (h5 : g 39 5 = 0) (hp : PR g) (he : e + 4 ≤ 30) : RTo (d + 4) 11 x e g (bwV K (g 39 3) x + g 39 4) (mkL g (11 :: bwL K)) := by
  have H := RT_bows (d := d) (x := x) (e := e + 1) (g := markH g 11) hK6 (by rw [mk_2]; exact hK) (by rw [mk_5]; exact h5) (mk_PR hp 11) (by omega)
  rw [mk_2, mk_3] at H
  have := RT_11 h5 hp (by omega) (kin hK hK6) H
  rw [mkL_k (by decide), mk_4] at this
  exact this
theorem RT_thanks {d K : Nat} (hK6 : K < 6) {x : Int32} {e : Nat} {g : Hp} (hK : g 39 2 = nI K) (h5 : g 39 5 = 0) (hp : PR g) (he : e + 5 ≤ 30) : RTo (d + 5) (owF (g 39 2) 1) x e g (thV K (g 39 3) (g 39 4) x) (mkL g (thL K)) := by
  have t0 := RT_t11 (d := d + 1) (x := x) (e := e) hK6 hK h5 hp (by omega)
  have t1 : ∀ b, RTo (d + 4) 11 x (e + 1) (markH g b) (bwV K (g 39 3) x + g 39 4) (mkL g (b :: 11 :: bwL K)) := fun b => by
    have := RT_t11 (d := d) (x := x) (e := e + 1) (g := markH g b) hK6 (by rw [mk_2]; exact hK) (by rw [mk_5]; exact h5) (mk_PR hp b) (by omega)
    rw [mk_3, mk_4] at this
    exact this
  rw [hK]
  rcases (show K = 0 ∨ K = 1 ∨ K = 2 ∨ K = 3 ∨ K = 4 ∨ K = 5 by omega) with rfl | rfl | rfl | rfl | rfl | rfl
  · rw [show owF (nI 0) 1 = 11 by decide]; exact t0
  · rw [show owF (nI 1) 1 = 20 by decide]; exact RT_20 h5 hp (by omega) (t1 20)
  · rw [show owF (nI 2) 1 = 11 by decide]; exact t0
  · rw [show owF (nI 3) 1 = 20 by decide]; exact RT_20 h5 hp (by omega) (t1 20)
  · rw [show owF (nI 4) 1 = 41 by decide]
    have hk2 : mkL g (41 :: 11 :: bwL 4) 39 2 = nI 4 := by rw [mkL_k (by decide)]; exact hK
    have H2 := RT_bows (d := d + 1) (x := g 39 4) (e := e + 1) (g := mkL g (41 :: 11 :: bwL 4)) hK6 hk2 (by rw [mkL_k (by decide)]; exact h5) (mkL_PR _ hp) (by omega)
    rw [mkL_k (by decide) (k := 3), mkL_app] at H2
    have := RT_41 h5 hp (by omega) (t1 41) (kin hk2 hK6) (w := bwV 4 (g 39 3) (g 39 4)) (by rw [mkL_k (by decide) (k := 4)]; exact H2)
    exact this
  · rw [show owF (nI 5) 1 = 11 by decide]; exact t0
theorem RT_parts {d K : Nat} (hK6 : K < 6) {x : Int32} {e : Nat} {g : Hp} (hK : g 39 2 = nI K) (h5 : g 39 5 = 0) (hp : PR g) (he : e + 4 ≤ 30) : RTo (d + 4) (owF (g 39 2) 2) x e g (ptV K (g 39 3) (g 39 4) x) (ptH K g) := by
  rw [hK]
  have p0 := RT_12 (d := d + 3) (x := x) (e := e) h5 hp (by omega)
  have p1 : ∀ b y, (g 39 4 - g 39 3 = 0 → RTo (d + 3) 12 y (e + 1) (markH g b) 0 (up2 (mkL g [b, 12]) 39 5 1)) ∧ (¬ g 39 4 - g 39 3 = 0 → RTo (d + 3) 12 y (e + 1) (markH g b) (y / (g 39 4 - g 39 3)) (mkL g [b, 12])) := fun b y => by
    have := RT_12 (d := d + 2) (x := y) (e := e + 1) (g := markH g b) (by rw [mk_5]; exact h5) (mk_PR hp b) (by omega)
    rw [mk_3, mk_4] at this
    exact this
  have plain : ∀ K, ptL K = [12] → ptM K = [] → ¬ K = 3 → ¬ K = 5 → RTo (d + 4) 12 x e g (ptV K (g 39 3) (g 39 4) x) (ptH K g) := by
    intro K l1 l2 k3 k5
    unfold ptV ptH
    rw [l1, l2, if_neg k3, if_neg k3, if_neg k5]
    by_cases c : g 39 4 - g 39 3 = 0
    · rw [if_pos c, if_pos c]; exact p0.1 c
    · rw [if_neg c, if_neg c]; exact p0.2 c
  rcases (show K = 0 ∨ K = 1 ∨ K = 2 ∨ K = 3 ∨ K = 4 ∨ K = 5 by omega) with rfl | rfl | rfl | rfl | rfl | rfl
  · rw [show owF (nI 0) 2 = 12 by decide]; exact plain 0 rfl rfl (by decide) (by decide)
  · rw [show owF (nI 1) 2 = 12 by decide]; exact plain 1 rfl rfl (by decide) (by decide)
  · rw [show owF (nI 2) 2 = 12 by decide]; exact plain 2 rfl rfl (by decide) (by decide)
  · rw [show owF (nI 3) 2 = 50 by decide]
    unfold ptV ptH
    by_cases c : g 39 4 - g 39 3 = 0
    · rw [if_pos c, if_pos c]; exact RT_50 h5 hp (by omega) ((p1 50 (x * 3)).1 c)
    · rw [if_neg c, if_neg c]; exact RT_50 h5 hp (by omega) ((p1 50 (x * 3)).2 c)
  · rw [show owF (nI 4) 2 = 12 by decide]; exact plain 4 rfl rfl (by decide) (by decide)
  · rw [show owF (nI 5) 2 = 61 by decide]
    unfold ptV ptH
    by_cases c : g 39 4 - g 39 3 = 0
    · rw [if_pos c, if_pos c]
      have e2 : up2 (mkL g [61, 12]) 39 5 1 39 2 = nI 5 := by
        rw [up2_self, upd_ap, if_neg (by decide), mkL_k (by decide)]; exact hK
      have H2 := RT_st (d := d + 2) (b := owF (up2 (mkL g [61, 12]) 39 5 1 39 2) 0) (x := up2 (mkL g [61, 12]) 39 5 1 39 3) (e := e + 1) (g := up2 (mkL g [61, 12]) 39 5 1) (by rw [up2_self, upd_ap, if_pos rfl]; decide)
      exact RT_61 h5 hp (by omega) ((p1 61 x).1 c) (kin e2 (by decide)) H2
    · rw [if_neg c, if_neg c]
      have e2 : mkL g [61, 12] 39 2 = nI 5 := by
        rw [mkL_k (by decide)]; exact hK
      have H2 := RT_bows (d := d) (x := g 39 3) (e := e + 1) (g := mkL g [61, 12]) (K := 5) (by decide) e2 (by rw [mkL_k (by decide)]; exact h5) (mkL_PR _ hp) (by omega)
      rw [mkL_k (by decide) (k := 3), mkL_app] at H2
      exact RT_61 h5 hp (by omega) ((p1 61 x).2 c) (kin e2 (by decide)) (by rw [mkL_k (by decide) (k := 3)]; exact H2)
theorem RT_t13 {d K : Nat} (hK6 : K < 6) {x : Int32} {e : Nat} {g : Hp} (hK : g 39 2 = nI K) (h5 : g 39 5 = 0) (hp : PR g) (he : e + 6 ≤ 30) : RTo (d + 6) 13 x e g (thV K (g 39 3) (g 39 4) x ^^^ 180) (mkL g (13 :: thL K)) := by
  have H := RT_thanks (d := d) (x := x) (e := e + 1) (g := markH g 13) hK6 (by rw [mk_2]; exact hK) (by rw [mk_5]; exact h5) (mk_PR hp 13) (by omega)
  rw [mk_2, mk_3, mk_4] at H
  exact RT_13 h5 hp (by omega) (kin hK hK6) H
theorem RT_leaves {d K : Nat} (hK6 : K < 6) {x : Int32} {e : Nat} {g : Hp} (hK : g 39 2 = nI K) (h5 : g 39 5 = 0) (hp : PR g) (he : e + 7 ≤ 30) : RTo (d + 7) (owF (g 39 2) 3) x e g (lvV K (g 39 3) (g 39 4) x) (lvH K g) := by
  have t0 := RT_t13 (d := d + 1) (x := x) (e := e) hK6 hK h5 hp (by omega)
  have t1 : ∀ b, RTo (d + 6) 13 x (e + 1) (markH g b) (thV K (g 39 3) (g 39 4) x ^^^ 180) (mkL g (b :: 13 :: thL K)) := fun b => by
    have := RT_t13 (d := d) (x := x) (e := e + 1) (g := markH g b) hK6 (by rw [mk_2]; exact hK) (by rw [mk_5]; exact h5) (mk_PR hp b) (by omega)
    rw [mk_3, mk_4] at this
    exact this
  have h31 : RTo (d + 7) 31 x e g ((thV K (g 39 3) (g 39 4) x ^^^ 180) + ptV K (g 39 3) (g 39 4) (g 39 3)) (ptH K (mkL g (31 :: 13 :: thL K))) := by
    have hk2 : mkL g (31 :: 13 :: thL K) 39 2 = nI K := by rw [mkL_k (by decide)]; exact hK
    have H2 := RT_parts (d := d + 2) (x := g 39 3) (e := e + 1) (g := mkL g (31 :: 13 :: thL K)) hK6 hk2 (by rw [mkL_k (by decide)]; exact h5) (mkL_PR _ hp) (by omega)
    rw [mkL_k (by decide) (k := 3), mkL_k (by decide) (k := 4)] at H2
    exact RT_31 h5 hp (by omega) (t1 31) (kin hk2 hK6) (by rw [mkL_k (by decide) (k := 3)]; exact H2)
  rw [hK]
  rcases (show K = 0 ∨ K = 1 ∨ K = 2 ∨ K = 3 ∨ K = 4 ∨ K = 5 by omega) with rfl | rfl | rfl | rfl | rfl | rfl
  · rw [show owF (nI 0) 3 = 13 by decide, lvV_o (by decide) (by decide), lvH_o (by decide) (by decide)]; exact t0
  · rw [show owF (nI 1) 3 = 13 by decide, lvV_o (by decide) (by decide), lvH_o (by decide) (by decide)]; exact t0
  · rw [show owF (nI 2) 3 = 31 by decide, lvV_24 (by decide), lvH_24 (by decide)]; exact h31
  · rw [show owF (nI 3) 3 = 13 by decide, lvV_o (by decide) (by decide), lvH_o (by decide) (by decide)]; exact t0
  · rw [show owF (nI 4) 3 = 31 by decide, lvV_24 (by decide), lvH_24 (by decide)]; exact h31
  · rw [show owF (nI 5) 3 = 60 by decide, lvV_5, lvH_5]; exact RT_60 h5 hp (by omega) (t1 60)
