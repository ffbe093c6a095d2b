def isI (v : Option Value) : Prop := ∃ x : Int32, v = some (.int x)
def isL (v : Option Value) : Prop := ∃ x : Int64, v = some (.long x)
def Sx (S : Sp) : Sp := fun av h Q' => ∃ Q : Po, S av h Q ∧ ∀ v h1, Q v h1 → isI v → Q' v h1
def Sl (S : Sp) : Sp := fun av h Q' => ∃ Q : Po, S av h Q ∧ ∀ v h1, Q v h1 → isL v → Q' v h1
def Mo (t t' : Tr) : Prop := ∀ (k : St → Prop) (L : Lo) (s : List Value) (h : Hp), t k L s h → t' k L s h
theorem Mo_id {t : Tr} : Mo t t := fun _ _ _ _ h => h
theorem Mo_nd {n : Nat} {a b a' b' : Nat → Tr} (ha : ∀ pc, Mo (a pc) (a' pc)) (hb : ∀ pc, Mo (b pc) (b' pc)) : ∀ pc, Mo (nd n a b pc) (nd n a' b' pc) := by
  intro pc
  unfold nd
  split
  · exact ha pc
  · exact hb pc
theorem Mo_lf {n : Nat} {t t' : Tr} (h : Mo t t') : ∀ pc, Mo (lf n t pc) (lf n t' pc) := by
  intro pc
  unfold lf
  split
  · exact h
  · exact Mo_id
theorem Mo_iret {Q Q' : Po} (hq : ∀ v h1, Q v h1 → isI v → Q' v h1) : Mo (i_iret Q) (i_iret Q') := by
  intro k L s h
  unfold i_iret
  split
  · exact fun ht => hq _ _ ht ⟨_, rfl⟩
  · exact fun ht => ht
theorem Mo_lret {Q Q' : Po} (hq : ∀ v h1, Q v h1 → isL v → Q' v h1) : Mo (i_lret Q) (i_lret Q') := by
  intro k L s h
  unfold i_lret
  split
  · exact fun ht => hq _ _ ht ⟨_, rfl⟩
  · exact fun ht => ht
theorem Rn_mo {T T' : Nat → Tr} (hm : ∀ pc, Mo (T pc) (T' pc)) {st : St} (hr : Rn T st) : Rn T' st := fun J hJ => hr J (fun pc k L s h ht hk => hJ pc k L s h (hm pc k L s h ht) hk)
theorem mo5_act {Q Q' : Po} (hq : ∀ v h1, Q v h1 → isI v → Q' v h1) : ∀ pc, Mo (T5_act Q S5_isShelf S5_heldBy S0_begin S0_own S5_run pc) (T5_act Q' S5_isShelf S5_heldBy S0_begin S0_own S5_run pc) :=
  Mo_nd (Mo_nd (Mo_nd (Mo_nd (Mo_nd (Mo_lf (Mo_id)) (Mo_nd (Mo_lf (Mo_id)) (Mo_lf (Mo_id)))) (Mo_nd (Mo_nd (Mo_lf (Mo_id)) (Mo_lf (Mo_id))) (Mo_nd (Mo_lf (Mo_id)) (Mo_lf (Mo_id))))) (Mo_nd (Mo_nd (Mo_lf (Mo_id)) (Mo_nd (Mo_lf (Mo_id)) (Mo_lf (Mo_id)))) (Mo_nd (Mo_nd (Mo_lf (Mo_id)) (Mo_lf (Mo_id))) (Mo_nd (Mo_lf (Mo_id)) (Mo_lf (Mo_id)))))) (Mo_nd (Mo_nd (Mo_nd (Mo_lf (Mo_id)) (Mo_nd (Mo_lf (Mo_id)) (Mo_lf (Mo_id)))) (Mo_nd (Mo_nd (Mo_lf (Mo_id)) (Mo_lf (Mo_id))) (Mo_nd (Mo_lf (Mo_id)) (Mo_lf (Mo_iret hq))))) (Mo_nd (Mo_nd (Mo_nd (Mo_lf (Mo_id)) (Mo_lf (Mo_id))) (Mo_nd (Mo_lf (Mo_id)) (Mo_lf (Mo_id)))) (Mo_nd (Mo_nd (Mo_lf (Mo_id)) (Mo_lf (Mo_id))) (Mo_nd (Mo_lf (Mo_id)) (Mo_lf (Mo_id))))))) (Mo_nd (Mo_nd (Mo_nd (Mo_nd (Mo_lf (Mo_id)) (Mo_nd (Mo_lf (Mo_id)) (Mo_lf (Mo_id)))) (Mo_nd (Mo_nd (Mo_lf (Mo_id)) (Mo_lf (Mo_id))) (Mo_nd (Mo_lf (Mo_id)) (Mo_lf (Mo_id))))) (Mo_nd (Mo_nd (Mo_nd (Mo_lf (Mo_id)) (Mo_lf (Mo_id))) (Mo_nd (Mo_lf (Mo_id)) (Mo_lf (Mo_id)))) (Mo_nd (Mo_nd (Mo_lf (Mo_id)) (Mo_lf (Mo_id))) (Mo_nd (Mo_lf (Mo_id)) (Mo_lf (Mo_id)))))) (Mo_nd (Mo_nd (Mo_nd (Mo_lf (Mo_id)) (Mo_nd (Mo_lf (Mo_id)) (Mo_lf (Mo_id)))) (Mo_nd (Mo_nd (Mo_lf (Mo_id)) (Mo_lf (Mo_id))) (Mo_nd (Mo_lf (Mo_id)) (Mo_lf (Mo_id))))) (Mo_nd (Mo_nd (Mo_nd (Mo_lf (Mo_id)) (Mo_lf (Mo_id))) (Mo_nd (Mo_lf (Mo_id)) (Mo_lf (Mo_id)))) (Mo_nd (Mo_nd (Mo_lf (Mo_id)) (Mo_lf (Mo_id))) (Mo_nd (Mo_lf (Mo_id)) (Mo_lf (Mo_iret hq)))))))
theorem cx5_act {l : Launch} : Ct l yX5_act cX5_act 6 (some .int) 41 (Sx S5_act) := by
  refine Ct_of (T := fun Q => T5_act Q S5_isShelf S5_heldBy S0_begin S0_own S5_run) (by decide) (cl5_act ct5_isShelf ct5_heldBy ct0_begin ct0_own ct5_run) ?_
  intro av h Q' hS
  obtain ⟨Q, hS, hq⟩ := hS
  unfold S5_act at hS
  split at hS
  · exact ⟨Nat.le_of_ble_eq_true rfl, Rn_mo (mo5_act hq) (rn5_act hS)⟩
  · exact hS.elim
theorem mo5_again {Q Q' : Po} (hq : ∀ v h1, Q v h1 → isI v → Q' v h1) : ∀ pc, Mo (T5_again Q S1_copy pc) (T5_again Q' S1_copy pc) :=
  Mo_nd (Mo_nd (Mo_nd (Mo_lf (Mo_id)) (Mo_nd (Mo_lf (Mo_id)) (Mo_lf (Mo_id)))) (Mo_nd (Mo_nd (Mo_lf (Mo_id)) (Mo_lf (Mo_iret hq))) (Mo_nd (Mo_lf (Mo_id)) (Mo_lf (Mo_id))))) (Mo_nd (Mo_nd (Mo_lf (Mo_id)) (Mo_nd (Mo_lf (Mo_id)) (Mo_lf (Mo_id)))) (Mo_nd (Mo_nd (Mo_lf (Mo_id)) (Mo_lf (Mo_id))) (Mo_nd (Mo_lf (Mo_id)) (Mo_lf (Mo_iret hq)))))
theorem cx5_again {l : Launch} : Ct l yX5_again cX5_again 1 (some .int) 2 (Sx S5_again) := by
  refine Ct_of (T := fun Q => T5_again Q S1_copy) (by decide) (cl5_again ct1_copy) ?_
  intro av h Q' hS
  obtain ⟨Q, hS, hq⟩ := hS
  unfold S5_again at hS
  split at hS
  · exact ⟨Nat.le_of_ble_eq_true rfl, Rn_mo (mo5_again hq) (rn5_again hS)⟩
  · exact hS.elim
theorem mo5_alterRow {Q Q' : Po} (hq : ∀ v h1, Q v h1 → isI v → Q' v h1) : ∀ pc, Mo (T5_alterRow Q S5_isRowPart pc) (T5_alterRow Q' S5_isRowPart pc) :=
  Mo_nd (Mo_nd (Mo_nd (Mo_nd (Mo_lf (Mo_id)) (Mo_nd (Mo_lf (Mo_id)) (Mo_lf (Mo_id)))) (Mo_nd (Mo_lf (Mo_id)) (Mo_nd (Mo_lf (Mo_id)) (Mo_lf (Mo_id))))) (Mo_nd (Mo_nd (Mo_lf (Mo_iret hq)) (Mo_nd (Mo_lf (Mo_id)) (Mo_lf (Mo_id)))) (Mo_nd (Mo_nd (Mo_lf (Mo_id)) (Mo_lf (Mo_id))) (Mo_nd (Mo_lf (Mo_id)) (Mo_lf (Mo_id)))))) (Mo_nd (Mo_nd (Mo_nd (Mo_lf (Mo_id)) (Mo_nd (Mo_lf (Mo_id)) (Mo_lf (Mo_id)))) (Mo_nd (Mo_nd (Mo_lf (Mo_id)) (Mo_lf (Mo_id))) (Mo_nd (Mo_lf (Mo_id)) (Mo_lf (Mo_id))))) (Mo_nd (Mo_nd (Mo_lf (Mo_id)) (Mo_nd (Mo_lf (Mo_id)) (Mo_lf (Mo_id)))) (Mo_nd (Mo_nd (Mo_lf (Mo_id)) (Mo_lf (Mo_id))) (Mo_nd (Mo_lf (Mo_id)) (Mo_lf (Mo_iret hq))))))
theorem cx5_alterRow {l : Launch} : Ct l yX5_alterRow cX5_alterRow 5 (some .int) 1 (Sx S5_alterRow) := by
  refine Ct_of (T := fun Q => T5_alterRow Q S5_isRowPart) (by decide) (cl5_alterRow ct5_isRowPart) ?_
  intro av h Q' hS
  obtain ⟨Q, hS, hq⟩ := hS
  unfold S5_alterRow at hS
  split at hS
  · exact ⟨Nat.le_of_ble_eq_true rfl, Rn_mo (mo5_alterRow hq) (rn5_alterRow hS)⟩
  · exact hS.elim
theorem mo5_await {Q Q' : Po} (hq : ∀ v h1, Q v h1 → isI v → Q' v h1) : ∀ pc, Mo (T5_await Q S1_has pc) (T5_await Q' S1_has pc) :=
  Mo_nd (Mo_nd (Mo_nd (Mo_nd (Mo_nd (Mo_lf (Mo_id)) (Mo_lf (Mo_id))) (Mo_nd (Mo_lf (Mo_id)) (Mo_lf (Mo_id)))) (Mo_nd (Mo_nd (Mo_lf (Mo_id)) (Mo_lf (Mo_id))) (Mo_nd (Mo_lf (Mo_id)) (Mo_lf (Mo_id))))) (Mo_nd (Mo_nd (Mo_nd (Mo_lf (Mo_id)) (Mo_lf (Mo_id))) (Mo_nd (Mo_lf (Mo_id)) (Mo_lf (Mo_id)))) (Mo_nd (Mo_nd (Mo_lf (Mo_id)) (Mo_lf (Mo_id))) (Mo_nd (Mo_lf (Mo_iret hq)) (Mo_nd (Mo_lf (Mo_id)) (Mo_lf (Mo_id))))))) (Mo_nd (Mo_nd (Mo_nd (Mo_nd (Mo_lf (Mo_id)) (Mo_lf (Mo_id))) (Mo_nd (Mo_lf (Mo_id)) (Mo_lf (Mo_id)))) (Mo_nd (Mo_nd (Mo_lf (Mo_id)) (Mo_lf (Mo_id))) (Mo_nd (Mo_lf (Mo_id)) (Mo_lf (Mo_id))))) (Mo_nd (Mo_nd (Mo_nd (Mo_lf (Mo_id)) (Mo_lf (Mo_id))) (Mo_nd (Mo_lf (Mo_id)) (Mo_lf (Mo_id)))) (Mo_nd (Mo_nd (Mo_lf (Mo_id)) (Mo_lf (Mo_id))) (Mo_nd (Mo_lf (Mo_id)) (Mo_nd (Mo_lf (Mo_id)) (Mo_lf (Mo_iret hq)))))))
theorem cx5_await {l : Launch} : Ct l yX5_await cX5_await 4 (some .int) 1 (Sx S5_await) := by
  refine Ct_of (T := fun Q => T5_await Q S1_has) (by decide) (cl5_await ct1_has) ?_
  intro av h Q' hS
  obtain ⟨Q, hS, hq⟩ := hS
  unfold S5_await at hS
  split at hS
  · exact ⟨Nat.le_of_ble_eq_true rfl, Rn_mo (mo5_await hq) (rn5_await hS)⟩
  · exact hS.elim
theorem mo5_bring {Q Q' : Po} (hq : ∀ v h1, Q v h1 → isI v → Q' v h1) : ∀ pc, Mo (T5_bring Q S1_has S5_isRoomOrOut pc) (T5_bring Q' S1_has S5_isRoomOrOut pc) :=
  Mo_nd (Mo_nd (Mo_nd (Mo_nd (Mo_lf (Mo_id)) (Mo_nd (Mo_lf (Mo_id)) (Mo_lf (Mo_id)))) (Mo_nd (Mo_lf (Mo_id)) (Mo_nd (Mo_lf (Mo_id)) (Mo_lf (Mo_id))))) (Mo_nd (Mo_nd (Mo_lf (Mo_id)) (Mo_nd (Mo_lf (Mo_id)) (Mo_lf (Mo_id)))) (Mo_nd (Mo_lf (Mo_iret hq)) (Mo_nd (Mo_lf (Mo_id)) (Mo_lf (Mo_id)))))) (Mo_nd (Mo_nd (Mo_nd (Mo_lf (Mo_id)) (Mo_nd (Mo_lf (Mo_id)) (Mo_lf (Mo_id)))) (Mo_nd (Mo_lf (Mo_id)) (Mo_nd (Mo_lf (Mo_id)) (Mo_lf (Mo_id))))) (Mo_nd (Mo_nd (Mo_lf (Mo_id)) (Mo_nd (Mo_lf (Mo_id)) (Mo_lf (Mo_id)))) (Mo_nd (Mo_lf (Mo_id)) (Mo_nd (Mo_lf (Mo_id)) (Mo_lf (Mo_iret hq))))))
theorem cx5_bring {l : Launch} : Ct l yX5_bring cX5_bring 4 (some .int) 1 (Sx S5_bring) := by
  refine Ct_of (T := fun Q => T5_bring Q S1_has S5_isRoomOrOut) (by decide) (cl5_bring ct1_has ct5_isRoomOrOut) ?_
  intro av h Q' hS
  obtain ⟨Q, hS, hq⟩ := hS
  unfold S5_bring at hS
  split at hS
  · exact ⟨Nat.le_of_ble_eq_true rfl, Rn_mo (mo5_bring hq) (rn5_bring hS)⟩
  · exact hS.elim
theorem mo5_does {Q Q' : Po} (hq : ∀ v h1, Q v h1 → isI v → Q' v h1) : ∀ pc, Mo (T5_does Q S1_has S1_isOut S1_needs S1_pays S1_gains pc) (T5_does Q' S1_has S1_isOut S1_needs S1_pays S1_gains pc) :=
  Mo_nd (Mo_nd (Mo_nd (Mo_nd (Mo_nd (Mo_lf (Mo_id)) (Mo_lf (Mo_id))) (Mo_nd (Mo_lf (Mo_id)) (Mo_lf (Mo_id)))) (Mo_nd (Mo_nd (Mo_lf (Mo_id)) (Mo_lf (Mo_id))) (Mo_nd (Mo_lf (Mo_iret hq)) (Mo_nd (Mo_lf (Mo_id)) (Mo_lf (Mo_id)))))) (Mo_nd (Mo_nd (Mo_nd (Mo_lf (Mo_id)) (Mo_lf (Mo_id))) (Mo_nd (Mo_lf (Mo_id)) (Mo_nd (Mo_lf (Mo_id)) (Mo_lf (Mo_id))))) (Mo_nd (Mo_nd (Mo_lf (Mo_id)) (Mo_lf (Mo_id))) (Mo_nd (Mo_lf (Mo_id)) (Mo_nd (Mo_lf (Mo_id)) (Mo_lf (Mo_id))))))) (Mo_nd (Mo_nd (Mo_nd (Mo_nd (Mo_lf (Mo_id)) (Mo_lf (Mo_id))) (Mo_nd (Mo_lf (Mo_id)) (Mo_nd (Mo_lf (Mo_iret hq)) (Mo_lf (Mo_id))))) (Mo_nd (Mo_nd (Mo_lf (Mo_id)) (Mo_lf (Mo_id))) (Mo_nd (Mo_lf (Mo_id)) (Mo_nd (Mo_lf (Mo_id)) (Mo_lf (Mo_id)))))) (Mo_nd (Mo_nd (Mo_nd (Mo_lf (Mo_iret hq)) (Mo_lf (Mo_id))) (Mo_nd (Mo_lf (Mo_id)) (Mo_nd (Mo_lf (Mo_id)) (Mo_lf (Mo_id))))) (Mo_nd (Mo_nd (Mo_lf (Mo_id)) (Mo_lf (Mo_id))) (Mo_nd (Mo_lf (Mo_iret hq)) (Mo_nd (Mo_lf (Mo_id)) (Mo_lf (Mo_iret hq)))))))
theorem cx5_does {l : Launch} : Ct l yX5_does cX5_does 3 (some .int) 2 (Sx S5_does) := by
  refine Ct_of (T := fun Q => T5_does Q S1_has S1_isOut S1_needs S1_pays S1_gains) (by decide) (cl5_does ct1_has ct1_isOut ct1_needs ct1_pays ct1_gains) ?_
  intro av h Q' hS
  obtain ⟨Q, hS, hq⟩ := hS
  unfold S5_does at hS
  split at hS
  · exact ⟨Nat.le_of_ble_eq_true rfl, Rn_mo (mo5_does hq) (rn5_does hS)⟩
  · exact hS.elim
theorem mo5_empty {Q Q' : Po} (hq : ∀ v h1, Q v h1 → isI v → Q' v h1) : ∀ pc, Mo (T5_empty Q S1_copy S1_countOut S1_passOccasions pc) (T5_empty Q' S1_copy S1_countOut S1_passOccasions pc) :=
  Mo_nd (Mo_nd (Mo_nd (Mo_nd (Mo_lf (Mo_id)) (Mo_nd (Mo_lf (Mo_id)) (Mo_lf (Mo_id)))) (Mo_nd (Mo_lf (Mo_id)) (Mo_nd (Mo_lf (Mo_id)) (Mo_lf (Mo_id))))) (Mo_nd (Mo_nd (Mo_lf (Mo_id)) (Mo_nd (Mo_lf (Mo_id)) (Mo_lf (Mo_id)))) (Mo_nd (Mo_nd (Mo_lf (Mo_id)) (Mo_lf (Mo_id))) (Mo_nd (Mo_lf (Mo_id)) (Mo_lf (Mo_id)))))) (Mo_nd (Mo_nd (Mo_nd (Mo_lf (Mo_id)) (Mo_nd (Mo_lf (Mo_id)) (Mo_lf (Mo_id)))) (Mo_nd (Mo_nd (Mo_lf (Mo_id)) (Mo_lf (Mo_id))) (Mo_nd (Mo_lf (Mo_iret hq)) (Mo_lf (Mo_id))))) (Mo_nd (Mo_nd (Mo_lf (Mo_id)) (Mo_nd (Mo_lf (Mo_id)) (Mo_lf (Mo_id)))) (Mo_nd (Mo_nd (Mo_lf (Mo_id)) (Mo_lf (Mo_id))) (Mo_nd (Mo_lf (Mo_id)) (Mo_lf (Mo_iret hq))))))
theorem cx5_empty {l : Launch} : Ct l yX5_empty cX5_empty 2 (some .int) 4 (Sx S5_empty) := by
  refine Ct_of (T := fun Q => T5_empty Q S1_copy S1_countOut S1_passOccasions) (by decide) (cl5_empty ct1_copy ct1_countOut ct1_passOccasions) ?_
  intro av h Q' hS
  obtain ⟨Q, hS, hq⟩ := hS
  unfold S5_empty at hS
  split at hS
  · exact ⟨Nat.le_of_ble_eq_true rfl, Rn_mo (mo5_empty hq) (rn5_empty hS)⟩
  · exact hS.elim
theorem mo5_excuse {Q Q' : Po} (hq : ∀ v h1, Q v h1 → isI v → Q' v h1) : ∀ pc, Mo (T5_excuse Q S1_has pc) (T5_excuse Q' S1_has pc) :=
  Mo_nd (Mo_nd (Mo_nd (Mo_nd (Mo_lf (Mo_id)) (Mo_nd (Mo_lf (Mo_id)) (Mo_lf (Mo_id)))) (Mo_nd (Mo_lf (Mo_id)) (Mo_nd (Mo_lf (Mo_id)) (Mo_lf (Mo_id))))) (Mo_nd (Mo_nd (Mo_lf (Mo_iret hq)) (Mo_nd (Mo_lf (Mo_id)) (Mo_lf (Mo_id)))) (Mo_nd (Mo_nd (Mo_lf (Mo_id)) (Mo_lf (Mo_id))) (Mo_nd (Mo_lf (Mo_id)) (Mo_lf (Mo_id)))))) (Mo_nd (Mo_nd (Mo_nd (Mo_lf (Mo_id)) (Mo_nd (Mo_lf (Mo_id)) (Mo_lf (Mo_id)))) (Mo_nd (Mo_lf (Mo_id)) (Mo_nd (Mo_lf (Mo_id)) (Mo_lf (Mo_id))))) (Mo_nd (Mo_nd (Mo_lf (Mo_id)) (Mo_nd (Mo_lf (Mo_id)) (Mo_lf (Mo_id)))) (Mo_nd (Mo_nd (Mo_lf (Mo_id)) (Mo_lf (Mo_id))) (Mo_nd (Mo_lf (Mo_id)) (Mo_lf (Mo_iret hq))))))
theorem cx5_excuse {l : Launch} : Ct l yX5_excuse cX5_excuse 3 (some .int) 1 (Sx S5_excuse) := by
  refine Ct_of (T := fun Q => T5_excuse Q S1_has) (by decide) (cl5_excuse ct1_has) ?_
  intro av h Q' hS
  obtain ⟨Q, hS, hq⟩ := hS
  unfold S5_excuse at hS
  split at hS
  · exact ⟨Nat.le_of_ble_eq_true rfl, Rn_mo (mo5_excuse hq) (rn5_excuse hS)⟩
  · exact hS.elim
theorem mo5_feed {Q Q' : Po} (hq : ∀ v h1, Q v h1 → isI v → Q' v h1) : ∀ pc, Mo (T5_feed Q S4_add pc) (T5_feed Q' S4_add pc) :=
  Mo_nd (Mo_nd (Mo_nd (Mo_nd (Mo_nd (Mo_lf (Mo_id)) (Mo_lf (Mo_id))) (Mo_nd (Mo_lf (Mo_id)) (Mo_lf (Mo_id)))) (Mo_nd (Mo_nd (Mo_lf (Mo_id)) (Mo_lf (Mo_id))) (Mo_nd (Mo_lf (Mo_id)) (Mo_nd (Mo_lf (Mo_iret hq)) (Mo_lf (Mo_id)))))) (Mo_nd (Mo_nd (Mo_nd (Mo_lf (Mo_id)) (Mo_lf (Mo_id))) (Mo_nd (Mo_lf (Mo_id)) (Mo_nd (Mo_lf (Mo_id)) (Mo_lf (Mo_id))))) (Mo_nd (Mo_nd (Mo_lf (Mo_id)) (Mo_lf (Mo_id))) (Mo_nd (Mo_lf (Mo_iret hq)) (Mo_nd (Mo_lf (Mo_id)) (Mo_lf (Mo_id))))))) (Mo_nd (Mo_nd (Mo_nd (Mo_nd (Mo_lf (Mo_id)) (Mo_lf (Mo_id))) (Mo_nd (Mo_lf (Mo_id)) (Mo_nd (Mo_lf (Mo_id)) (Mo_lf (Mo_id))))) (Mo_nd (Mo_nd (Mo_lf (Mo_id)) (Mo_lf (Mo_id))) (Mo_nd (Mo_lf (Mo_id)) (Mo_nd (Mo_lf (Mo_id)) (Mo_lf (Mo_id)))))) (Mo_nd (Mo_nd (Mo_nd (Mo_lf (Mo_id)) (Mo_lf (Mo_id))) (Mo_nd (Mo_lf (Mo_id)) (Mo_nd (Mo_lf (Mo_id)) (Mo_lf (Mo_id))))) (Mo_nd (Mo_nd (Mo_lf (Mo_id)) (Mo_lf (Mo_id))) (Mo_nd (Mo_lf (Mo_id)) (Mo_nd (Mo_lf (Mo_id)) (Mo_lf (Mo_iret hq)))))))
theorem cx5_feed {l : Launch} : Ct l yX5_feed cX5_feed 5 (some .int) 1 (Sx S5_feed) := by
  refine Ct_of (T := fun Q => T5_feed Q S4_add) (by decide) (cl5_feed ct4_add) ?_
  intro av h Q' hS
  obtain ⟨Q, hS, hq⟩ := hS
  unfold S5_feed at hS
  split at hS
  · exact ⟨Nat.le_of_ble_eq_true rfl, Rn_mo (mo5_feed hq) (rn5_feed hS)⟩
  · exact hS.elim
theorem mo5_fits {Q Q' : Po} (hq : ∀ v h1, Q v h1 → isI v → Q' v h1) : ∀ pc, Mo (T5_fits Q S5_isSheet S1_has S5_isFitting pc) (T5_fits Q' S5_isSheet S1_has S5_isFitting pc) :=
  Mo_nd (Mo_nd (Mo_nd (Mo_nd (Mo_nd (Mo_lf (Mo_id)) (Mo_nd (Mo_lf (Mo_id)) (Mo_lf (Mo_id)))) (Mo_nd (Mo_lf (Mo_id)) (Mo_nd (Mo_lf (Mo_id)) (Mo_lf (Mo_id))))) (Mo_nd (Mo_nd (Mo_lf (Mo_id)) (Mo_nd (Mo_lf (Mo_id)) (Mo_lf (Mo_id)))) (Mo_nd (Mo_nd (Mo_lf (Mo_id)) (Mo_lf (Mo_id))) (Mo_nd (Mo_lf (Mo_id)) (Mo_lf (Mo_id)))))) (Mo_nd (Mo_nd (Mo_nd (Mo_lf (Mo_id)) (Mo_nd (Mo_lf (Mo_iret hq)) (Mo_lf (Mo_id)))) (Mo_nd (Mo_lf (Mo_id)) (Mo_nd (Mo_lf (Mo_id)) (Mo_lf (Mo_id))))) (Mo_nd (Mo_nd (Mo_lf (Mo_id)) (Mo_nd (Mo_lf (Mo_id)) (Mo_lf (Mo_id)))) (Mo_nd (Mo_nd (Mo_lf (Mo_id)) (Mo_lf (Mo_iret hq))) (Mo_nd (Mo_lf (Mo_id)) (Mo_lf (Mo_id))))))) (Mo_nd (Mo_nd (Mo_nd (Mo_nd (Mo_lf (Mo_id)) (Mo_nd (Mo_lf (Mo_id)) (Mo_lf (Mo_id)))) (Mo_nd (Mo_lf (Mo_id)) (Mo_nd (Mo_lf (Mo_id)) (Mo_lf (Mo_id))))) (Mo_nd (Mo_nd (Mo_lf (Mo_id)) (Mo_nd (Mo_lf (Mo_id)) (Mo_lf (Mo_id)))) (Mo_nd (Mo_nd (Mo_lf (Mo_id)) (Mo_lf (Mo_id))) (Mo_nd (Mo_lf (Mo_id)) (Mo_lf (Mo_id)))))) (Mo_nd (Mo_nd (Mo_nd (Mo_lf (Mo_id)) (Mo_nd (Mo_lf (Mo_id)) (Mo_lf (Mo_id)))) (Mo_nd (Mo_lf (Mo_id)) (Mo_nd (Mo_lf (Mo_id)) (Mo_lf (Mo_id))))) (Mo_nd (Mo_nd (Mo_lf (Mo_id)) (Mo_nd (Mo_lf (Mo_id)) (Mo_lf (Mo_id)))) (Mo_nd (Mo_nd (Mo_lf (Mo_id)) (Mo_lf (Mo_id))) (Mo_nd (Mo_lf (Mo_id)) (Mo_lf (Mo_iret hq)))))))
theorem cx5_fits {l : Launch} : Ct l yX5_fits cX5_fits 7 (some .int) 5 (Sx S5_fits) := by
  refine Ct_of (T := fun Q => T5_fits Q S5_isSheet S1_has S5_isFitting) (by decide) (cl5_fits ct5_isSheet ct1_has ct5_isFitting) ?_
  intro av h Q' hS
  obtain ⟨Q, hS, hq⟩ := hS
  unfold S5_fits at hS
  split at hS
  · exact ⟨Nat.le_of_ble_eq_true rfl, Rn_mo (mo5_fits hq) (rn5_fits hS)⟩
  · exact hS.elim
theorem mo5_gaol {Q Q' : Po} (hq : ∀ v h1, Q v h1 → isI v → Q' v h1) : ∀ pc, Mo (T5_gaol Q S1_becomeFirst S4_read S1_copy pc) (T5_gaol Q' S1_becomeFirst S4_read S1_copy pc) :=
  Mo_nd (Mo_nd (Mo_nd (Mo_nd (Mo_nd (Mo_lf (Mo_id)) (Mo_lf (Mo_id))) (Mo_nd (Mo_lf (Mo_id)) (Mo_lf (Mo_id)))) (Mo_nd (Mo_nd (Mo_lf (Mo_id)) (Mo_lf (Mo_id))) (Mo_nd (Mo_lf (Mo_id)) (Mo_nd (Mo_lf (Mo_id)) (Mo_lf (Mo_id)))))) (Mo_nd (Mo_nd (Mo_nd (Mo_lf (Mo_id)) (Mo_lf (Mo_id))) (Mo_nd (Mo_lf (Mo_id)) (Mo_lf (Mo_id)))) (Mo_nd (Mo_nd (Mo_lf (Mo_id)) (Mo_lf (Mo_id))) (Mo_nd (Mo_lf (Mo_id)) (Mo_nd (Mo_lf (Mo_id)) (Mo_lf (Mo_id))))))) (Mo_nd (Mo_nd (Mo_nd (Mo_nd (Mo_lf (Mo_iret hq)) (Mo_lf (Mo_id))) (Mo_nd (Mo_lf (Mo_id)) (Mo_lf (Mo_id)))) (Mo_nd (Mo_nd (Mo_lf (Mo_id)) (Mo_lf (Mo_id))) (Mo_nd (Mo_lf (Mo_id)) (Mo_nd (Mo_lf (Mo_id)) (Mo_lf (Mo_id)))))) (Mo_nd (Mo_nd (Mo_nd (Mo_lf (Mo_id)) (Mo_lf (Mo_id))) (Mo_nd (Mo_lf (Mo_id)) (Mo_nd (Mo_lf (Mo_id)) (Mo_lf (Mo_id))))) (Mo_nd (Mo_nd (Mo_lf (Mo_id)) (Mo_lf (Mo_id))) (Mo_nd (Mo_lf (Mo_id)) (Mo_nd (Mo_lf (Mo_id)) (Mo_lf (Mo_iret hq)))))))
theorem cx5_gaol {l : Launch} : Ct l yX5_gaol cX5_gaol 2 (some .int) 9 (Sx S5_gaol) := by
  refine Ct_of (T := fun Q => T5_gaol Q S1_becomeFirst S4_read S1_copy) (by decide) (cl5_gaol ct1_becomeFirst ct4_read ct1_copy) ?_
  intro av h Q' hS
  obtain ⟨Q, hS, hq⟩ := hS
  unfold S5_gaol at hS
  split at hS
  · exact ⟨Nat.le_of_ble_eq_true rfl, Rn_mo (mo5_gaol hq) (rn5_gaol hS)⟩
  · exact hS.elim
theorem mo5_grace {Q Q' : Po} (hq : ∀ v h1, Q v h1 → isI v → Q' v h1) : ∀ pc, Mo (T5_grace Q S1_has S5_isWithin pc) (T5_grace Q' S1_has S5_isWithin pc) :=
  Mo_nd (Mo_nd (Mo_nd (Mo_nd (Mo_lf (Mo_id)) (Mo_nd (Mo_lf (Mo_id)) (Mo_lf (Mo_id)))) (Mo_nd (Mo_lf (Mo_id)) (Mo_nd (Mo_lf (Mo_id)) (Mo_lf (Mo_id))))) (Mo_nd (Mo_nd (Mo_lf (Mo_id)) (Mo_nd (Mo_lf (Mo_id)) (Mo_lf (Mo_id)))) (Mo_nd (Mo_lf (Mo_id)) (Mo_nd (Mo_lf (Mo_iret hq)) (Mo_lf (Mo_id)))))) (Mo_nd (Mo_nd (Mo_nd (Mo_lf (Mo_id)) (Mo_nd (Mo_lf (Mo_id)) (Mo_lf (Mo_id)))) (Mo_nd (Mo_lf (Mo_id)) (Mo_nd (Mo_lf (Mo_id)) (Mo_lf (Mo_id))))) (Mo_nd (Mo_nd (Mo_lf (Mo_id)) (Mo_nd (Mo_lf (Mo_id)) (Mo_lf (Mo_id)))) (Mo_nd (Mo_nd (Mo_lf (Mo_id)) (Mo_lf (Mo_id))) (Mo_nd (Mo_lf (Mo_id)) (Mo_lf (Mo_iret hq))))))
theorem cx5_grace {l : Launch} : Ct l yX5_grace cX5_grace 4 (some .int) 1 (Sx S5_grace) := by
  refine Ct_of (T := fun Q => T5_grace Q S1_has S5_isWithin) (by decide) (cl5_grace ct1_has ct5_isWithin) ?_
  intro av h Q' hS
  obtain ⟨Q, hS, hq⟩ := hS
  unfold S5_grace at hS
  split at hS
  · exact ⟨Nat.le_of_ble_eq_true rfl, Rn_mo (mo5_grace hq) (rn5_grace hS)⟩
  · exact hS.elim
theorem mo5_graceFor {Q Q' : Po} (hq : ∀ v h1, Q v h1 → isI v → Q' v h1) : ∀ pc, Mo (T5_graceFor Q S1_has S5_isWithin S1_copy S1_timeTo pc) (T5_graceFor Q' S1_has S5_isWithin S1_copy S1_timeTo pc) :=
  Mo_nd (Mo_nd (Mo_nd (Mo_nd (Mo_nd (Mo_lf (Mo_id)) (Mo_lf (Mo_id))) (Mo_nd (Mo_lf (Mo_id)) (Mo_nd (Mo_lf (Mo_id)) (Mo_lf (Mo_id))))) (Mo_nd (Mo_nd (Mo_lf (Mo_id)) (Mo_lf (Mo_id))) (Mo_nd (Mo_lf (Mo_id)) (Mo_nd (Mo_lf (Mo_id)) (Mo_lf (Mo_id)))))) (Mo_nd (Mo_nd (Mo_nd (Mo_lf (Mo_iret hq)) (Mo_lf (Mo_id))) (Mo_nd (Mo_lf (Mo_id)) (Mo_nd (Mo_lf (Mo_id)) (Mo_lf (Mo_id))))) (Mo_nd (Mo_nd (Mo_lf (Mo_id)) (Mo_lf (Mo_id))) (Mo_nd (Mo_lf (Mo_id)) (Mo_nd (Mo_lf (Mo_id)) (Mo_lf (Mo_id))))))) (Mo_nd (Mo_nd (Mo_nd (Mo_nd (Mo_lf (Mo_id)) (Mo_lf (Mo_id))) (Mo_nd (Mo_lf (Mo_id)) (Mo_nd (Mo_lf (Mo_id)) (Mo_lf (Mo_id))))) (Mo_nd (Mo_nd (Mo_lf (Mo_id)) (Mo_lf (Mo_id))) (Mo_nd (Mo_lf (Mo_id)) (Mo_nd (Mo_lf (Mo_id)) (Mo_lf (Mo_id)))))) (Mo_nd (Mo_nd (Mo_nd (Mo_lf (Mo_id)) (Mo_lf (Mo_id))) (Mo_nd (Mo_lf (Mo_id)) (Mo_nd (Mo_lf (Mo_id)) (Mo_lf (Mo_id))))) (Mo_nd (Mo_nd (Mo_lf (Mo_id)) (Mo_nd (Mo_lf (Mo_iret hq)) (Mo_lf (Mo_id)))) (Mo_nd (Mo_lf (Mo_id)) (Mo_nd (Mo_lf (Mo_id)) (Mo_lf (Mo_iret hq)))))))
theorem cx5_graceFor {l : Launch} : Ct l yX5_graceFor cX5_graceFor 4 (some .int) 5 (Sx S5_graceFor) := by
  refine Ct_of (T := fun Q => T5_graceFor Q S1_has S5_isWithin S1_copy S1_timeTo) (by decide) (cl5_graceFor ct1_has ct5_isWithin ct1_copy ct1_timeTo) ?_
  intro av h Q' hS
  obtain ⟨Q, hS, hq⟩ := hS
  unfold S5_graceFor at hS
  split at hS
  · exact ⟨Nat.le_of_ble_eq_true rfl, Rn_mo (mo5_graceFor hq) (rn5_graceFor hS)⟩
  · exact hS.elim
theorem mo5_hope {Q Q' : Po} (hq : ∀ v h1, Q v h1 → isL v → Q' v h1) : ∀ pc, Mo (T5_hope Q S5_partOf pc) (T5_hope Q' S5_partOf pc) :=
  Mo_nd (Mo_nd (Mo_nd (Mo_nd (Mo_lf (Mo_id)) (Mo_nd (Mo_lf (Mo_id)) (Mo_lf (Mo_id)))) (Mo_nd (Mo_lf (Mo_id)) (Mo_nd (Mo_lf (Mo_id)) (Mo_lf (Mo_id))))) (Mo_nd (Mo_nd (Mo_lf (Mo_id)) (Mo_nd (Mo_lf (Mo_id)) (Mo_lf (Mo_id)))) (Mo_nd (Mo_lf (Mo_id)) (Mo_nd (Mo_lf (Mo_id)) (Mo_lf (Mo_lret hq)))))) (Mo_nd (Mo_nd (Mo_nd (Mo_lf (Mo_id)) (Mo_nd (Mo_lf (Mo_id)) (Mo_lf (Mo_id)))) (Mo_nd (Mo_lf (Mo_id)) (Mo_nd (Mo_lf (Mo_id)) (Mo_lf (Mo_id))))) (Mo_nd (Mo_nd (Mo_lf (Mo_id)) (Mo_nd (Mo_lf (Mo_id)) (Mo_lf (Mo_id)))) (Mo_nd (Mo_nd (Mo_lf (Mo_id)) (Mo_lf (Mo_id))) (Mo_nd (Mo_lf (Mo_id)) (Mo_lf (Mo_lret hq))))))
theorem cx5_hope {l : Launch} : Ct l yX5_hope cX5_hope 3 (some .long) 1 (Sl S5_hope) := by
  refine Ct_of (T := fun Q => T5_hope Q S5_partOf) (by decide) (cl5_hope ct5_partOf) ?_
  intro av h Q' hS
  obtain ⟨Q, hS, hq⟩ := hS
  unfold S5_hope at hS
  split at hS
  · exact ⟨Nat.le_of_ble_eq_true rfl, Rn_mo (mo5_hope hq) (rn5_hope hS)⟩
  · exact hS.elim
theorem mo5_hostFor {Q Q' : Po} (hq : ∀ v h1, Q v h1 → isI v → Q' v h1) : ∀ pc, Mo (T5_hostFor Q S1_has S5_timeNow S1_copy S1_timeTo pc) (T5_hostFor Q' S1_has S5_timeNow S1_copy S1_timeTo pc) :=
  Mo_nd (Mo_nd (Mo_nd (Mo_nd (Mo_nd (Mo_lf (Mo_id)) (Mo_nd (Mo_lf (Mo_id)) (Mo_lf (Mo_id)))) (Mo_nd (Mo_lf (Mo_id)) (Mo_nd (Mo_lf (Mo_id)) (Mo_lf (Mo_id))))) (Mo_nd (Mo_nd (Mo_lf (Mo_iret hq)) (Mo_nd (Mo_lf (Mo_id)) (Mo_lf (Mo_id)))) (Mo_nd (Mo_nd (Mo_lf (Mo_id)) (Mo_lf (Mo_id))) (Mo_nd (Mo_lf (Mo_id)) (Mo_lf (Mo_id)))))) (Mo_nd (Mo_nd (Mo_nd (Mo_lf (Mo_id)) (Mo_nd (Mo_lf (Mo_id)) (Mo_lf (Mo_id)))) (Mo_nd (Mo_lf (Mo_id)) (Mo_nd (Mo_lf (Mo_id)) (Mo_lf (Mo_id))))) (Mo_nd (Mo_nd (Mo_lf (Mo_id)) (Mo_nd (Mo_lf (Mo_id)) (Mo_lf (Mo_id)))) (Mo_nd (Mo_nd (Mo_lf (Mo_id)) (Mo_lf (Mo_id))) (Mo_nd (Mo_lf (Mo_id)) (Mo_lf (Mo_id))))))) (Mo_nd (Mo_nd (Mo_nd (Mo_nd (Mo_lf (Mo_id)) (Mo_nd (Mo_lf (Mo_id)) (Mo_lf (Mo_id)))) (Mo_nd (Mo_lf (Mo_id)) (Mo_nd (Mo_lf (Mo_id)) (Mo_lf (Mo_id))))) (Mo_nd (Mo_nd (Mo_lf (Mo_id)) (Mo_nd (Mo_lf (Mo_id)) (Mo_lf (Mo_id)))) (Mo_nd (Mo_nd (Mo_lf (Mo_id)) (Mo_lf (Mo_id))) (Mo_nd (Mo_lf (Mo_id)) (Mo_lf (Mo_id)))))) (Mo_nd (Mo_nd (Mo_nd (Mo_lf (Mo_id)) (Mo_nd (Mo_lf (Mo_id)) (Mo_lf (Mo_id)))) (Mo_nd (Mo_lf (Mo_id)) (Mo_nd (Mo_lf (Mo_id)) (Mo_lf (Mo_id))))) (Mo_nd (Mo_nd (Mo_lf (Mo_id)) (Mo_nd (Mo_lf (Mo_id)) (Mo_lf (Mo_id)))) (Mo_nd (Mo_nd (Mo_lf (Mo_id)) (Mo_lf (Mo_id))) (Mo_nd (Mo_lf (Mo_id)) (Mo_lf (Mo_iret hq)))))))
theorem cx5_hostFor {l : Launch} : Ct l yX5_hostFor cX5_hostFor 6 (some .int) 6 (Sx S5_hostFor) := by
  refine Ct_of (T := fun Q => T5_hostFor Q S1_has S5_timeNow S1_copy S1_timeTo) (by decide) (cl5_hostFor ct1_has ct5_timeNow ct1_copy ct1_timeTo) ?_
  intro av h Q' hS
  obtain ⟨Q, hS, hq⟩ := hS
  unfold S5_hostFor at hS
  split at hS
  · exact ⟨Nat.le_of_ble_eq_true rfl, Rn_mo (mo5_hostFor hq) (rn5_hostFor hS)⟩
  · exact hS.elim
theorem mo5_inmate {Q Q' : Po} (hq : ∀ v h1, Q v h1 → isI v → Q' v h1) : ∀ pc, Mo (T5_inmate Q S5_isKind S5_isWithin S5_isRoom S1_add pc) (T5_inmate Q' S5_isKind S5_isWithin S5_isRoom S1_add pc) :=
  Mo_nd (Mo_nd (Mo_nd (Mo_nd (Mo_lf (Mo_id)) (Mo_nd (Mo_lf (Mo_id)) (Mo_lf (Mo_id)))) (Mo_nd (Mo_nd (Mo_lf (Mo_id)) (Mo_lf (Mo_id))) (Mo_nd (Mo_lf (Mo_id)) (Mo_lf (Mo_id))))) (Mo_nd (Mo_nd (Mo_nd (Mo_lf (Mo_id)) (Mo_lf (Mo_id))) (Mo_nd (Mo_lf (Mo_id)) (Mo_lf (Mo_id)))) (Mo_nd (Mo_nd (Mo_lf (Mo_iret hq)) (Mo_lf (Mo_id))) (Mo_nd (Mo_lf (Mo_id)) (Mo_lf (Mo_id)))))) (Mo_nd (Mo_nd (Mo_nd (Mo_nd (Mo_lf (Mo_id)) (Mo_lf (Mo_id))) (Mo_nd (Mo_lf (Mo_id)) (Mo_lf (Mo_iret hq)))) (Mo_nd (Mo_nd (Mo_lf (Mo_id)) (Mo_lf (Mo_id))) (Mo_nd (Mo_lf (Mo_id)) (Mo_lf (Mo_id))))) (Mo_nd (Mo_nd (Mo_nd (Mo_lf (Mo_id)) (Mo_lf (Mo_id))) (Mo_nd (Mo_lf (Mo_id)) (Mo_lf (Mo_id)))) (Mo_nd (Mo_nd (Mo_lf (Mo_id)) (Mo_lf (Mo_id))) (Mo_nd (Mo_lf (Mo_id)) (Mo_lf (Mo_iret hq))))))
theorem cx5_inmate {l : Launch} : Ct l yX5_inmate cX5_inmate 4 (some .int) 1 (Sx S5_inmate) := by
  refine Ct_of (T := fun Q => T5_inmate Q S5_isKind S5_isWithin S5_isRoom S1_add) (by decide) (cl5_inmate ct5_isKind ct5_isWithin ct5_isRoom ct1_add) ?_
  intro av h Q' hS
  obtain ⟨Q, hS, hq⟩ := hS
  unfold S5_inmate at hS
  split at hS
  · exact ⟨Nat.le_of_ble_eq_true rfl, Rn_mo (mo5_inmate hq) (rn5_inmate hS)⟩
  · exact hS.elim
theorem mo5_item {Q Q' : Po} (hq : ∀ v h1, Q v h1 → isI v → Q' v h1) : ∀ pc, Mo (T5_item Q S5_isSheet pc) (T5_item Q' S5_isSheet pc) :=
  Mo_nd (Mo_nd (Mo_nd (Mo_nd (Mo_nd (Mo_lf (Mo_id)) (Mo_lf (Mo_id))) (Mo_nd (Mo_lf (Mo_id)) (Mo_nd (Mo_lf (Mo_id)) (Mo_lf (Mo_id))))) (Mo_nd (Mo_nd (Mo_lf (Mo_id)) (Mo_lf (Mo_id))) (Mo_nd (Mo_lf (Mo_id)) (Mo_nd (Mo_lf (Mo_id)) (Mo_lf (Mo_iret hq)))))) (Mo_nd (Mo_nd (Mo_nd (Mo_lf (Mo_id)) (Mo_lf (Mo_id))) (Mo_nd (Mo_lf (Mo_id)) (Mo_nd (Mo_lf (Mo_id)) (Mo_lf (Mo_id))))) (Mo_nd (Mo_nd (Mo_lf (Mo_id)) (Mo_lf (Mo_id))) (Mo_nd (Mo_lf (Mo_id)) (Mo_nd (Mo_lf (Mo_id)) (Mo_lf (Mo_id))))))) (Mo_nd (Mo_nd (Mo_nd (Mo_nd (Mo_lf (Mo_iret hq)) (Mo_lf (Mo_id))) (Mo_nd (Mo_lf (Mo_id)) (Mo_nd (Mo_lf (Mo_id)) (Mo_lf (Mo_id))))) (Mo_nd (Mo_nd (Mo_lf (Mo_id)) (Mo_lf (Mo_iret hq))) (Mo_nd (Mo_lf (Mo_id)) (Mo_nd (Mo_lf (Mo_id)) (Mo_lf (Mo_id)))))) (Mo_nd (Mo_nd (Mo_nd (Mo_lf (Mo_id)) (Mo_lf (Mo_id))) (Mo_nd (Mo_lf (Mo_id)) (Mo_nd (Mo_lf (Mo_id)) (Mo_lf (Mo_iret hq))))) (Mo_nd (Mo_nd (Mo_lf (Mo_id)) (Mo_lf (Mo_id))) (Mo_nd (Mo_lf (Mo_id)) (Mo_nd (Mo_lf (Mo_id)) (Mo_lf (Mo_iret hq)))))))
theorem cx5_item {l : Launch} : Ct l yX5_item cX5_item 5 (some .int) 1 (Sx S5_item) := by
  refine Ct_of (T := fun Q => T5_item Q S5_isSheet) (by decide) (cl5_item ct5_isSheet) ?_
  intro av h Q' hS
  obtain ⟨Q, hS, hq⟩ := hS
  unfold S5_item at hS
  split at hS
  · exact ⟨Nat.le_of_ble_eq_true rfl, Rn_mo (mo5_item hq) (rn5_item hS)⟩
  · exact hS.elim
theorem mo5_judge {Q Q' : Po} (hq : ∀ v h1, Q v h1 → isI v → Q' v h1) : ∀ pc, Mo (T5_judge Q S1_has S1_copy S1_passOccasions S1_rowPart pc) (T5_judge Q' S1_has S1_copy S1_passOccasions S1_rowPart pc) :=
  Mo_nd (Mo_nd (Mo_nd (Mo_nd (Mo_nd (Mo_lf (Mo_id)) (Mo_nd (Mo_lf (Mo_id)) (Mo_lf (Mo_id)))) (Mo_nd (Mo_lf (Mo_id)) (Mo_nd (Mo_lf (Mo_id)) (Mo_lf (Mo_id))))) (Mo_nd (Mo_nd (Mo_lf (Mo_iret hq)) (Mo_nd (Mo_lf (Mo_id)) (Mo_lf (Mo_id)))) (Mo_nd (Mo_lf (Mo_id)) (Mo_nd (Mo_lf (Mo_id)) (Mo_lf (Mo_id)))))) (Mo_nd (Mo_nd (Mo_nd (Mo_lf (Mo_id)) (Mo_nd (Mo_lf (Mo_id)) (Mo_lf (Mo_id)))) (Mo_nd (Mo_lf (Mo_id)) (Mo_nd (Mo_lf (Mo_id)) (Mo_lf (Mo_id))))) (Mo_nd (Mo_nd (Mo_lf (Mo_id)) (Mo_nd (Mo_lf (Mo_id)) (Mo_lf (Mo_id)))) (Mo_nd (Mo_nd (Mo_lf (Mo_id)) (Mo_lf (Mo_id))) (Mo_nd (Mo_lf (Mo_id)) (Mo_lf (Mo_id))))))) (Mo_nd (Mo_nd (Mo_nd (Mo_nd (Mo_lf (Mo_id)) (Mo_nd (Mo_lf (Mo_id)) (Mo_lf (Mo_id)))) (Mo_nd (Mo_lf (Mo_id)) (Mo_nd (Mo_lf (Mo_id)) (Mo_lf (Mo_id))))) (Mo_nd (Mo_nd (Mo_lf (Mo_id)) (Mo_nd (Mo_lf (Mo_id)) (Mo_lf (Mo_id)))) (Mo_nd (Mo_nd (Mo_lf (Mo_id)) (Mo_lf (Mo_id))) (Mo_nd (Mo_lf (Mo_id)) (Mo_lf (Mo_id)))))) (Mo_nd (Mo_nd (Mo_nd (Mo_lf (Mo_id)) (Mo_nd (Mo_lf (Mo_id)) (Mo_lf (Mo_id)))) (Mo_nd (Mo_lf (Mo_id)) (Mo_nd (Mo_lf (Mo_id)) (Mo_lf (Mo_id))))) (Mo_nd (Mo_nd (Mo_lf (Mo_iret hq)) (Mo_nd (Mo_lf (Mo_id)) (Mo_lf (Mo_id)))) (Mo_nd (Mo_nd (Mo_lf (Mo_id)) (Mo_lf (Mo_id))) (Mo_nd (Mo_lf (Mo_id)) (Mo_lf (Mo_iret hq)))))))
theorem cx5_judge {l : Launch} : Ct l yX5_judge cX5_judge 4 (some .int) 4 (Sx S5_judge) := by
  refine Ct_of (T := fun Q => T5_judge Q S1_has S1_copy S1_passOccasions S1_rowPart) (by decide) (cl5_judge ct1_has ct1_copy ct1_passOccasions ct1_rowPart) ?_
  intro av h Q' hS
  obtain ⟨Q, hS, hq⟩ := hS
  unfold S5_judge at hS
  split at hS
  · exact ⟨Nat.le_of_ble_eq_true rfl, Rn_mo (mo5_judge hq) (rn5_judge hS)⟩
  · exact hS.elim
theorem mo5_keep {Q Q' : Po} (hq : ∀ v h1, Q v h1 → isI v → Q' v h1) : ∀ pc, Mo (T5_keep Q S1_copy pc) (T5_keep Q' S1_copy pc) :=
  Mo_nd (Mo_nd (Mo_nd (Mo_lf (Mo_id)) (Mo_lf (Mo_id))) (Mo_nd (Mo_lf (Mo_id)) (Mo_nd (Mo_lf (Mo_id)) (Mo_lf (Mo_id))))) (Mo_nd (Mo_nd (Mo_lf (Mo_id)) (Mo_lf (Mo_id))) (Mo_nd (Mo_lf (Mo_id)) (Mo_nd (Mo_lf (Mo_id)) (Mo_lf (Mo_iret hq)))))
theorem cx5_keep {l : Launch} : Ct l yX5_keep cX5_keep 1 (some .int) 2 (Sx S5_keep) := by
  refine Ct_of (T := fun Q => T5_keep Q S1_copy) (by decide) (cl5_keep ct1_copy) ?_
  intro av h Q' hS
  obtain ⟨Q, hS, hq⟩ := hS
  unfold S5_keep at hS
  split at hS
  · exact ⟨Nat.le_of_ble_eq_true rfl, Rn_mo (mo5_keep hq) (rn5_keep hS)⟩
  · exact hS.elim
theorem mo5_kindFor {Q Q' : Po} (hq : ∀ v h1, Q v h1 → isI v → Q' v h1) : ∀ pc, Mo (T5_kindFor Q S1_has S1_copy S1_timeTo pc) (T5_kindFor Q' S1_has S1_copy S1_timeTo pc) :=
  Mo_nd (Mo_nd (Mo_nd (Mo_nd (Mo_nd (Mo_lf (Mo_id)) (Mo_lf (Mo_id))) (Mo_nd (Mo_lf (Mo_id)) (Mo_nd (Mo_lf (Mo_id)) (Mo_lf (Mo_id))))) (Mo_nd (Mo_nd (Mo_lf (Mo_id)) (Mo_nd (Mo_lf (Mo_iret hq)) (Mo_lf (Mo_id)))) (Mo_nd (Mo_lf (Mo_id)) (Mo_nd (Mo_lf (Mo_id)) (Mo_lf (Mo_id)))))) (Mo_nd (Mo_nd (Mo_nd (Mo_lf (Mo_id)) (Mo_lf (Mo_id))) (Mo_nd (Mo_lf (Mo_id)) (Mo_nd (Mo_lf (Mo_id)) (Mo_lf (Mo_id))))) (Mo_nd (Mo_nd (Mo_lf (Mo_id)) (Mo_nd (Mo_lf (Mo_id)) (Mo_lf (Mo_id)))) (Mo_nd (Mo_lf (Mo_id)) (Mo_nd (Mo_lf (Mo_id)) (Mo_lf (Mo_id))))))) (Mo_nd (Mo_nd (Mo_nd (Mo_nd (Mo_lf (Mo_id)) (Mo_lf (Mo_id))) (Mo_nd (Mo_lf (Mo_id)) (Mo_nd (Mo_lf (Mo_id)) (Mo_lf (Mo_id))))) (Mo_nd (Mo_nd (Mo_lf (Mo_id)) (Mo_nd (Mo_lf (Mo_id)) (Mo_lf (Mo_id)))) (Mo_nd (Mo_lf (Mo_id)) (Mo_nd (Mo_lf (Mo_id)) (Mo_lf (Mo_id)))))) (Mo_nd (Mo_nd (Mo_nd (Mo_lf (Mo_id)) (Mo_nd (Mo_lf (Mo_id)) (Mo_lf (Mo_id)))) (Mo_nd (Mo_lf (Mo_id)) (Mo_nd (Mo_lf (Mo_id)) (Mo_lf (Mo_id))))) (Mo_nd (Mo_nd (Mo_lf (Mo_id)) (Mo_nd (Mo_lf (Mo_id)) (Mo_lf (Mo_id)))) (Mo_nd (Mo_lf (Mo_id)) (Mo_nd (Mo_lf (Mo_id)) (Mo_lf (Mo_iret hq)))))))
theorem cx5_kindFor {l : Launch} : Ct l yX5_kindFor cX5_kindFor 6 (some .int) 5 (Sx S5_kindFor) := by
  refine Ct_of (T := fun Q => T5_kindFor Q S1_has S1_copy S1_timeTo) (by decide) (cl5_kindFor ct1_has ct1_copy ct1_timeTo) ?_
  intro av h Q' hS
  obtain ⟨Q, hS, hq⟩ := hS
  unfold S5_kindFor at hS
  split at hS
  · exact ⟨Nat.le_of_ble_eq_true rfl, Rn_mo (mo5_kindFor hq) (rn5_kindFor hS)⟩
  · exact hS.elim
theorem mo5_knot {Q Q' : Po} (hq : ∀ v h1, Q v h1 → isI v → Q' v h1) : ∀ pc, Mo (T5_knot Q S1_has S1_ringFrom pc) (T5_knot Q' S1_has S1_ringFrom pc) :=
  Mo_nd (Mo_nd (Mo_nd (Mo_lf (Mo_id)) (Mo_nd (Mo_lf (Mo_id)) (Mo_lf (Mo_id)))) (Mo_nd (Mo_lf (Mo_id)) (Mo_nd (Mo_lf (Mo_id)) (Mo_lf (Mo_id))))) (Mo_nd (Mo_nd (Mo_lf (Mo_id)) (Mo_nd (Mo_lf (Mo_id)) (Mo_lf (Mo_id)))) (Mo_nd (Mo_lf (Mo_id)) (Mo_nd (Mo_lf (Mo_id)) (Mo_lf (Mo_iret hq)))))
theorem cx5_knot {l : Launch} : Ct l yX5_knot cX5_knot 2 (some .int) 2 (Sx S5_knot) := by
  refine Ct_of (T := fun Q => T5_knot Q S1_has S1_ringFrom) (by decide) (cl5_knot ct1_has ct1_ringFrom) ?_
  intro av h Q' hS
  obtain ⟨Q, hS, hq⟩ := hS
  unfold S5_knot at hS
  split at hS
  · exact ⟨Nat.le_of_ble_eq_true rfl, Rn_mo (mo5_knot hq) (rn5_knot hS)⟩
  · exact hS.elim
theorem mo5_lawOf {Q Q' : Po} (hq : ∀ v h1, Q v h1 → isI v → Q' v h1) : ∀ pc, Mo (T5_lawOf Q S5_isLaw pc) (T5_lawOf Q' S5_isLaw pc) :=
  Mo_nd (Mo_nd (Mo_nd (Mo_lf (Mo_id)) (Mo_lf (Mo_id))) (Mo_nd (Mo_lf (Mo_id)) (Mo_nd (Mo_lf (Mo_id)) (Mo_lf (Mo_id))))) (Mo_nd (Mo_nd (Mo_lf (Mo_id)) (Mo_nd (Mo_lf (Mo_id)) (Mo_lf (Mo_id)))) (Mo_nd (Mo_lf (Mo_id)) (Mo_nd (Mo_lf (Mo_id)) (Mo_lf (Mo_iret hq)))))
theorem cx5_lawOf {l : Launch} : Ct l yX5_lawOf cX5_lawOf 2 (some .int) 1 (Sx S5_lawOf) := by
  refine Ct_of (T := fun Q => T5_lawOf Q S5_isLaw) (by decide) (cl5_lawOf ct5_isLaw) ?_
  intro av h Q' hS
  obtain ⟨Q, hS, hq⟩ := hS
  unfold S5_lawOf at hS
  split at hS
  · exact ⟨Nat.le_of_ble_eq_true rfl, Rn_mo (mo5_lawOf hq) (rn5_lawOf hS)⟩
  · exact hS.elim
theorem mo5_leaves {Q Q' : Po} (hq : ∀ v h1, Q v h1 → isI v → Q' v h1) : ∀ pc, Mo (T5_leaves Q S1_has S5_timeNow S5_noneIfLate pc) (T5_leaves Q' S1_has S5_timeNow S5_noneIfLate pc) :=
  Mo_nd (Mo_nd (Mo_nd (Mo_lf (Mo_id)) (Mo_nd (Mo_lf (Mo_id)) (Mo_lf (Mo_id)))) (Mo_nd (Mo_lf (Mo_id)) (Mo_nd (Mo_lf (Mo_id)) (Mo_lf (Mo_id))))) (Mo_nd (Mo_nd (Mo_lf (Mo_iret hq)) (Mo_nd (Mo_lf (Mo_id)) (Mo_lf (Mo_id)))) (Mo_nd (Mo_lf (Mo_id)) (Mo_nd (Mo_lf (Mo_id)) (Mo_lf (Mo_iret hq)))))
theorem cx5_leaves {l : Launch} : Ct l yX5_leaves cX5_leaves 2 (some .int) 6 (Sx S5_leaves) := by
  refine Ct_of (T := fun Q => T5_leaves Q S1_has S5_timeNow S5_noneIfLate) (by decide) (cl5_leaves ct1_has ct5_timeNow ct5_noneIfLate) ?_
  intro av h Q' hS
  obtain ⟨Q, hS, hq⟩ := hS
  unfold S5_leaves at hS
  split at hS
  · exact ⟨Nat.le_of_ble_eq_true rfl, Rn_mo (mo5_leaves hq) (rn5_leaves hS)⟩
  · exact hS.elim
theorem mo5_luck {Q Q' : Po} (hq : ∀ v h1, Q v h1 → isI v → Q' v h1) : ∀ pc, Mo (T5_luck Q S1_copy S1_passOccasions S1_countOut S1_passByDraws pc) (T5_luck Q' S1_copy S1_passOccasions S1_countOut S1_passByDraws pc) :=
  Mo_nd (Mo_nd (Mo_nd (Mo_nd (Mo_nd (Mo_lf (Mo_id)) (Mo_nd (Mo_lf (Mo_id)) (Mo_lf (Mo_id)))) (Mo_nd (Mo_nd (Mo_lf (Mo_id)) (Mo_lf (Mo_id))) (Mo_nd (Mo_lf (Mo_id)) (Mo_lf (Mo_id))))) (Mo_nd (Mo_nd (Mo_lf (Mo_iret hq)) (Mo_nd (Mo_lf (Mo_id)) (Mo_lf (Mo_id)))) (Mo_nd (Mo_nd (Mo_lf (Mo_id)) (Mo_lf (Mo_id))) (Mo_nd (Mo_lf (Mo_id)) (Mo_lf (Mo_id)))))) (Mo_nd (Mo_nd (Mo_nd (Mo_lf (Mo_id)) (Mo_nd (Mo_lf (Mo_id)) (Mo_lf (Mo_id)))) (Mo_nd (Mo_nd (Mo_lf (Mo_id)) (Mo_lf (Mo_id))) (Mo_nd (Mo_lf (Mo_id)) (Mo_lf (Mo_id))))) (Mo_nd (Mo_nd (Mo_nd (Mo_lf (Mo_id)) (Mo_lf (Mo_id))) (Mo_nd (Mo_lf (Mo_id)) (Mo_lf (Mo_id)))) (Mo_nd (Mo_nd (Mo_lf (Mo_id)) (Mo_lf (Mo_id))) (Mo_nd (Mo_lf (Mo_id)) (Mo_lf (Mo_id))))))) (Mo_nd (Mo_nd (Mo_nd (Mo_nd (Mo_lf (Mo_id)) (Mo_nd (Mo_lf (Mo_id)) (Mo_lf (Mo_id)))) (Mo_nd (Mo_nd (Mo_lf (Mo_id)) (Mo_lf (Mo_id))) (Mo_nd (Mo_lf (Mo_id)) (Mo_lf (Mo_id))))) (Mo_nd (Mo_nd (Mo_lf (Mo_id)) (Mo_nd (Mo_lf (Mo_id)) (Mo_lf (Mo_id)))) (Mo_nd (Mo_nd (Mo_lf (Mo_id)) (Mo_lf (Mo_id))) (Mo_nd (Mo_lf (Mo_id)) (Mo_lf (Mo_id)))))) (Mo_nd (Mo_nd (Mo_nd (Mo_lf (Mo_id)) (Mo_nd (Mo_lf (Mo_id)) (Mo_lf (Mo_id)))) (Mo_nd (Mo_nd (Mo_lf (Mo_id)) (Mo_lf (Mo_id))) (Mo_nd (Mo_lf (Mo_id)) (Mo_lf (Mo_id))))) (Mo_nd (Mo_nd (Mo_nd (Mo_lf (Mo_id)) (Mo_lf (Mo_id))) (Mo_nd (Mo_lf (Mo_id)) (Mo_lf (Mo_id)))) (Mo_nd (Mo_nd (Mo_lf (Mo_id)) (Mo_lf (Mo_id))) (Mo_nd (Mo_lf (Mo_id)) (Mo_lf (Mo_iret hq)))))))
theorem cx5_luck {l : Launch} : Ct l yX5_luck cX5_luck 6 (some .int) 5 (Sx S5_luck) := by
  refine Ct_of (T := fun Q => T5_luck Q S1_copy S1_passOccasions S1_countOut S1_passByDraws) (by decide) (cl5_luck ct1_copy ct1_passOccasions ct1_countOut ct1_passByDraws) ?_
  intro av h Q' hS
  obtain ⟨Q, hS, hq⟩ := hS
  unfold S5_luck at hS
  split at hS
  · exact ⟨Nat.le_of_ble_eq_true rfl, Rn_mo (mo5_luck hq) (rn5_luck hS)⟩
  · exact hS.elim
theorem mo5_many {Q Q' : Po} (hq : ∀ v h1, Q v h1 → isI v → Q' v h1) : ∀ pc, Mo (T5_many Q S1_countOut S1_thoseWaiting SJ6_bitCount S1_thoseHeld pc) (T5_many Q' S1_countOut S1_thoseWaiting SJ6_bitCount S1_thoseHeld pc) :=
  Mo_nd (Mo_nd (Mo_nd (Mo_nd (Mo_nd (Mo_lf (Mo_id)) (Mo_lf (Mo_id))) (Mo_nd (Mo_lf (Mo_id)) (Mo_lf (Mo_id)))) (Mo_nd (Mo_nd (Mo_lf (Mo_id)) (Mo_lf (Mo_iret hq))) (Mo_nd (Mo_lf (Mo_id)) (Mo_lf (Mo_id))))) (Mo_nd (Mo_nd (Mo_nd (Mo_lf (Mo_id)) (Mo_lf (Mo_iret hq))) (Mo_nd (Mo_lf (Mo_id)) (Mo_lf (Mo_id)))) (Mo_nd (Mo_nd (Mo_lf (Mo_id)) (Mo_lf (Mo_id))) (Mo_nd (Mo_lf (Mo_iret hq)) (Mo_lf (Mo_id)))))) (Mo_nd (Mo_nd (Mo_nd (Mo_nd (Mo_lf (Mo_id)) (Mo_lf (Mo_id))) (Mo_nd (Mo_lf (Mo_id)) (Mo_lf (Mo_iret hq)))) (Mo_nd (Mo_nd (Mo_lf (Mo_id)) (Mo_lf (Mo_id))) (Mo_nd (Mo_lf (Mo_iret hq)) (Mo_lf (Mo_id))))) (Mo_nd (Mo_nd (Mo_nd (Mo_lf (Mo_id)) (Mo_lf (Mo_id))) (Mo_nd (Mo_lf (Mo_iret hq)) (Mo_lf (Mo_id)))) (Mo_nd (Mo_nd (Mo_lf (Mo_id)) (Mo_lf (Mo_id))) (Mo_nd (Mo_lf (Mo_iret hq)) (Mo_nd (Mo_lf (Mo_id)) (Mo_lf (Mo_iret hq)))))))
theorem cx5_many {l : Launch} : Ct l yX5_many cX5_many 2 (some .int) 3 (Sx S5_many) := by
  refine Ct_of (T := fun Q => T5_many Q S1_countOut S1_thoseWaiting SJ6_bitCount S1_thoseHeld) (by decide) (cl5_many ct1_countOut ct1_thoseWaiting ctJ6_bitCount ct1_thoseHeld) ?_
  intro av h Q' hS
  obtain ⟨Q, hS, hq⟩ := hS
  unfold S5_many at hS
  split at hS
  · exact ⟨Nat.le_of_ble_eq_true rfl, Rn_mo (mo5_many hq) (rn5_many hS)⟩
  · exact hS.elim
theorem mo5_mind {Q Q' : Po} (hq : ∀ v h1, Q v h1 → isI v → Q' v h1) : ∀ pc, Mo (T5_mind Q S1_has S5_isKind pc) (T5_mind Q' S1_has S5_isKind pc) :=
  Mo_nd (Mo_nd (Mo_nd (Mo_nd (Mo_lf (Mo_id)) (Mo_nd (Mo_lf (Mo_id)) (Mo_lf (Mo_id)))) (Mo_nd (Mo_lf (Mo_id)) (Mo_nd (Mo_lf (Mo_id)) (Mo_lf (Mo_id))))) (Mo_nd (Mo_nd (Mo_lf (Mo_id)) (Mo_nd (Mo_lf (Mo_id)) (Mo_lf (Mo_id)))) (Mo_nd (Mo_lf (Mo_iret hq)) (Mo_nd (Mo_lf (Mo_id)) (Mo_lf (Mo_id)))))) (Mo_nd (Mo_nd (Mo_nd (Mo_lf (Mo_id)) (Mo_nd (Mo_lf (Mo_id)) (Mo_lf (Mo_id)))) (Mo_nd (Mo_lf (Mo_id)) (Mo_nd (Mo_lf (Mo_id)) (Mo_lf (Mo_id))))) (Mo_nd (Mo_nd (Mo_lf (Mo_id)) (Mo_nd (Mo_lf (Mo_id)) (Mo_lf (Mo_id)))) (Mo_nd (Mo_lf (Mo_id)) (Mo_nd (Mo_lf (Mo_id)) (Mo_lf (Mo_iret hq))))))
theorem cx5_mind {l : Launch} : Ct l yX5_mind cX5_mind 4 (some .int) 1 (Sx S5_mind) := by
  refine Ct_of (T := fun Q => T5_mind Q S1_has S5_isKind) (by decide) (cl5_mind ct1_has ct5_isKind) ?_
  intro av h Q' hS
  obtain ⟨Q, hS, hq⟩ := hS
  unfold S5_mind at hS
  split at hS
  · exact ⟨Nat.le_of_ble_eq_true rfl, Rn_mo (mo5_mind hq) (rn5_mind hS)⟩
  · exact hS.elim
theorem mo5_minds {Q Q' : Po} (hq : ∀ v h1, Q v h1 → isI v → Q' v h1) : ∀ pc, Mo (T5_minds Q S5_isSheet S1_has S5_isWithin S5_heldGrace pc) (T5_minds Q' S5_isSheet S1_has S5_isWithin S5_heldGrace pc) :=
  Mo_nd (Mo_nd (Mo_nd (Mo_nd (Mo_nd (Mo_nd (Mo_lf (Mo_id)) (Mo_lf (Mo_id))) (Mo_nd (Mo_lf (Mo_id)) (Mo_lf (Mo_id)))) (Mo_nd (Mo_nd (Mo_lf (Mo_id)) (Mo_lf (Mo_id))) (Mo_nd (Mo_lf (Mo_id)) (Mo_nd (Mo_lf (Mo_id)) (Mo_lf (Mo_id)))))) (Mo_nd (Mo_nd (Mo_nd (Mo_lf (Mo_id)) (Mo_lf (Mo_id))) (Mo_nd (Mo_lf (Mo_id)) (Mo_lf (Mo_id)))) (Mo_nd (Mo_nd (Mo_lf (Mo_id)) (Mo_lf (Mo_id))) (Mo_nd (Mo_lf (Mo_id)) (Mo_nd (Mo_lf (Mo_id)) (Mo_lf (Mo_id))))))) (Mo_nd (Mo_nd (Mo_nd (Mo_nd (Mo_lf (Mo_id)) (Mo_lf (Mo_id))) (Mo_nd (Mo_lf (Mo_iret hq)) (Mo_lf (Mo_id)))) (Mo_nd (Mo_nd (Mo_lf (Mo_id)) (Mo_lf (Mo_id))) (Mo_nd (Mo_lf (Mo_id)) (Mo_nd (Mo_lf (Mo_id)) (Mo_lf (Mo_id)))))) (Mo_nd (Mo_nd (Mo_nd (Mo_lf (Mo_id)) (Mo_lf (Mo_id))) (Mo_nd (Mo_lf (Mo_id)) (Mo_nd (Mo_lf (Mo_id)) (Mo_lf (Mo_iret hq))))) (Mo_nd (Mo_nd (Mo_lf (Mo_id)) (Mo_lf (Mo_id))) (Mo_nd (Mo_lf (Mo_id)) (Mo_nd (Mo_lf (Mo_id)) (Mo_lf (Mo_iret hq)))))))) (Mo_nd (Mo_nd (Mo_nd (Mo_nd (Mo_nd (Mo_lf (Mo_id)) (Mo_lf (Mo_id))) (Mo_nd (Mo_lf (Mo_id)) (Mo_lf (Mo_id)))) (Mo_nd (Mo_nd (Mo_lf (Mo_id)) (Mo_lf (Mo_id))) (Mo_nd (Mo_lf (Mo_id)) (Mo_nd (Mo_lf (Mo_id)) (Mo_lf (Mo_id)))))) (Mo_nd (Mo_nd (Mo_nd (Mo_lf (Mo_id)) (Mo_lf (Mo_id))) (Mo_nd (Mo_lf (Mo_id)) (Mo_lf (Mo_id)))) (Mo_nd (Mo_nd (Mo_lf (Mo_iret hq)) (Mo_lf (Mo_id))) (Mo_nd (Mo_lf (Mo_id)) (Mo_nd (Mo_lf (Mo_id)) (Mo_lf (Mo_id))))))) (Mo_nd (Mo_nd (Mo_nd (Mo_nd (Mo_lf (Mo_id)) (Mo_lf (Mo_id))) (Mo_nd (Mo_lf (Mo_id)) (Mo_lf (Mo_id)))) (Mo_nd (Mo_nd (Mo_lf (Mo_id)) (Mo_lf (Mo_id))) (Mo_nd (Mo_lf (Mo_id)) (Mo_nd (Mo_lf (Mo_id)) (Mo_lf (Mo_id)))))) (Mo_nd (Mo_nd (Mo_nd (Mo_lf (Mo_id)) (Mo_lf (Mo_id))) (Mo_nd (Mo_lf (Mo_id)) (Mo_nd (Mo_lf (Mo_id)) (Mo_lf (Mo_id))))) (Mo_nd (Mo_nd (Mo_lf (Mo_id)) (Mo_lf (Mo_id))) (Mo_nd (Mo_lf (Mo_id)) (Mo_nd (Mo_lf (Mo_id)) (Mo_lf (Mo_iret hq))))))))
theorem cx5_minds {l : Launch} : Ct l yX5_minds cX5_minds 7 (some .int) 2 (Sx S5_minds) := by
  refine Ct_of (T := fun Q => T5_minds Q S5_isSheet S1_has S5_isWithin S5_heldGrace) (by decide) (cl5_minds ct5_isSheet ct1_has ct5_isWithin ct5_heldGrace) ?_
  intro av h Q' hS
  obtain ⟨Q, hS, hq⟩ := hS
  unfold S5_minds at hS
  split at hS
  · exact ⟨Nat.le_of_ble_eq_true rfl, Rn_mo (mo5_minds hq) (rn5_minds hS)⟩
  · exact hS.elim
theorem mo5_occasion {Q Q' : Po} (hq : ∀ v h1, Q v h1 → isI v → Q' v h1) : ∀ pc, Mo (T5_occasion Q S1_passByDraws S1_countOut pc) (T5_occasion Q' S1_passByDraws S1_countOut pc) :=
  Mo_nd (Mo_nd (Mo_lf (Mo_id)) (Mo_nd (Mo_lf (Mo_id)) (Mo_lf (Mo_id)))) (Mo_nd (Mo_nd (Mo_lf (Mo_id)) (Mo_lf (Mo_id))) (Mo_nd (Mo_lf (Mo_id)) (Mo_lf (Mo_iret hq))))
theorem cx5_occasion {l : Launch} : Ct l yX5_occasion cX5_occasion 1 (some .int) 5 (Sx S5_occasion) := by
  refine Ct_of (T := fun Q => T5_occasion Q S1_passByDraws S1_countOut) (by decide) (cl5_occasion ct1_passByDraws ct1_countOut) ?_
  intro av h Q' hS
  obtain ⟨Q, hS, hq⟩ := hS
  unfold S5_occasion at hS
  split at hS
  · exact ⟨Nat.le_of_ble_eq_true rfl, Rn_mo (mo5_occasion hq) (rn5_occasion hS)⟩
  · exact hS.elim
theorem mo5_occasions {Q Q' : Po} (hq : ∀ v h1, Q v h1 → isI v → Q' v h1) : ∀ pc, Mo (T5_occasions Q S1_passOccasions S1_countOut pc) (T5_occasions Q' S1_passOccasions S1_countOut pc) :=
  Mo_nd (Mo_nd (Mo_nd (Mo_nd (Mo_lf (Mo_id)) (Mo_lf (Mo_id))) (Mo_nd (Mo_lf (Mo_id)) (Mo_lf (Mo_id)))) (Mo_nd (Mo_nd (Mo_lf (Mo_id)) (Mo_lf (Mo_id))) (Mo_nd (Mo_lf (Mo_id)) (Mo_lf (Mo_iret hq))))) (Mo_nd (Mo_nd (Mo_nd (Mo_lf (Mo_id)) (Mo_lf (Mo_id))) (Mo_nd (Mo_lf (Mo_id)) (Mo_lf (Mo_id)))) (Mo_nd (Mo_nd (Mo_lf (Mo_id)) (Mo_lf (Mo_id))) (Mo_nd (Mo_lf (Mo_id)) (Mo_lf (Mo_iret hq)))))
theorem cx5_occasions {l : Launch} : Ct l yX5_occasions cX5_occasions 2 (some .int) 4 (Sx S5_occasions) := by
  refine Ct_of (T := fun Q => T5_occasions Q S1_passOccasions S1_countOut) (by decide) (cl5_occasions ct1_passOccasions ct1_countOut) ?_
  intro av h Q' hS
  obtain ⟨Q, hS, hq⟩ := hS
  unfold S5_occasions at hS
  split at hS
  · exact ⟨Nat.le_of_ble_eq_true rfl, Rn_mo (mo5_occasions hq) (rn5_occasions hS)⟩
  · exact hS.elim
theorem mo5_odds {Q Q' : Po} (hq : ∀ v h1, Q v h1 → isL v → Q' v h1) : ∀ pc, Mo (T5_odds Q S5_ways S5_partOf pc) (T5_odds Q' S5_ways S5_partOf pc) :=
  Mo_nd (Mo_nd (Mo_nd (Mo_nd (Mo_nd (Mo_lf (Mo_id)) (Mo_nd (Mo_lf (Mo_id)) (Mo_lf (Mo_id)))) (Mo_nd (Mo_nd (Mo_lf (Mo_id)) (Mo_lf (Mo_id))) (Mo_nd (Mo_lf (Mo_id)) (Mo_lf (Mo_id))))) (Mo_nd (Mo_nd (Mo_nd (Mo_lf (Mo_id)) (Mo_lf (Mo_id))) (Mo_nd (Mo_lf (Mo_id)) (Mo_lf (Mo_id)))) (Mo_nd (Mo_nd (Mo_lf (Mo_id)) (Mo_lf (Mo_id))) (Mo_nd (Mo_lf (Mo_id)) (Mo_lf (Mo_id)))))) (Mo_nd (Mo_nd (Mo_nd (Mo_lf (Mo_id)) (Mo_nd (Mo_lf (Mo_lret hq)) (Mo_lf (Mo_id)))) (Mo_nd (Mo_nd (Mo_lf (Mo_id)) (Mo_lf (Mo_id))) (Mo_nd (Mo_lf (Mo_id)) (Mo_lf (Mo_id))))) (Mo_nd (Mo_nd (Mo_nd (Mo_lf (Mo_id)) (Mo_lf (Mo_id))) (Mo_nd (Mo_lf (Mo_id)) (Mo_lf (Mo_id)))) (Mo_nd (Mo_nd (Mo_lf (Mo_id)) (Mo_lf (Mo_id))) (Mo_nd (Mo_lf (Mo_id)) (Mo_lf (Mo_id))))))) (Mo_nd (Mo_nd (Mo_nd (Mo_nd (Mo_lf (Mo_id)) (Mo_nd (Mo_lf (Mo_id)) (Mo_lf (Mo_id)))) (Mo_nd (Mo_nd (Mo_lf (Mo_id)) (Mo_lf (Mo_id))) (Mo_nd (Mo_lf (Mo_id)) (Mo_lf (Mo_id))))) (Mo_nd (Mo_nd (Mo_nd (Mo_lf (Mo_id)) (Mo_lf (Mo_id))) (Mo_nd (Mo_lf (Mo_id)) (Mo_lf (Mo_id)))) (Mo_nd (Mo_nd (Mo_lf (Mo_id)) (Mo_lf (Mo_id))) (Mo_nd (Mo_lf (Mo_id)) (Mo_lf (Mo_id)))))) (Mo_nd (Mo_nd (Mo_nd (Mo_lf (Mo_id)) (Mo_nd (Mo_lf (Mo_id)) (Mo_lf (Mo_id)))) (Mo_nd (Mo_nd (Mo_lf (Mo_id)) (Mo_lf (Mo_id))) (Mo_nd (Mo_lf (Mo_id)) (Mo_lf (Mo_id))))) (Mo_nd (Mo_nd (Mo_nd (Mo_lf (Mo_id)) (Mo_lf (Mo_id))) (Mo_nd (Mo_lf (Mo_id)) (Mo_lf (Mo_id)))) (Mo_nd (Mo_nd (Mo_lf (Mo_id)) (Mo_lf (Mo_id))) (Mo_nd (Mo_lf (Mo_id)) (Mo_lf (Mo_lret hq)))))))
theorem cx5_odds {l : Launch} : Ct l yX5_odds cX5_odds 10 (some .long) 1 (Sl S5_odds) := by
  refine Ct_of (T := fun Q => T5_odds Q S5_ways S5_partOf) (by decide) (cl5_odds ct5_ways ct5_partOf) ?_
  intro av h Q' hS
  obtain ⟨Q, hS, hq⟩ := hS
  unfold S5_odds at hS
  split at hS
  · exact ⟨Nat.le_of_ble_eq_true rfl, Rn_mo (mo5_odds hq) (rn5_odds hS)⟩
  · exact hS.elim
theorem mo5_of {Q Q' : Po} (hq : ∀ v h1, Q v h1 → isI v → Q' v h1) : ∀ pc, Mo (T5_of Q S1_has S1_isHeld pc) (T5_of Q' S1_has S1_isHeld pc) :=
  Mo_nd (Mo_nd (Mo_nd (Mo_nd (Mo_nd (Mo_lf (Mo_id)) (Mo_lf (Mo_id))) (Mo_nd (Mo_lf (Mo_id)) (Mo_nd (Mo_lf (Mo_id)) (Mo_lf (Mo_id))))) (Mo_nd (Mo_nd (Mo_lf (Mo_id)) (Mo_nd (Mo_lf (Mo_iret hq)) (Mo_lf (Mo_id)))) (Mo_nd (Mo_lf (Mo_id)) (Mo_nd (Mo_lf (Mo_id)) (Mo_lf (Mo_id)))))) (Mo_nd (Mo_nd (Mo_nd (Mo_lf (Mo_id)) (Mo_nd (Mo_lf (Mo_id)) (Mo_lf (Mo_id)))) (Mo_nd (Mo_lf (Mo_iret hq)) (Mo_nd (Mo_lf (Mo_id)) (Mo_lf (Mo_id))))) (Mo_nd (Mo_nd (Mo_lf (Mo_id)) (Mo_nd (Mo_lf (Mo_id)) (Mo_lf (Mo_id)))) (Mo_nd (Mo_lf (Mo_iret hq)) (Mo_nd (Mo_lf (Mo_id)) (Mo_lf (Mo_id))))))) (Mo_nd (Mo_nd (Mo_nd (Mo_nd (Mo_lf (Mo_id)) (Mo_lf (Mo_id))) (Mo_nd (Mo_lf (Mo_id)) (Mo_nd (Mo_lf (Mo_iret hq)) (Mo_lf (Mo_id))))) (Mo_nd (Mo_nd (Mo_lf (Mo_id)) (Mo_nd (Mo_lf (Mo_id)) (Mo_lf (Mo_id)))) (Mo_nd (Mo_lf (Mo_id)) (Mo_nd (Mo_lf (Mo_id)) (Mo_lf (Mo_id)))))) (Mo_nd (Mo_nd (Mo_nd (Mo_lf (Mo_iret hq)) (Mo_nd (Mo_lf (Mo_id)) (Mo_lf (Mo_id)))) (Mo_nd (Mo_lf (Mo_id)) (Mo_nd (Mo_lf (Mo_id)) (Mo_lf (Mo_id))))) (Mo_nd (Mo_nd (Mo_lf (Mo_id)) (Mo_nd (Mo_lf (Mo_id)) (Mo_lf (Mo_id)))) (Mo_nd (Mo_lf (Mo_iret hq)) (Mo_nd (Mo_lf (Mo_id)) (Mo_lf (Mo_iret hq)))))))
theorem cx5_of {l : Launch} : Ct l yX5_of cX5_of 3 (some .int) 2 (Sx S5_of) := by
  refine Ct_of (T := fun Q => T5_of Q S1_has S1_isHeld) (by decide) (cl5_of ct1_has ct1_isHeld) ?_
  intro av h Q' hS
  obtain ⟨Q, hS, hq⟩ := hS
  unfold S5_of at hS
  split at hS
  · exact ⟨Nat.le_of_ble_eq_true rfl, Rn_mo (mo5_of hq) (rn5_of hS)⟩
  · exact hS.elim
theorem mo5_passes {Q Q' : Po} (hq : ∀ v h1, Q v h1 → isI v → Q' v h1) : ∀ pc, Mo (T5_passes Q S1_has S5_isRoomOrOut S1_copy S1_timeTo S5_noneIfLate pc) (T5_passes Q' S1_has S5_isRoomOrOut S1_copy S1_timeTo S5_noneIfLate pc) :=
  Mo_nd (Mo_nd (Mo_nd (Mo_nd (Mo_lf (Mo_id)) (Mo_lf (Mo_id))) (Mo_nd (Mo_lf (Mo_id)) (Mo_nd (Mo_lf (Mo_id)) (Mo_lf (Mo_id))))) (Mo_nd (Mo_nd (Mo_lf (Mo_id)) (Mo_nd (Mo_lf (Mo_id)) (Mo_lf (Mo_id)))) (Mo_nd (Mo_lf (Mo_id)) (Mo_nd (Mo_lf (Mo_iret hq)) (Mo_lf (Mo_id)))))) (Mo_nd (Mo_nd (Mo_nd (Mo_lf (Mo_id)) (Mo_nd (Mo_lf (Mo_id)) (Mo_lf (Mo_id)))) (Mo_nd (Mo_lf (Mo_id)) (Mo_nd (Mo_lf (Mo_id)) (Mo_lf (Mo_id))))) (Mo_nd (Mo_nd (Mo_lf (Mo_id)) (Mo_nd (Mo_lf (Mo_id)) (Mo_lf (Mo_id)))) (Mo_nd (Mo_lf (Mo_id)) (Mo_nd (Mo_lf (Mo_id)) (Mo_lf (Mo_iret hq))))))
theorem cx5_passes {l : Launch} : Ct l yX5_passes cX5_passes 3 (some .int) 5 (Sx S5_passes) := by
  refine Ct_of (T := fun Q => T5_passes Q S1_has S5_isRoomOrOut S1_copy S1_timeTo S5_noneIfLate) (by decide) (cl5_passes ct1_has ct5_isRoomOrOut ct1_copy ct1_timeTo ct5_noneIfLate) ?_
  intro av h Q' hS
  obtain ⟨Q, hS, hq⟩ := hS
  unfold S5_passes at hS
  split at hS
  · exact ⟨Nat.le_of_ble_eq_true rfl, Rn_mo (mo5_passes hq) (rn5_passes hS)⟩
  · exact hS.elim
theorem mo5_prove {Q Q' : Po} (hq : ∀ v h1, Q v h1 → isI v → Q' v h1) : ∀ pc, Mo (T5_prove Q S1_has S1_copy S1_passOccasions S1_rowPart pc) (T5_prove Q' S1_has S1_copy S1_passOccasions S1_rowPart pc) :=
  Mo_nd (Mo_nd (Mo_nd (Mo_nd (Mo_nd (Mo_lf (Mo_id)) (Mo_nd (Mo_lf (Mo_id)) (Mo_lf (Mo_id)))) (Mo_nd (Mo_lf (Mo_id)) (Mo_nd (Mo_lf (Mo_id)) (Mo_lf (Mo_id))))) (Mo_nd (Mo_nd (Mo_lf (Mo_id)) (Mo_nd (Mo_lf (Mo_id)) (Mo_lf (Mo_id)))) (Mo_nd (Mo_nd (Mo_lf (Mo_id)) (Mo_lf (Mo_id))) (Mo_nd (Mo_lf (Mo_id)) (Mo_lf (Mo_iret hq)))))) (Mo_nd (Mo_nd (Mo_nd (Mo_lf (Mo_id)) (Mo_nd (Mo_lf (Mo_id)) (Mo_lf (Mo_id)))) (Mo_nd (Mo_nd (Mo_lf (Mo_id)) (Mo_lf (Mo_id))) (Mo_nd (Mo_lf (Mo_id)) (Mo_lf (Mo_id))))) (Mo_nd (Mo_nd (Mo_lf (Mo_id)) (Mo_nd (Mo_lf (Mo_id)) (Mo_lf (Mo_id)))) (Mo_nd (Mo_nd (Mo_lf (Mo_id)) (Mo_lf (Mo_id))) (Mo_nd (Mo_lf (Mo_id)) (Mo_lf (Mo_id))))))) (Mo_nd (Mo_nd (Mo_nd (Mo_nd (Mo_lf (Mo_id)) (Mo_nd (Mo_lf (Mo_id)) (Mo_lf (Mo_id)))) (Mo_nd (Mo_lf (Mo_id)) (Mo_nd (Mo_lf (Mo_id)) (Mo_lf (Mo_id))))) (Mo_nd (Mo_nd (Mo_lf (Mo_id)) (Mo_nd (Mo_lf (Mo_id)) (Mo_lf (Mo_id)))) (Mo_nd (Mo_nd (Mo_lf (Mo_id)) (Mo_lf (Mo_id))) (Mo_nd (Mo_lf (Mo_id)) (Mo_lf (Mo_id)))))) (Mo_nd (Mo_nd (Mo_nd (Mo_lf (Mo_id)) (Mo_nd (Mo_lf (Mo_id)) (Mo_lf (Mo_id)))) (Mo_nd (Mo_nd (Mo_lf (Mo_id)) (Mo_lf (Mo_id))) (Mo_nd (Mo_lf (Mo_id)) (Mo_lf (Mo_id))))) (Mo_nd (Mo_nd (Mo_lf (Mo_id)) (Mo_nd (Mo_lf (Mo_id)) (Mo_lf (Mo_id)))) (Mo_nd (Mo_nd (Mo_lf (Mo_id)) (Mo_lf (Mo_id))) (Mo_nd (Mo_lf (Mo_id)) (Mo_lf (Mo_iret hq)))))))
theorem cx5_prove {l : Launch} : Ct l yX5_prove cX5_prove 5 (some .int) 4 (Sx S5_prove) := by
  refine Ct_of (T := fun Q => T5_prove Q S1_has S1_copy S1_passOccasions S1_rowPart) (by decide) (cl5_prove ct1_has ct1_copy ct1_passOccasions ct1_rowPart) ?_
  intro av h Q' hS
  obtain ⟨Q, hS, hq⟩ := hS
  unfold S5_prove at hS
  split at hS
  · exact ⟨Nat.le_of_ble_eq_true rfl, Rn_mo (mo5_prove hq) (rn5_prove hS)⟩
  · exact hS.elim
theorem mo5_put {Q Q' : Po} (hq : ∀ v h1, Q v h1 → isI v → Q' v h1) : ∀ pc, Mo (T5_put Q S5_isSheet S2_narrowed pc) (T5_put Q' S5_isSheet S2_narrowed pc) :=
  Mo_nd (Mo_nd (Mo_nd (Mo_nd (Mo_nd (Mo_lf (Mo_id)) (Mo_lf (Mo_id))) (Mo_nd (Mo_lf (Mo_id)) (Mo_lf (Mo_id)))) (Mo_nd (Mo_nd (Mo_lf (Mo_iret hq)) (Mo_lf (Mo_id))) (Mo_nd (Mo_lf (Mo_id)) (Mo_lf (Mo_id))))) (Mo_nd (Mo_nd (Mo_nd (Mo_lf (Mo_id)) (Mo_lf (Mo_id))) (Mo_nd (Mo_lf (Mo_id)) (Mo_lf (Mo_id)))) (Mo_nd (Mo_nd (Mo_lf (Mo_id)) (Mo_lf (Mo_id))) (Mo_nd (Mo_lf (Mo_id)) (Mo_lf (Mo_iret hq)))))) (Mo_nd (Mo_nd (Mo_nd (Mo_nd (Mo_lf (Mo_id)) (Mo_lf (Mo_id))) (Mo_nd (Mo_lf (Mo_id)) (Mo_lf (Mo_id)))) (Mo_nd (Mo_nd (Mo_lf (Mo_id)) (Mo_lf (Mo_id))) (Mo_nd (Mo_lf (Mo_id)) (Mo_lf (Mo_iret hq))))) (Mo_nd (Mo_nd (Mo_nd (Mo_lf (Mo_id)) (Mo_lf (Mo_id))) (Mo_nd (Mo_lf (Mo_id)) (Mo_lf (Mo_id)))) (Mo_nd (Mo_nd (Mo_lf (Mo_id)) (Mo_lf (Mo_id))) (Mo_nd (Mo_lf (Mo_id)) (Mo_nd (Mo_lf (Mo_id)) (Mo_lf (Mo_iret hq)))))))
theorem cx5_put {l : Launch} : Ct l yX5_put cX5_put 5 (some .int) 1 (Sx S5_put) := by
  refine Ct_of (T := fun Q => T5_put Q S5_isSheet S2_narrowed) (by decide) (cl5_put ct5_isSheet ct2_narrowed) ?_
  intro av h Q' hS
  obtain ⟨Q, hS, hq⟩ := hS
  unfold S5_put at hS
  split at hS
  · exact ⟨Nat.le_of_ble_eq_true rfl, Rn_mo (mo5_put hq) (rn5_put hS)⟩
  · exact hS.elim
theorem mo5_rite {Q Q' : Po} (hq : ∀ v h1, Q v h1 → isI v → Q' v h1) : ∀ pc, Mo (T5_rite Q S5_isRoom S5_isWithin pc) (T5_rite Q' S5_isRoom S5_isWithin pc) :=
  Mo_nd (Mo_nd (Mo_nd (Mo_nd (Mo_lf (Mo_id)) (Mo_lf (Mo_id))) (Mo_nd (Mo_lf (Mo_id)) (Mo_nd (Mo_lf (Mo_id)) (Mo_lf (Mo_id))))) (Mo_nd (Mo_nd (Mo_lf (Mo_id)) (Mo_nd (Mo_lf (Mo_id)) (Mo_lf (Mo_id)))) (Mo_nd (Mo_lf (Mo_iret hq)) (Mo_nd (Mo_lf (Mo_id)) (Mo_lf (Mo_id)))))) (Mo_nd (Mo_nd (Mo_nd (Mo_lf (Mo_id)) (Mo_nd (Mo_lf (Mo_id)) (Mo_lf (Mo_id)))) (Mo_nd (Mo_lf (Mo_id)) (Mo_nd (Mo_lf (Mo_id)) (Mo_lf (Mo_id))))) (Mo_nd (Mo_nd (Mo_lf (Mo_id)) (Mo_nd (Mo_lf (Mo_id)) (Mo_lf (Mo_id)))) (Mo_nd (Mo_lf (Mo_id)) (Mo_nd (Mo_lf (Mo_id)) (Mo_lf (Mo_iret hq))))))
theorem cx5_rite {l : Launch} : Ct l yX5_rite cX5_rite 4 (some .int) 1 (Sx S5_rite) := by
  refine Ct_of (T := fun Q => T5_rite Q S5_isRoom S5_isWithin) (by decide) (cl5_rite ct5_isRoom ct5_isWithin) ?_
  intro av h Q' hS
  obtain ⟨Q, hS, hq⟩ := hS
  unfold S5_rite at hS
  split at hS
  · exact ⟨Nat.le_of_ble_eq_true rfl, Rn_mo (mo5_rite hq) (rn5_rite hS)⟩
  · exact hS.elim
theorem mo5_riteFor {Q Q' : Po} (hq : ∀ v h1, Q v h1 → isI v → Q' v h1) : ∀ pc, Mo (T5_riteFor Q S1_has S5_timeNow S1_copy S1_timeTo pc) (T5_riteFor Q' S1_has S5_timeNow S1_copy S1_timeTo pc) :=
  Mo_nd (Mo_nd (Mo_nd (Mo_nd (Mo_nd (Mo_lf (Mo_id)) (Mo_lf (Mo_id))) (Mo_nd (Mo_lf (Mo_id)) (Mo_nd (Mo_lf (Mo_id)) (Mo_lf (Mo_id))))) (Mo_nd (Mo_nd (Mo_lf (Mo_id)) (Mo_nd (Mo_lf (Mo_iret hq)) (Mo_lf (Mo_id)))) (Mo_nd (Mo_lf (Mo_id)) (Mo_nd (Mo_lf (Mo_id)) (Mo_lf (Mo_id)))))) (Mo_nd (Mo_nd (Mo_nd (Mo_lf (Mo_id)) (Mo_nd (Mo_lf (Mo_id)) (Mo_lf (Mo_id)))) (Mo_nd (Mo_lf (Mo_id)) (Mo_nd (Mo_lf (Mo_id)) (Mo_lf (Mo_id))))) (Mo_nd (Mo_nd (Mo_lf (Mo_id)) (Mo_nd (Mo_lf (Mo_id)) (Mo_lf (Mo_id)))) (Mo_nd (Mo_lf (Mo_id)) (Mo_nd (Mo_lf (Mo_id)) (Mo_lf (Mo_id))))))) (Mo_nd (Mo_nd (Mo_nd (Mo_nd (Mo_lf (Mo_id)) (Mo_nd (Mo_lf (Mo_id)) (Mo_lf (Mo_id)))) (Mo_nd (Mo_lf (Mo_id)) (Mo_nd (Mo_lf (Mo_id)) (Mo_lf (Mo_id))))) (Mo_nd (Mo_nd (Mo_lf (Mo_id)) (Mo_nd (Mo_lf (Mo_id)) (Mo_lf (Mo_id)))) (Mo_nd (Mo_lf (Mo_id)) (Mo_nd (Mo_lf (Mo_id)) (Mo_lf (Mo_id)))))) (Mo_nd (Mo_nd (Mo_nd (Mo_lf (Mo_id)) (Mo_nd (Mo_lf (Mo_id)) (Mo_lf (Mo_id)))) (Mo_nd (Mo_lf (Mo_id)) (Mo_nd (Mo_lf (Mo_id)) (Mo_lf (Mo_id))))) (Mo_nd (Mo_nd (Mo_lf (Mo_id)) (Mo_nd (Mo_lf (Mo_id)) (Mo_lf (Mo_id)))) (Mo_nd (Mo_lf (Mo_id)) (Mo_nd (Mo_lf (Mo_id)) (Mo_lf (Mo_iret hq)))))))
theorem cx5_riteFor {l : Launch} : Ct l yX5_riteFor cX5_riteFor 6 (some .int) 6 (Sx S5_riteFor) := by
  refine Ct_of (T := fun Q => T5_riteFor Q S1_has S5_timeNow S1_copy S1_timeTo) (by decide) (cl5_riteFor ct1_has ct5_timeNow ct1_copy ct1_timeTo) ?_
  intro av h Q' hS
  obtain ⟨Q, hS, hq⟩ := hS
  unfold S5_riteFor at hS
  split at hS
  · exact ⟨Nat.le_of_ble_eq_true rfl, Rn_mo (mo5_riteFor hq) (rn5_riteFor hS)⟩
  · exact hS.elim
theorem mo5_room {Q Q' : Po} (hq : ∀ v h1, Q v h1 → isI v → Q' v h1) : ∀ pc, Mo (T5_room Q S5_isRoom S1_thoseIn pc) (T5_room Q' S5_isRoom S1_thoseIn pc) :=
  Mo_nd (Mo_nd (Mo_nd (Mo_nd (Mo_lf (Mo_id)) (Mo_lf (Mo_id))) (Mo_nd (Mo_lf (Mo_id)) (Mo_nd (Mo_lf (Mo_id)) (Mo_lf (Mo_iret hq))))) (Mo_nd (Mo_nd (Mo_lf (Mo_id)) (Mo_lf (Mo_id))) (Mo_nd (Mo_lf (Mo_id)) (Mo_nd (Mo_lf (Mo_id)) (Mo_lf (Mo_id)))))) (Mo_nd (Mo_nd (Mo_nd (Mo_lf (Mo_id)) (Mo_lf (Mo_id))) (Mo_nd (Mo_lf (Mo_iret hq)) (Mo_nd (Mo_lf (Mo_id)) (Mo_lf (Mo_id))))) (Mo_nd (Mo_nd (Mo_lf (Mo_id)) (Mo_lf (Mo_id))) (Mo_nd (Mo_lf (Mo_iret hq)) (Mo_nd (Mo_lf (Mo_id)) (Mo_lf (Mo_iret hq))))))
theorem cx5_room {l : Launch} : Ct l yX5_room cX5_room 3 (some .int) 1 (Sx S5_room) := by
  refine Ct_of (T := fun Q => T5_room Q S5_isRoom S1_thoseIn) (by decide) (cl5_room ct5_isRoom ct1_thoseIn) ?_
  intro av h Q' hS
  obtain ⟨Q, hS, hq⟩ := hS
  unfold S5_room at hS
  split at hS
  · exact ⟨Nat.le_of_ble_eq_true rfl, Rn_mo (mo5_room hq) (rn5_room hS)⟩
  · exact hS.elim
theorem mo5_row {Q Q' : Po} (hq : ∀ v h1, Q v h1 → isI v → Q' v h1) : ∀ pc, Mo (T5_row Q S5_isRowPart pc) (T5_row Q' S5_isRowPart pc) :=
  Mo_nd (Mo_nd (Mo_nd (Mo_nd (Mo_lf (Mo_id)) (Mo_lf (Mo_id))) (Mo_nd (Mo_lf (Mo_id)) (Mo_lf (Mo_id)))) (Mo_nd (Mo_nd (Mo_lf (Mo_id)) (Mo_lf (Mo_id))) (Mo_nd (Mo_lf (Mo_id)) (Mo_lf (Mo_id))))) (Mo_nd (Mo_nd (Mo_nd (Mo_lf (Mo_id)) (Mo_lf (Mo_id))) (Mo_nd (Mo_lf (Mo_id)) (Mo_lf (Mo_id)))) (Mo_nd (Mo_nd (Mo_lf (Mo_id)) (Mo_lf (Mo_id))) (Mo_nd (Mo_lf (Mo_id)) (Mo_lf (Mo_iret hq)))))
theorem cx5_row {l : Launch} : Ct l yX5_row cX5_row 3 (some .int) 1 (Sx S5_row) := by
  refine Ct_of (T := fun Q => T5_row Q S5_isRowPart) (by decide) (cl5_row ct5_isRowPart) ?_
  intro av h Q' hS
  obtain ⟨Q, hS, hq⟩ := hS
  unfold S5_row at hS
  split at hS
  · exact ⟨Nat.le_of_ble_eq_true rfl, Rn_mo (mo5_row hq) (rn5_row hS)⟩
  · exact hS.elim
theorem mo5_rudeFor {Q Q' : Po} (hq : ∀ v h1, Q v h1 → isI v → Q' v h1) : ∀ pc, Mo (T5_rudeFor Q S1_has S5_isWithin S1_thoseWaiting SJ6_bitCount S5_isOutIfRude pc) (T5_rudeFor Q' S1_has S5_isWithin S1_thoseWaiting SJ6_bitCount S5_isOutIfRude pc) :=
  Mo_nd (Mo_nd (Mo_nd (Mo_nd (Mo_nd (Mo_lf (Mo_id)) (Mo_nd (Mo_lf (Mo_id)) (Mo_lf (Mo_id)))) (Mo_nd (Mo_lf (Mo_id)) (Mo_nd (Mo_lf (Mo_id)) (Mo_lf (Mo_id))))) (Mo_nd (Mo_nd (Mo_lf (Mo_id)) (Mo_nd (Mo_lf (Mo_id)) (Mo_lf (Mo_id)))) (Mo_nd (Mo_nd (Mo_lf (Mo_id)) (Mo_lf (Mo_iret hq))) (Mo_nd (Mo_lf (Mo_id)) (Mo_lf (Mo_id)))))) (Mo_nd (Mo_nd (Mo_nd (Mo_lf (Mo_id)) (Mo_nd (Mo_lf (Mo_id)) (Mo_lf (Mo_id)))) (Mo_nd (Mo_nd (Mo_lf (Mo_id)) (Mo_lf (Mo_id))) (Mo_nd (Mo_lf (Mo_id)) (Mo_lf (Mo_id))))) (Mo_nd (Mo_nd (Mo_lf (Mo_id)) (Mo_nd (Mo_lf (Mo_id)) (Mo_lf (Mo_id)))) (Mo_nd (Mo_nd (Mo_lf (Mo_id)) (Mo_lf (Mo_id))) (Mo_nd (Mo_lf (Mo_id)) (Mo_lf (Mo_id))))))) (Mo_nd (Mo_nd (Mo_nd (Mo_nd (Mo_lf (Mo_id)) (Mo_nd (Mo_lf (Mo_id)) (Mo_lf (Mo_id)))) (Mo_nd (Mo_nd (Mo_lf (Mo_id)) (Mo_lf (Mo_id))) (Mo_nd (Mo_lf (Mo_id)) (Mo_lf (Mo_id))))) (Mo_nd (Mo_nd (Mo_lf (Mo_id)) (Mo_nd (Mo_lf (Mo_id)) (Mo_lf (Mo_id)))) (Mo_nd (Mo_nd (Mo_lf (Mo_id)) (Mo_lf (Mo_id))) (Mo_nd (Mo_lf (Mo_id)) (Mo_lf (Mo_id)))))) (Mo_nd (Mo_nd (Mo_nd (Mo_lf (Mo_id)) (Mo_nd (Mo_lf (Mo_id)) (Mo_lf (Mo_id)))) (Mo_nd (Mo_nd (Mo_lf (Mo_id)) (Mo_lf (Mo_id))) (Mo_nd (Mo_lf (Mo_id)) (Mo_lf (Mo_id))))) (Mo_nd (Mo_nd (Mo_lf (Mo_iret hq)) (Mo_nd (Mo_lf (Mo_id)) (Mo_lf (Mo_id)))) (Mo_nd (Mo_nd (Mo_lf (Mo_id)) (Mo_lf (Mo_id))) (Mo_nd (Mo_lf (Mo_id)) (Mo_lf (Mo_iret hq)))))))
theorem cx5_rudeFor {l : Launch} : Ct l yX5_rudeFor cX5_rudeFor 7 (some .int) 6 (Sx S5_rudeFor) := by
  refine Ct_of (T := fun Q => T5_rudeFor Q S1_has S5_isWithin S1_thoseWaiting SJ6_bitCount S5_isOutIfRude) (by decide) (cl5_rudeFor ct1_has ct5_isWithin ct1_thoseWaiting ctJ6_bitCount ct5_isOutIfRude) ?_
  intro av h Q' hS
  obtain ⟨Q, hS, hq⟩ := hS
  unfold S5_rudeFor at hS
  split at hS
  · exact ⟨Nat.le_of_ble_eq_true rfl, Rn_mo (mo5_rudeFor hq) (rn5_rudeFor hS)⟩
  · exact hS.elim
theorem mo5_seed {Q Q' : Po} (hq : ∀ v h1, Q v h1 → isI v → Q' v h1) : ∀ pc, Mo (T5_seed Q pc) (T5_seed Q' pc) :=
  Mo_nd (Mo_nd (Mo_nd (Mo_lf (Mo_id)) (Mo_lf (Mo_id))) (Mo_nd (Mo_lf (Mo_id)) (Mo_nd (Mo_lf (Mo_id)) (Mo_lf (Mo_id))))) (Mo_nd (Mo_nd (Mo_lf (Mo_id)) (Mo_lf (Mo_id))) (Mo_nd (Mo_lf (Mo_id)) (Mo_nd (Mo_lf (Mo_id)) (Mo_lf (Mo_iret hq)))))
theorem cx5_seed {l : Launch} : Ct l yX5_seed cX5_seed 3 (some .int) 0 (Sx S5_seed) := by
  refine Ct_of (T := fun Q => T5_seed Q) (by decide) (cl5_seed) ?_
  intro av h Q' hS
  obtain ⟨Q, hS, hq⟩ := hS
  unfold S5_seed at hS
  split at hS
  · exact ⟨Nat.le_of_ble_eq_true rfl, Rn_mo (mo5_seed hq) (rn5_seed hS)⟩
  · exact hS.elim
theorem mo5_set {Q Q' : Po} (hq : ∀ v h1, Q v h1 → isI v → Q' v h1) : ∀ pc, Mo (T5_set Q S5_isLaw S5_isWithin pc) (T5_set Q' S5_isLaw S5_isWithin pc) :=
  Mo_nd (Mo_nd (Mo_nd (Mo_nd (Mo_lf (Mo_id)) (Mo_nd (Mo_lf (Mo_id)) (Mo_lf (Mo_id)))) (Mo_nd (Mo_lf (Mo_id)) (Mo_nd (Mo_lf (Mo_id)) (Mo_lf (Mo_id))))) (Mo_nd (Mo_nd (Mo_lf (Mo_id)) (Mo_nd (Mo_lf (Mo_id)) (Mo_lf (Mo_id)))) (Mo_nd (Mo_lf (Mo_id)) (Mo_nd (Mo_lf (Mo_iret hq)) (Mo_lf (Mo_id)))))) (Mo_nd (Mo_nd (Mo_nd (Mo_lf (Mo_id)) (Mo_nd (Mo_lf (Mo_id)) (Mo_lf (Mo_id)))) (Mo_nd (Mo_lf (Mo_id)) (Mo_nd (Mo_lf (Mo_id)) (Mo_lf (Mo_id))))) (Mo_nd (Mo_nd (Mo_lf (Mo_id)) (Mo_nd (Mo_lf (Mo_id)) (Mo_lf (Mo_id)))) (Mo_nd (Mo_nd (Mo_lf (Mo_id)) (Mo_lf (Mo_id))) (Mo_nd (Mo_lf (Mo_id)) (Mo_lf (Mo_iret hq))))))
theorem cx5_set {l : Launch} : Ct l yX5_set cX5_set 4 (some .int) 1 (Sx S5_set) := by
  refine Ct_of (T := fun Q => T5_set Q S5_isLaw S5_isWithin) (by decide) (cl5_set ct5_isLaw ct5_isWithin) ?_
  intro av h Q' hS
  obtain ⟨Q, hS, hq⟩ := hS
  unfold S5_set at hS
  split at hS
  · exact ⟨Nat.le_of_ble_eq_true rfl, Rn_mo (mo5_set hq) (rn5_set hS)⟩
  · exact hS.elim
theorem mo5_sheet {Q Q' : Po} (hq : ∀ v h1, Q v h1 → isI v → Q' v h1) : ∀ pc, Mo (T5_sheet Q S5_isSheet S2_become pc) (T5_sheet Q' S5_isSheet S2_become pc) :=
  Mo_nd (Mo_nd (Mo_nd (Mo_nd (Mo_nd (Mo_lf (Mo_id)) (Mo_lf (Mo_id))) (Mo_nd (Mo_lf (Mo_id)) (Mo_nd (Mo_lf (Mo_id)) (Mo_lf (Mo_id))))) (Mo_nd (Mo_nd (Mo_lf (Mo_id)) (Mo_lf (Mo_id))) (Mo_nd (Mo_lf (Mo_id)) (Mo_nd (Mo_lf (Mo_id)) (Mo_lf (Mo_id)))))) (Mo_nd (Mo_nd (Mo_nd (Mo_lf (Mo_iret hq)) (Mo_lf (Mo_id))) (Mo_nd (Mo_lf (Mo_id)) (Mo_nd (Mo_lf (Mo_id)) (Mo_lf (Mo_id))))) (Mo_nd (Mo_nd (Mo_lf (Mo_id)) (Mo_lf (Mo_id))) (Mo_nd (Mo_lf (Mo_id)) (Mo_nd (Mo_lf (Mo_id)) (Mo_lf (Mo_id))))))) (Mo_nd (Mo_nd (Mo_nd (Mo_nd (Mo_lf (Mo_id)) (Mo_lf (Mo_id))) (Mo_nd (Mo_lf (Mo_iret hq)) (Mo_nd (Mo_lf (Mo_id)) (Mo_lf (Mo_id))))) (Mo_nd (Mo_nd (Mo_lf (Mo_id)) (Mo_lf (Mo_id))) (Mo_nd (Mo_lf (Mo_iret hq)) (Mo_nd (Mo_lf (Mo_id)) (Mo_lf (Mo_id)))))) (Mo_nd (Mo_nd (Mo_nd (Mo_lf (Mo_id)) (Mo_lf (Mo_iret hq))) (Mo_nd (Mo_lf (Mo_id)) (Mo_nd (Mo_lf (Mo_id)) (Mo_lf (Mo_id))))) (Mo_nd (Mo_nd (Mo_lf (Mo_id)) (Mo_nd (Mo_lf (Mo_id)) (Mo_lf (Mo_id)))) (Mo_nd (Mo_lf (Mo_id)) (Mo_nd (Mo_lf (Mo_id)) (Mo_lf (Mo_iret hq)))))))
theorem cx5_sheet {l : Launch} : Ct l yX5_sheet cX5_sheet 4 (some .int) 1 (Sx S5_sheet) := by
  refine Ct_of (T := fun Q => T5_sheet Q S5_isSheet S2_become) (by decide) (cl5_sheet ct5_isSheet ct2_become) ?_
  intro av h Q' hS
  obtain ⟨Q, hS, hq⟩ := hS
  unfold S5_sheet at hS
  split at hS
  · exact ⟨Nat.le_of_ble_eq_true rfl, Rn_mo (mo5_sheet hq) (rn5_sheet hS)⟩
  · exact hS.elim
theorem mo5_shelf {Q Q' : Po} (hq : ∀ v h1, Q v h1 → isI v → Q' v h1) : ∀ pc, Mo (T5_shelf Q S5_isShelf S1_has S3_holdInmate S5_isSheet S3_holdRow pc) (T5_shelf Q' S5_isShelf S1_has S3_holdInmate S5_isSheet S3_holdRow pc) :=
  Mo_nd (Mo_nd (Mo_nd (Mo_nd (Mo_nd (Mo_lf (Mo_id)) (Mo_lf (Mo_id))) (Mo_nd (Mo_lf (Mo_id)) (Mo_nd (Mo_lf (Mo_id)) (Mo_lf (Mo_iret hq))))) (Mo_nd (Mo_nd (Mo_lf (Mo_id)) (Mo_nd (Mo_lf (Mo_id)) (Mo_lf (Mo_id)))) (Mo_nd (Mo_lf (Mo_id)) (Mo_nd (Mo_lf (Mo_id)) (Mo_lf (Mo_id)))))) (Mo_nd (Mo_nd (Mo_nd (Mo_lf (Mo_id)) (Mo_lf (Mo_id))) (Mo_nd (Mo_lf (Mo_id)) (Mo_nd (Mo_lf (Mo_id)) (Mo_lf (Mo_id))))) (Mo_nd (Mo_nd (Mo_lf (Mo_id)) (Mo_nd (Mo_lf (Mo_id)) (Mo_lf (Mo_iret hq)))) (Mo_nd (Mo_lf (Mo_id)) (Mo_nd (Mo_lf (Mo_id)) (Mo_lf (Mo_id))))))) (Mo_nd (Mo_nd (Mo_nd (Mo_nd (Mo_lf (Mo_id)) (Mo_lf (Mo_iret hq))) (Mo_nd (Mo_lf (Mo_id)) (Mo_nd (Mo_lf (Mo_id)) (Mo_lf (Mo_id))))) (Mo_nd (Mo_nd (Mo_lf (Mo_id)) (Mo_nd (Mo_lf (Mo_iret hq)) (Mo_lf (Mo_id)))) (Mo_nd (Mo_lf (Mo_id)) (Mo_nd (Mo_lf (Mo_id)) (Mo_lf (Mo_id)))))) (Mo_nd (Mo_nd (Mo_nd (Mo_lf (Mo_id)) (Mo_lf (Mo_id))) (Mo_nd (Mo_lf (Mo_id)) (Mo_nd (Mo_lf (Mo_iret hq)) (Mo_lf (Mo_id))))) (Mo_nd (Mo_nd (Mo_lf (Mo_id)) (Mo_nd (Mo_lf (Mo_id)) (Mo_lf (Mo_id)))) (Mo_nd (Mo_lf (Mo_iret hq)) (Mo_nd (Mo_lf (Mo_id)) (Mo_lf (Mo_iret hq)))))))
theorem cx5_shelf {l : Launch} : Ct l yX5_shelf cX5_shelf 5 (some .int) 1 (Sx S5_shelf) := by
  refine Ct_of (T := fun Q => T5_shelf Q S5_isShelf S1_has S3_holdInmate S5_isSheet S3_holdRow) (by decide) (cl5_shelf ct5_isShelf ct1_has ct3_holdInmate ct5_isSheet ct3_holdRow) ?_
  intro av h Q' hS
  obtain ⟨Q, hS, hq⟩ := hS
  unfold S5_shelf at hS
  split at hS
  · exact ⟨Nat.le_of_ble_eq_true rfl, Rn_mo (mo5_shelf hq) (rn5_shelf hS)⟩
  · exact hS.elim
theorem mo5_state {Q Q' : Po} (hq : ∀ v h1, Q v h1 → isI v → Q' v h1) : ∀ pc, Mo (T5_state Q S1_thoseIn S1_thoseHeld S1_allGrace S1_crowd S1_allRites pc) (T5_state Q' S1_thoseIn S1_thoseHeld S1_allGrace S1_crowd S1_allRites pc) :=
  Mo_nd (Mo_nd (Mo_nd (Mo_nd (Mo_lf (Mo_id)) (Mo_nd (Mo_lf (Mo_id)) (Mo_lf (Mo_id)))) (Mo_nd (Mo_nd (Mo_lf (Mo_id)) (Mo_lf (Mo_id))) (Mo_nd (Mo_lf (Mo_iret hq)) (Mo_lf (Mo_id))))) (Mo_nd (Mo_nd (Mo_lf (Mo_id)) (Mo_nd (Mo_lf (Mo_id)) (Mo_lf (Mo_id)))) (Mo_nd (Mo_nd (Mo_lf (Mo_iret hq)) (Mo_lf (Mo_id))) (Mo_nd (Mo_lf (Mo_id)) (Mo_lf (Mo_id)))))) (Mo_nd (Mo_nd (Mo_nd (Mo_lf (Mo_iret hq)) (Mo_nd (Mo_lf (Mo_id)) (Mo_lf (Mo_id)))) (Mo_nd (Mo_nd (Mo_lf (Mo_id)) (Mo_lf (Mo_iret hq))) (Mo_nd (Mo_lf (Mo_id)) (Mo_lf (Mo_id))))) (Mo_nd (Mo_nd (Mo_nd (Mo_lf (Mo_id)) (Mo_lf (Mo_iret hq))) (Mo_nd (Mo_lf (Mo_id)) (Mo_lf (Mo_id)))) (Mo_nd (Mo_nd (Mo_lf (Mo_id)) (Mo_lf (Mo_iret hq))) (Mo_nd (Mo_lf (Mo_id)) (Mo_lf (Mo_iret hq))))))
theorem cx5_state {l : Launch} : Ct l yX5_state cX5_state 2 (some .int) 3 (Sx S5_state) := by
  refine Ct_of (T := fun Q => T5_state Q S1_thoseIn S1_thoseHeld S1_allGrace S1_crowd S1_allRites) (by decide) (cl5_state ct1_thoseIn ct1_thoseHeld ct1_allGrace ct1_crowd ct1_allRites) ?_
  intro av h Q' hS
  obtain ⟨Q, hS, hq⟩ := hS
  unfold S5_state at hS
  split at hS
  · exact ⟨Nat.le_of_ble_eq_true rfl, Rn_mo (mo5_state hq) (rn5_state hS)⟩
  · exact hS.elim
theorem mo5_taken {Q Q' : Po} (hq : ∀ v h1, Q v h1 → isI v → Q' v h1) : ∀ pc, Mo (T5_taken Q S5_isShelf S5_isKind S5_heldBy S5_isUnder pc) (T5_taken Q' S5_isShelf S5_isKind S5_heldBy S5_isUnder pc) :=
  Mo_nd (Mo_nd (Mo_nd (Mo_nd (Mo_nd (Mo_nd (Mo_lf (Mo_id)) (Mo_lf (Mo_id))) (Mo_nd (Mo_lf (Mo_id)) (Mo_lf (Mo_id)))) (Mo_nd (Mo_nd (Mo_lf (Mo_id)) (Mo_lf (Mo_id))) (Mo_nd (Mo_lf (Mo_id)) (Mo_nd (Mo_lf (Mo_id)) (Mo_lf (Mo_id)))))) (Mo_nd (Mo_nd (Mo_nd (Mo_lf (Mo_id)) (Mo_lf (Mo_id))) (Mo_nd (Mo_lf (Mo_id)) (Mo_lf (Mo_id)))) (Mo_nd (Mo_nd (Mo_lf (Mo_id)) (Mo_lf (Mo_id))) (Mo_nd (Mo_lf (Mo_id)) (Mo_nd (Mo_lf (Mo_id)) (Mo_lf (Mo_id))))))) (Mo_nd (Mo_nd (Mo_nd (Mo_nd (Mo_lf (Mo_id)) (Mo_lf (Mo_iret hq))) (Mo_nd (Mo_lf (Mo_id)) (Mo_lf (Mo_id)))) (Mo_nd (Mo_nd (Mo_lf (Mo_id)) (Mo_lf (Mo_id))) (Mo_nd (Mo_lf (Mo_id)) (Mo_nd (Mo_lf (Mo_id)) (Mo_lf (Mo_id)))))) (Mo_nd (Mo_nd (Mo_nd (Mo_lf (Mo_id)) (Mo_lf (Mo_id))) (Mo_nd (Mo_lf (Mo_id)) (Mo_lf (Mo_id)))) (Mo_nd (Mo_nd (Mo_lf (Mo_id)) (Mo_lf (Mo_id))) (Mo_nd (Mo_lf (Mo_iret hq)) (Mo_nd (Mo_lf (Mo_id)) (Mo_lf (Mo_id)))))))) (Mo_nd (Mo_nd (Mo_nd (Mo_nd (Mo_nd (Mo_lf (Mo_id)) (Mo_lf (Mo_id))) (Mo_nd (Mo_lf (Mo_id)) (Mo_lf (Mo_id)))) (Mo_nd (Mo_nd (Mo_lf (Mo_id)) (Mo_lf (Mo_id))) (Mo_nd (Mo_lf (Mo_id)) (Mo_nd (Mo_lf (Mo_id)) (Mo_lf (Mo_id)))))) (Mo_nd (Mo_nd (Mo_nd (Mo_lf (Mo_id)) (Mo_lf (Mo_id))) (Mo_nd (Mo_lf (Mo_id)) (Mo_lf (Mo_id)))) (Mo_nd (Mo_nd (Mo_lf (Mo_iret hq)) (Mo_lf (Mo_id))) (Mo_nd (Mo_lf (Mo_id)) (Mo_nd (Mo_lf (Mo_id)) (Mo_lf (Mo_id))))))) (Mo_nd (Mo_nd (Mo_nd (Mo_nd (Mo_lf (Mo_id)) (Mo_lf (Mo_id))) (Mo_nd (Mo_lf (Mo_id)) (Mo_lf (Mo_id)))) (Mo_nd (Mo_nd (Mo_lf (Mo_id)) (Mo_lf (Mo_id))) (Mo_nd (Mo_lf (Mo_id)) (Mo_nd (Mo_lf (Mo_id)) (Mo_lf (Mo_id)))))) (Mo_nd (Mo_nd (Mo_nd (Mo_lf (Mo_id)) (Mo_lf (Mo_id))) (Mo_nd (Mo_lf (Mo_id)) (Mo_lf (Mo_id)))) (Mo_nd (Mo_nd (Mo_lf (Mo_id)) (Mo_lf (Mo_id))) (Mo_nd (Mo_lf (Mo_id)) (Mo_nd (Mo_lf (Mo_id)) (Mo_lf (Mo_iret hq))))))))
theorem cx5_taken {l : Launch} : Ct l yX5_taken cX5_taken 7 (some .int) 2 (Sx S5_taken) := by
  refine Ct_of (T := fun Q => T5_taken Q S5_isShelf S5_isKind S5_heldBy S5_isUnder) (by decide) (cl5_taken ct5_isShelf ct5_isKind ct5_heldBy ct5_isUnder) ?_
  intro av h Q' hS
  obtain ⟨Q, hS, hq⟩ := hS
  unfold S5_taken at hS
  split at hS
  · exact ⟨Nat.le_of_ble_eq_true rfl, Rn_mo (mo5_taken hq) (rn5_taken hS)⟩
  · exact hS.elim
theorem mo5_trace {Q Q' : Po} (hq : ∀ v h1, Q v h1 → isI v → Q' v h1) : ∀ pc, Mo (T5_trace Q pc) (T5_trace Q' pc) :=
  Mo_nd (Mo_nd (Mo_nd (Mo_lf (Mo_id)) (Mo_nd (Mo_lf (Mo_id)) (Mo_lf (Mo_id)))) (Mo_nd (Mo_nd (Mo_lf (Mo_id)) (Mo_lf (Mo_id))) (Mo_nd (Mo_lf (Mo_id)) (Mo_lf (Mo_id))))) (Mo_nd (Mo_nd (Mo_nd (Mo_lf (Mo_id)) (Mo_lf (Mo_id))) (Mo_nd (Mo_lf (Mo_id)) (Mo_lf (Mo_id)))) (Mo_nd (Mo_nd (Mo_lf (Mo_id)) (Mo_lf (Mo_id))) (Mo_nd (Mo_lf (Mo_id)) (Mo_lf (Mo_iret hq)))))
theorem cx5_trace {l : Launch} : Ct l yX5_trace cX5_trace 2 (some .int) 0 (Sx S5_trace) := by
  refine Ct_of (T := fun Q => T5_trace Q) (by decide) (cl5_trace) ?_
  intro av h Q' hS
  obtain ⟨Q, hS, hq⟩ := hS
  unfold S5_trace at hS
  split at hS
  · exact ⟨Nat.le_of_ble_eq_true rfl, Rn_mo (mo5_trace hq) (rn5_trace hS)⟩
  · exact hS.elim
theorem mo5_where {Q Q' : Po} (hq : ∀ v h1, Q v h1 → isI v → Q' v h1) : ∀ pc, Mo (T5_where Q S1_has S5_isWithin S1_copy S1_passOccasions pc) (T5_where Q' S1_has S5_isWithin S1_copy S1_passOccasions pc) :=
  Mo_nd (Mo_nd (Mo_nd (Mo_nd (Mo_lf (Mo_id)) (Mo_nd (Mo_lf (Mo_id)) (Mo_lf (Mo_id)))) (Mo_nd (Mo_lf (Mo_id)) (Mo_nd (Mo_lf (Mo_id)) (Mo_lf (Mo_id))))) (Mo_nd (Mo_nd (Mo_lf (Mo_id)) (Mo_nd (Mo_lf (Mo_id)) (Mo_lf (Mo_id)))) (Mo_nd (Mo_nd (Mo_lf (Mo_id)) (Mo_lf (Mo_iret hq))) (Mo_nd (Mo_lf (Mo_id)) (Mo_lf (Mo_id)))))) (Mo_nd (Mo_nd (Mo_nd (Mo_lf (Mo_id)) (Mo_nd (Mo_lf (Mo_id)) (Mo_lf (Mo_id)))) (Mo_nd (Mo_lf (Mo_id)) (Mo_nd (Mo_lf (Mo_id)) (Mo_lf (Mo_id))))) (Mo_nd (Mo_nd (Mo_lf (Mo_id)) (Mo_nd (Mo_lf (Mo_id)) (Mo_lf (Mo_id)))) (Mo_nd (Mo_nd (Mo_lf (Mo_id)) (Mo_lf (Mo_id))) (Mo_nd (Mo_lf (Mo_id)) (Mo_lf (Mo_iret hq))))))
theorem cx5_where {l : Launch} : Ct l yX5_where cX5_where 3 (some .int) 4 (Sx S5_where) := by
  refine Ct_of (T := fun Q => T5_where Q S1_has S5_isWithin S1_copy S1_passOccasions) (by decide) (cl5_where ct1_has ct5_isWithin ct1_copy ct1_passOccasions) ?_
  intro av h Q' hS
  obtain ⟨Q, hS, hq⟩ := hS
  unfold S5_where at hS
  split at hS
  · exact ⟨Nat.le_of_ble_eq_true rfl, Rn_mo (mo5_where hq) (rn5_where hS)⟩
  · exact hS.elim
theorem mo6_act {Q Q' : Po} (hq : ∀ v h1, Q v h1 → isI v → Q' v h1) : ∀ pc, Mo (T6_act Q S6_isShelf S6_isIn S6_heldOn S6_its S6_bows S6_thanks S6_parts S6_leavesBy pc) (T6_act Q' S6_isShelf S6_isIn S6_heldOn S6_its S6_bows S6_thanks S6_parts S6_leavesBy pc) :=
  Mo_nd (Mo_nd (Mo_nd (Mo_nd (Mo_nd (Mo_nd (Mo_lf (Mo_id)) (Mo_lf (Mo_id))) (Mo_nd (Mo_lf (Mo_id)) (Mo_lf (Mo_id)))) (Mo_nd (Mo_nd (Mo_lf (Mo_id)) (Mo_lf (Mo_id))) (Mo_nd (Mo_lf (Mo_id)) (Mo_nd (Mo_lf (Mo_id)) (Mo_lf (Mo_id)))))) (Mo_nd (Mo_nd (Mo_nd (Mo_lf (Mo_id)) (Mo_lf (Mo_id))) (Mo_nd (Mo_lf (Mo_id)) (Mo_nd (Mo_lf (Mo_id)) (Mo_lf (Mo_id))))) (Mo_nd (Mo_nd (Mo_lf (Mo_id)) (Mo_lf (Mo_id))) (Mo_nd (Mo_lf (Mo_id)) (Mo_nd (Mo_lf (Mo_id)) (Mo_lf (Mo_iret hq))))))) (Mo_nd (Mo_nd (Mo_nd (Mo_nd (Mo_lf (Mo_id)) (Mo_lf (Mo_id))) (Mo_nd (Mo_lf (Mo_id)) (Mo_lf (Mo_id)))) (Mo_nd (Mo_nd (Mo_lf (Mo_id)) (Mo_lf (Mo_id))) (Mo_nd (Mo_lf (Mo_id)) (Mo_nd (Mo_lf (Mo_id)) (Mo_lf (Mo_id)))))) (Mo_nd (Mo_nd (Mo_nd (Mo_lf (Mo_id)) (Mo_lf (Mo_id))) (Mo_nd (Mo_lf (Mo_id)) (Mo_nd (Mo_lf (Mo_id)) (Mo_lf (Mo_id))))) (Mo_nd (Mo_nd (Mo_lf (Mo_id)) (Mo_lf (Mo_id))) (Mo_nd (Mo_lf (Mo_id)) (Mo_nd (Mo_lf (Mo_id)) (Mo_lf (Mo_id)))))))) (Mo_nd (Mo_nd (Mo_nd (Mo_nd (Mo_nd (Mo_lf (Mo_id)) (Mo_lf (Mo_id))) (Mo_nd (Mo_lf (Mo_id)) (Mo_lf (Mo_id)))) (Mo_nd (Mo_nd (Mo_lf (Mo_id)) (Mo_lf (Mo_id))) (Mo_nd (Mo_lf (Mo_id)) (Mo_nd (Mo_lf (Mo_id)) (Mo_lf (Mo_id)))))) (Mo_nd (Mo_nd (Mo_nd (Mo_lf (Mo_id)) (Mo_lf (Mo_id))) (Mo_nd (Mo_lf (Mo_id)) (Mo_nd (Mo_lf (Mo_id)) (Mo_lf (Mo_id))))) (Mo_nd (Mo_nd (Mo_lf (Mo_id)) (Mo_lf (Mo_id))) (Mo_nd (Mo_lf (Mo_id)) (Mo_nd (Mo_lf (Mo_id)) (Mo_lf (Mo_id))))))) (Mo_nd (Mo_nd (Mo_nd (Mo_nd (Mo_lf (Mo_id)) (Mo_lf (Mo_id))) (Mo_nd (Mo_lf (Mo_id)) (Mo_nd (Mo_lf (Mo_id)) (Mo_lf (Mo_id))))) (Mo_nd (Mo_nd (Mo_lf (Mo_id)) (Mo_lf (Mo_id))) (Mo_nd (Mo_lf (Mo_id)) (Mo_nd (Mo_lf (Mo_id)) (Mo_lf (Mo_id)))))) (Mo_nd (Mo_nd (Mo_nd (Mo_lf (Mo_id)) (Mo_lf (Mo_id))) (Mo_nd (Mo_lf (Mo_id)) (Mo_nd (Mo_lf (Mo_id)) (Mo_lf (Mo_id))))) (Mo_nd (Mo_nd (Mo_lf (Mo_id)) (Mo_lf (Mo_id))) (Mo_nd (Mo_lf (Mo_id)) (Mo_nd (Mo_lf (Mo_id)) (Mo_lf (Mo_iret hq))))))))
theorem cx6_act {l : Launch} : Ct l yX6_act cX6_act 5 (some .int) 8 (Sx S6_act) := by
  refine Ct_of (T := fun Q => T6_act Q S6_isShelf S6_isIn S6_heldOn S6_its S6_bows S6_thanks S6_parts S6_leavesBy) (by decide) (cl6_act ct6_isShelf ct6_isIn ct6_heldOn ct6_its ct6_bows ct6_thanks ct6_parts ct6_leavesBy) ?_
  intro av h Q' hS
  obtain ⟨Q, hS, hq⟩ := hS
  unfold S6_act at hS
  split at hS
  · exact ⟨Nat.le_of_ble_eq_true rfl, Rn_mo (mo6_act hq) (rn6_act hS)⟩
  · exact hS.elim
theorem mo6_again {Q Q' : Po} (hq : ∀ v h1, Q v h1 → isI v → Q' v h1) : ∀ pc, Mo (T6_again Q pc) (T6_again Q' pc) :=
  Mo_nd (Mo_nd (Mo_nd (Mo_nd (Mo_lf (Mo_id)) (Mo_nd (Mo_lf (Mo_id)) (Mo_lf (Mo_id)))) (Mo_nd (Mo_lf (Mo_id)) (Mo_nd (Mo_lf (Mo_iret hq)) (Mo_lf (Mo_id))))) (Mo_nd (Mo_nd (Mo_lf (Mo_id)) (Mo_nd (Mo_lf (Mo_id)) (Mo_lf (Mo_id)))) (Mo_nd (Mo_lf (Mo_id)) (Mo_nd (Mo_lf (Mo_id)) (Mo_lf (Mo_id)))))) (Mo_nd (Mo_nd (Mo_nd (Mo_lf (Mo_id)) (Mo_nd (Mo_lf (Mo_id)) (Mo_lf (Mo_id)))) (Mo_nd (Mo_lf (Mo_id)) (Mo_nd (Mo_lf (Mo_id)) (Mo_lf (Mo_id))))) (Mo_nd (Mo_nd (Mo_lf (Mo_id)) (Mo_nd (Mo_lf (Mo_id)) (Mo_lf (Mo_id)))) (Mo_nd (Mo_nd (Mo_lf (Mo_id)) (Mo_lf (Mo_id))) (Mo_nd (Mo_lf (Mo_id)) (Mo_lf (Mo_iret hq))))))
theorem cx6_again {l : Launch} : Ct l yX6_again cX6_again 2 (some .int) 0 (Sx S6_again) := by
  refine Ct_of (T := fun Q => T6_again Q) (by decide) (cl6_again) ?_
  intro av h Q' hS
  obtain ⟨Q, hS, hq⟩ := hS
  unfold S6_again at hS
  split at hS
  · exact ⟨Nat.le_of_ble_eq_true rfl, Rn_mo (mo6_again hq) (rn6_again hS)⟩
  · exact hS.elim
theorem mo6_alterRow {Q Q' : Po} (hq : ∀ v h1, Q v h1 → isI v → Q' v h1) : ∀ pc, Mo (T6_alterRow Q S6_isRow pc) (T6_alterRow Q' S6_isRow pc) :=
  Mo_nd (Mo_nd (Mo_nd (Mo_nd (Mo_lf (Mo_id)) (Mo_nd (Mo_lf (Mo_id)) (Mo_lf (Mo_id)))) (Mo_nd (Mo_lf (Mo_id)) (Mo_nd (Mo_lf (Mo_id)) (Mo_lf (Mo_id))))) (Mo_nd (Mo_nd (Mo_lf (Mo_iret hq)) (Mo_nd (Mo_lf (Mo_id)) (Mo_lf (Mo_id)))) (Mo_nd (Mo_nd (Mo_lf (Mo_id)) (Mo_lf (Mo_id))) (Mo_nd (Mo_lf (Mo_id)) (Mo_lf (Mo_id)))))) (Mo_nd (Mo_nd (Mo_nd (Mo_lf (Mo_id)) (Mo_nd (Mo_lf (Mo_id)) (Mo_lf (Mo_id)))) (Mo_nd (Mo_nd (Mo_lf (Mo_id)) (Mo_lf (Mo_id))) (Mo_nd (Mo_lf (Mo_id)) (Mo_lf (Mo_id))))) (Mo_nd (Mo_nd (Mo_lf (Mo_id)) (Mo_nd (Mo_lf (Mo_id)) (Mo_lf (Mo_id)))) (Mo_nd (Mo_nd (Mo_lf (Mo_id)) (Mo_lf (Mo_id))) (Mo_nd (Mo_lf (Mo_id)) (Mo_lf (Mo_iret hq))))))
theorem cx6_alterRow {l : Launch} : Ct l yX6_alterRow cX6_alterRow 5 (some .int) 2 (Sx S6_alterRow) := by
  refine Ct_of (T := fun Q => T6_alterRow Q S6_isRow) (by decide) (cl6_alterRow ct6_isRow) ?_
  intro av h Q' hS
  obtain ⟨Q, hS, hq⟩ := hS
  unfold S6_alterRow at hS
  split at hS
  · exact ⟨Nat.le_of_ble_eq_true rfl, Rn_mo (mo6_alterRow hq) (rn6_alterRow hS)⟩
  · exact hS.elim
theorem mo6_await {Q Q' : Po} (hq : ∀ v h1, Q v h1 → isI v → Q' v h1) : ∀ pc, Mo (T6_await Q S6_isOne S6_becomes pc) (T6_await Q' S6_isOne S6_becomes pc) :=
  Mo_nd (Mo_nd (Mo_nd (Mo_nd (Mo_nd (Mo_lf (Mo_id)) (Mo_lf (Mo_id))) (Mo_nd (Mo_lf (Mo_id)) (Mo_lf (Mo_id)))) (Mo_nd (Mo_nd (Mo_lf (Mo_id)) (Mo_lf (Mo_id))) (Mo_nd (Mo_lf (Mo_id)) (Mo_lf (Mo_id))))) (Mo_nd (Mo_nd (Mo_nd (Mo_lf (Mo_id)) (Mo_lf (Mo_id))) (Mo_nd (Mo_lf (Mo_id)) (Mo_lf (Mo_id)))) (Mo_nd (Mo_nd (Mo_lf (Mo_iret hq)) (Mo_lf (Mo_id))) (Mo_nd (Mo_lf (Mo_id)) (Mo_lf (Mo_id)))))) (Mo_nd (Mo_nd (Mo_nd (Mo_nd (Mo_lf (Mo_id)) (Mo_lf (Mo_id))) (Mo_nd (Mo_lf (Mo_id)) (Mo_lf (Mo_id)))) (Mo_nd (Mo_nd (Mo_lf (Mo_id)) (Mo_lf (Mo_id))) (Mo_nd (Mo_lf (Mo_id)) (Mo_lf (Mo_id))))) (Mo_nd (Mo_nd (Mo_nd (Mo_lf (Mo_id)) (Mo_lf (Mo_id))) (Mo_nd (Mo_lf (Mo_id)) (Mo_lf (Mo_id)))) (Mo_nd (Mo_nd (Mo_lf (Mo_id)) (Mo_lf (Mo_id))) (Mo_nd (Mo_lf (Mo_id)) (Mo_nd (Mo_lf (Mo_id)) (Mo_lf (Mo_iret hq)))))))
theorem cx6_await {l : Launch} : Ct l yX6_await cX6_await 3 (some .int) 1 (Sx S6_await) := by
  refine Ct_of (T := fun Q => T6_await Q S6_isOne S6_becomes) (by decide) (cl6_await ct6_isOne ct6_becomes) ?_
  intro av h Q' hS
  obtain ⟨Q, hS, hq⟩ := hS
  unfold S6_await at hS
  split at hS
  · exact ⟨Nat.le_of_ble_eq_true rfl, Rn_mo (mo6_await hq) (rn6_await hS)⟩
  · exact hS.elim
theorem mo6_bring {Q Q' : Po} (hq : ∀ v h1, Q v h1 → isI v → Q' v h1) : ∀ pc, Mo (T6_bring Q S6_isOne S6_isIn S6_becomes pc) (T6_bring Q' S6_isOne S6_isIn S6_becomes pc) :=
  Mo_nd (Mo_nd (Mo_nd (Mo_nd (Mo_lf (Mo_id)) (Mo_lf (Mo_id))) (Mo_nd (Mo_lf (Mo_id)) (Mo_nd (Mo_lf (Mo_id)) (Mo_lf (Mo_id))))) (Mo_nd (Mo_nd (Mo_lf (Mo_id)) (Mo_nd (Mo_lf (Mo_id)) (Mo_lf (Mo_id)))) (Mo_nd (Mo_lf (Mo_id)) (Mo_nd (Mo_lf (Mo_id)) (Mo_lf (Mo_id)))))) (Mo_nd (Mo_nd (Mo_nd (Mo_lf (Mo_id)) (Mo_nd (Mo_lf (Mo_id)) (Mo_lf (Mo_id)))) (Mo_nd (Mo_lf (Mo_id)) (Mo_nd (Mo_lf (Mo_id)) (Mo_lf (Mo_id))))) (Mo_nd (Mo_nd (Mo_lf (Mo_id)) (Mo_nd (Mo_lf (Mo_id)) (Mo_lf (Mo_id)))) (Mo_nd (Mo_lf (Mo_id)) (Mo_nd (Mo_lf (Mo_id)) (Mo_lf (Mo_iret hq))))))
theorem cx6_bring {l : Launch} : Ct l yX6_bring cX6_bring 3 (some .int) 1 (Sx S6_bring) := by
  refine Ct_of (T := fun Q => T6_bring Q S6_isOne S6_isIn S6_becomes) (by decide) (cl6_bring ct6_isOne ct6_isIn ct6_becomes) ?_
  intro av h Q' hS
  obtain ⟨Q, hS, hq⟩ := hS
  unfold S6_bring at hS
  split at hS
  · exact ⟨Nat.le_of_ble_eq_true rfl, Rn_mo (mo6_bring hq) (rn6_bring hS)⟩
  · exact hS.elim
theorem mo6_does {Q Q' : Po} (hq : ∀ v h1, Q v h1 → isI v → Q' v h1) : ∀ pc, Mo (T6_does Q S6_isOne S6_isIn S6_isOut S6_needsOf S6_paysOf S6_gainsOf pc) (T6_does Q' S6_isOne S6_isIn S6_isOut S6_needsOf S6_paysOf S6_gainsOf pc) :=
  Mo_nd (Mo_nd (Mo_nd (Mo_nd (Mo_nd (Mo_lf (Mo_id)) (Mo_lf (Mo_id))) (Mo_nd (Mo_lf (Mo_id)) (Mo_lf (Mo_id)))) (Mo_nd (Mo_nd (Mo_lf (Mo_id)) (Mo_lf (Mo_id))) (Mo_nd (Mo_lf (Mo_id)) (Mo_nd (Mo_lf (Mo_id)) (Mo_lf (Mo_id)))))) (Mo_nd (Mo_nd (Mo_nd (Mo_lf (Mo_id)) (Mo_lf (Mo_id))) (Mo_nd (Mo_lf (Mo_iret hq)) (Mo_nd (Mo_lf (Mo_id)) (Mo_lf (Mo_id))))) (Mo_nd (Mo_nd (Mo_lf (Mo_id)) (Mo_lf (Mo_id))) (Mo_nd (Mo_lf (Mo_id)) (Mo_nd (Mo_lf (Mo_id)) (Mo_lf (Mo_id))))))) (Mo_nd (Mo_nd (Mo_nd (Mo_nd (Mo_lf (Mo_iret hq)) (Mo_lf (Mo_id))) (Mo_nd (Mo_lf (Mo_id)) (Mo_nd (Mo_lf (Mo_id)) (Mo_lf (Mo_id))))) (Mo_nd (Mo_nd (Mo_lf (Mo_id)) (Mo_lf (Mo_id))) (Mo_nd (Mo_lf (Mo_id)) (Mo_nd (Mo_lf (Mo_id)) (Mo_lf (Mo_id)))))) (Mo_nd (Mo_nd (Mo_nd (Mo_lf (Mo_id)) (Mo_lf (Mo_id))) (Mo_nd (Mo_lf (Mo_id)) (Mo_nd (Mo_lf (Mo_id)) (Mo_lf (Mo_id))))) (Mo_nd (Mo_nd (Mo_lf (Mo_id)) (Mo_lf (Mo_id))) (Mo_nd (Mo_lf (Mo_id)) (Mo_nd (Mo_lf (Mo_id)) (Mo_lf (Mo_iret hq)))))))
theorem cx6_does {l : Launch} : Ct l yX6_does cX6_does 3 (some .int) 3 (Sx S6_does) := by
  refine Ct_of (T := fun Q => T6_does Q S6_isOne S6_isIn S6_isOut S6_needsOf S6_paysOf S6_gainsOf) (by decide) (cl6_does ct6_isOne ct6_isIn ct6_isOut ct6_needsOf ct6_paysOf ct6_gainsOf) ?_
  intro av h Q' hS
  obtain ⟨Q, hS, hq⟩ := hS
  unfold S6_does at hS
  split at hS
  · exact ⟨Nat.le_of_ble_eq_true rfl, Rn_mo (mo6_does hq) (rn6_does hS)⟩
  · exact hS.elim
theorem mo6_empty {Q Q' : Po} (hq : ∀ v h1, Q v h1 → isI v → Q' v h1) : ∀ pc, Mo (T6_empty Q S6_copyRow S6_thoseIn S6_size S6_goesOn S6_orNone pc) (T6_empty Q' S6_copyRow S6_thoseIn S6_size S6_goesOn S6_orNone pc) :=
  Mo_nd (Mo_nd (Mo_nd (Mo_nd (Mo_lf (Mo_id)) (Mo_nd (Mo_lf (Mo_id)) (Mo_lf (Mo_id)))) (Mo_nd (Mo_nd (Mo_lf (Mo_id)) (Mo_lf (Mo_id))) (Mo_nd (Mo_lf (Mo_id)) (Mo_lf (Mo_id))))) (Mo_nd (Mo_nd (Mo_nd (Mo_lf (Mo_id)) (Mo_lf (Mo_id))) (Mo_nd (Mo_lf (Mo_id)) (Mo_lf (Mo_id)))) (Mo_nd (Mo_nd (Mo_lf (Mo_id)) (Mo_lf (Mo_id))) (Mo_nd (Mo_lf (Mo_id)) (Mo_lf (Mo_id)))))) (Mo_nd (Mo_nd (Mo_nd (Mo_nd (Mo_lf (Mo_id)) (Mo_lf (Mo_id))) (Mo_nd (Mo_lf (Mo_id)) (Mo_lf (Mo_id)))) (Mo_nd (Mo_nd (Mo_lf (Mo_id)) (Mo_lf (Mo_id))) (Mo_nd (Mo_lf (Mo_id)) (Mo_lf (Mo_id))))) (Mo_nd (Mo_nd (Mo_nd (Mo_lf (Mo_id)) (Mo_lf (Mo_id))) (Mo_nd (Mo_lf (Mo_id)) (Mo_lf (Mo_id)))) (Mo_nd (Mo_nd (Mo_lf (Mo_id)) (Mo_lf (Mo_id))) (Mo_nd (Mo_lf (Mo_id)) (Mo_lf (Mo_iret hq))))))
theorem cx6_empty {l : Launch} : Ct l yX6_empty cX6_empty 2 (some .int) 4 (Sx S6_empty) := by
  refine Ct_of (T := fun Q => T6_empty Q S6_copyRow S6_thoseIn S6_size S6_goesOn S6_orNone) (by decide) (cl6_empty ct6_copyRow ct6_thoseIn ct6_size ct6_goesOn ct6_orNone) ?_
  intro av h Q' hS
  obtain ⟨Q, hS, hq⟩ := hS
  unfold S6_empty at hS
  split at hS
  · exact ⟨Nat.le_of_ble_eq_true rfl, Rn_mo (mo6_empty hq) (rn6_empty hS)⟩
  · exact hS.elim
theorem mo6_excuse {Q Q' : Po} (hq : ∀ v h1, Q v h1 → isI v → Q' v h1) : ∀ pc, Mo (T6_excuse Q S6_isOne S6_becomes pc) (T6_excuse Q' S6_isOne S6_becomes pc) :=
  Mo_nd (Mo_nd (Mo_nd (Mo_nd (Mo_lf (Mo_id)) (Mo_lf (Mo_id))) (Mo_nd (Mo_lf (Mo_id)) (Mo_nd (Mo_lf (Mo_id)) (Mo_lf (Mo_id))))) (Mo_nd (Mo_nd (Mo_lf (Mo_iret hq)) (Mo_lf (Mo_id))) (Mo_nd (Mo_lf (Mo_id)) (Mo_nd (Mo_lf (Mo_id)) (Mo_lf (Mo_id)))))) (Mo_nd (Mo_nd (Mo_nd (Mo_lf (Mo_id)) (Mo_lf (Mo_id))) (Mo_nd (Mo_lf (Mo_id)) (Mo_nd (Mo_lf (Mo_id)) (Mo_lf (Mo_id))))) (Mo_nd (Mo_nd (Mo_lf (Mo_id)) (Mo_nd (Mo_lf (Mo_id)) (Mo_lf (Mo_id)))) (Mo_nd (Mo_lf (Mo_id)) (Mo_nd (Mo_lf (Mo_id)) (Mo_lf (Mo_iret hq))))))
theorem cx6_excuse {l : Launch} : Ct l yX6_excuse cX6_excuse 2 (some .int) 1 (Sx S6_excuse) := by
  refine Ct_of (T := fun Q => T6_excuse Q S6_isOne S6_becomes) (by decide) (cl6_excuse ct6_isOne ct6_becomes) ?_
  intro av h Q' hS
  obtain ⟨Q, hS, hq⟩ := hS
  unfold S6_excuse at hS
  split at hS
  · exact ⟨Nat.le_of_ble_eq_true rfl, Rn_mo (mo6_excuse hq) (rn6_excuse hS)⟩
  · exact hS.elim
theorem mo6_feed {Q Q' : Po} (hq : ∀ v h1, Q v h1 → isI v → Q' v h1) : ∀ pc, Mo (T6_feed Q S6_isIn pc) (T6_feed Q' S6_isIn pc) :=
  Mo_nd (Mo_nd (Mo_nd (Mo_nd (Mo_nd (Mo_lf (Mo_id)) (Mo_lf (Mo_id))) (Mo_nd (Mo_lf (Mo_id)) (Mo_nd (Mo_lf (Mo_id)) (Mo_lf (Mo_id))))) (Mo_nd (Mo_nd (Mo_lf (Mo_id)) (Mo_nd (Mo_lf (Mo_id)) (Mo_lf (Mo_iret hq)))) (Mo_nd (Mo_lf (Mo_id)) (Mo_nd (Mo_lf (Mo_id)) (Mo_lf (Mo_id)))))) (Mo_nd (Mo_nd (Mo_nd (Mo_lf (Mo_id)) (Mo_lf (Mo_id))) (Mo_nd (Mo_lf (Mo_id)) (Mo_nd (Mo_lf (Mo_id)) (Mo_lf (Mo_iret hq))))) (Mo_nd (Mo_nd (Mo_lf (Mo_id)) (Mo_nd (Mo_lf (Mo_id)) (Mo_lf (Mo_id)))) (Mo_nd (Mo_lf (Mo_id)) (Mo_nd (Mo_lf (Mo_id)) (Mo_lf (Mo_id))))))) (Mo_nd (Mo_nd (Mo_nd (Mo_nd (Mo_lf (Mo_id)) (Mo_lf (Mo_id))) (Mo_nd (Mo_lf (Mo_id)) (Mo_nd (Mo_lf (Mo_id)) (Mo_lf (Mo_id))))) (Mo_nd (Mo_nd (Mo_lf (Mo_id)) (Mo_nd (Mo_lf (Mo_id)) (Mo_lf (Mo_id)))) (Mo_nd (Mo_lf (Mo_id)) (Mo_nd (Mo_lf (Mo_id)) (Mo_lf (Mo_id)))))) (Mo_nd (Mo_nd (Mo_nd (Mo_lf (Mo_id)) (Mo_nd (Mo_lf (Mo_id)) (Mo_lf (Mo_id)))) (Mo_nd (Mo_lf (Mo_id)) (Mo_nd (Mo_lf (Mo_id)) (Mo_lf (Mo_id))))) (Mo_nd (Mo_nd (Mo_lf (Mo_id)) (Mo_nd (Mo_lf (Mo_id)) (Mo_lf (Mo_id)))) (Mo_nd (Mo_lf (Mo_id)) (Mo_nd (Mo_lf (Mo_id)) (Mo_lf (Mo_iret hq)))))))
theorem cx6_feed {l : Launch} : Ct l yX6_feed cX6_feed 5 (some .int) 1 (Sx S6_feed) := by
  refine Ct_of (T := fun Q => T6_feed Q S6_isIn) (by decide) (cl6_feed ct6_isIn) ?_
  intro av h Q' hS
  obtain ⟨Q, hS, hq⟩ := hS
  unfold S6_feed at hS
  split at hS
  · exact ⟨Nat.le_of_ble_eq_true rfl, Rn_mo (mo6_feed hq) (rn6_feed hS)⟩
  · exact hS.elim
theorem mo6_fits {Q Q' : Po} (hq : ∀ v h1, Q v h1 → isI v → Q' v h1) : ∀ pc, Mo (T6_fits Q S6_isSheet S6_isOne S6_isIn S6_isTold pc) (T6_fits Q' S6_isSheet S6_isOne S6_isIn S6_isTold pc) :=
  Mo_nd (Mo_nd (Mo_nd (Mo_nd (Mo_nd (Mo_nd (Mo_lf (Mo_id)) (Mo_lf (Mo_id))) (Mo_nd (Mo_lf (Mo_id)) (Mo_nd (Mo_lf (Mo_id)) (Mo_lf (Mo_id))))) (Mo_nd (Mo_nd (Mo_lf (Mo_id)) (Mo_lf (Mo_id))) (Mo_nd (Mo_lf (Mo_id)) (Mo_nd (Mo_lf (Mo_id)) (Mo_lf (Mo_id)))))) (Mo_nd (Mo_nd (Mo_nd (Mo_lf (Mo_id)) (Mo_lf (Mo_id))) (Mo_nd (Mo_lf (Mo_id)) (Mo_nd (Mo_lf (Mo_id)) (Mo_lf (Mo_iret hq))))) (Mo_nd (Mo_nd (Mo_lf (Mo_id)) (Mo_lf (Mo_id))) (Mo_nd (Mo_lf (Mo_id)) (Mo_nd (Mo_lf (Mo_id)) (Mo_lf (Mo_id))))))) (Mo_nd (Mo_nd (Mo_nd (Mo_nd (Mo_lf (Mo_id)) (Mo_lf (Mo_iret hq))) (Mo_nd (Mo_lf (Mo_id)) (Mo_nd (Mo_lf (Mo_id)) (Mo_lf (Mo_id))))) (Mo_nd (Mo_nd (Mo_lf (Mo_id)) (Mo_lf (Mo_id))) (Mo_nd (Mo_lf (Mo_id)) (Mo_nd (Mo_lf (Mo_id)) (Mo_lf (Mo_id)))))) (Mo_nd (Mo_nd (Mo_nd (Mo_lf (Mo_id)) (Mo_lf (Mo_id))) (Mo_nd (Mo_lf (Mo_id)) (Mo_nd (Mo_lf (Mo_id)) (Mo_lf (Mo_id))))) (Mo_nd (Mo_nd (Mo_lf (Mo_id)) (Mo_lf (Mo_id))) (Mo_nd (Mo_lf (Mo_id)) (Mo_nd (Mo_lf (Mo_id)) (Mo_lf (Mo_id)))))))) (Mo_nd (Mo_nd (Mo_nd (Mo_nd (Mo_nd (Mo_lf (Mo_id)) (Mo_lf (Mo_id))) (Mo_nd (Mo_lf (Mo_id)) (Mo_nd (Mo_lf (Mo_id)) (Mo_lf (Mo_id))))) (Mo_nd (Mo_nd (Mo_lf (Mo_id)) (Mo_lf (Mo_id))) (Mo_nd (Mo_lf (Mo_id)) (Mo_nd (Mo_lf (Mo_id)) (Mo_lf (Mo_id)))))) (Mo_nd (Mo_nd (Mo_nd (Mo_lf (Mo_id)) (Mo_lf (Mo_id))) (Mo_nd (Mo_lf (Mo_id)) (Mo_nd (Mo_lf (Mo_id)) (Mo_lf (Mo_id))))) (Mo_nd (Mo_nd (Mo_lf (Mo_id)) (Mo_lf (Mo_id))) (Mo_nd (Mo_lf (Mo_id)) (Mo_nd (Mo_lf (Mo_id)) (Mo_lf (Mo_id))))))) (Mo_nd (Mo_nd (Mo_nd (Mo_nd (Mo_lf (Mo_id)) (Mo_lf (Mo_id))) (Mo_nd (Mo_lf (Mo_id)) (Mo_nd (Mo_lf (Mo_id)) (Mo_lf (Mo_id))))) (Mo_nd (Mo_nd (Mo_lf (Mo_id)) (Mo_lf (Mo_id))) (Mo_nd (Mo_lf (Mo_id)) (Mo_nd (Mo_lf (Mo_id)) (Mo_lf (Mo_id)))))) (Mo_nd (Mo_nd (Mo_nd (Mo_lf (Mo_id)) (Mo_lf (Mo_id))) (Mo_nd (Mo_lf (Mo_id)) (Mo_nd (Mo_lf (Mo_id)) (Mo_lf (Mo_id))))) (Mo_nd (Mo_nd (Mo_lf (Mo_id)) (Mo_lf (Mo_id))) (Mo_nd (Mo_lf (Mo_id)) (Mo_nd (Mo_lf (Mo_id)) (Mo_lf (Mo_iret hq))))))))
theorem cx6_fits {l : Launch} : Ct l yX6_fits cX6_fits 10 (some .int) 5 (Sx S6_fits) := by
  refine Ct_of (T := fun Q => T6_fits Q S6_isSheet S6_isOne S6_isIn S6_isTold) (by decide) (cl6_fits ct6_isSheet ct6_isOne ct6_isIn ct6_isTold) ?_
  intro av h Q' hS
  obtain ⟨Q, hS, hq⟩ := hS
  unfold S6_fits at hS
  split at hS
  · exact ⟨Nat.le_of_ble_eq_true rfl, Rn_mo (mo6_fits hq) (rn6_fits hS)⟩
  · exact hS.elim
theorem mo6_gaol {Q Q' : Po} (hq : ∀ v h1, Q v h1 → isI v → Q' v h1) : ∀ pc, Mo (T6_gaol Q S6_copyRow S6_begins S6_nextToken S6_itemHere pc) (T6_gaol Q' S6_copyRow S6_begins S6_nextToken S6_itemHere pc) :=
  Mo_nd (Mo_nd (Mo_nd (Mo_nd (Mo_nd (Mo_lf (Mo_id)) (Mo_nd (Mo_lf (Mo_id)) (Mo_lf (Mo_id)))) (Mo_nd (Mo_lf (Mo_id)) (Mo_nd (Mo_lf (Mo_id)) (Mo_lf (Mo_id))))) (Mo_nd (Mo_nd (Mo_lf (Mo_id)) (Mo_nd (Mo_lf (Mo_id)) (Mo_lf (Mo_id)))) (Mo_nd (Mo_lf (Mo_id)) (Mo_nd (Mo_lf (Mo_id)) (Mo_lf (Mo_id)))))) (Mo_nd (Mo_nd (Mo_nd (Mo_lf (Mo_id)) (Mo_nd (Mo_lf (Mo_id)) (Mo_lf (Mo_id)))) (Mo_nd (Mo_lf (Mo_id)) (Mo_nd (Mo_lf (Mo_id)) (Mo_lf (Mo_id))))) (Mo_nd (Mo_nd (Mo_lf (Mo_id)) (Mo_nd (Mo_lf (Mo_id)) (Mo_lf (Mo_id)))) (Mo_nd (Mo_lf (Mo_id)) (Mo_nd (Mo_lf (Mo_id)) (Mo_lf (Mo_id))))))) (Mo_nd (Mo_nd (Mo_nd (Mo_nd (Mo_lf (Mo_id)) (Mo_nd (Mo_lf (Mo_id)) (Mo_lf (Mo_id)))) (Mo_nd (Mo_lf (Mo_id)) (Mo_nd (Mo_lf (Mo_id)) (Mo_lf (Mo_id))))) (Mo_nd (Mo_nd (Mo_lf (Mo_id)) (Mo_nd (Mo_lf (Mo_id)) (Mo_lf (Mo_id)))) (Mo_nd (Mo_lf (Mo_id)) (Mo_nd (Mo_lf (Mo_id)) (Mo_lf (Mo_id)))))) (Mo_nd (Mo_nd (Mo_nd (Mo_lf (Mo_id)) (Mo_nd (Mo_lf (Mo_id)) (Mo_lf (Mo_id)))) (Mo_nd (Mo_lf (Mo_iret hq)) (Mo_nd (Mo_lf (Mo_id)) (Mo_lf (Mo_id))))) (Mo_nd (Mo_nd (Mo_lf (Mo_id)) (Mo_nd (Mo_lf (Mo_id)) (Mo_lf (Mo_id)))) (Mo_nd (Mo_lf (Mo_id)) (Mo_nd (Mo_lf (Mo_id)) (Mo_lf (Mo_iret hq)))))))
theorem cx6_gaol {l : Launch} : Ct l yX6_gaol cX6_gaol 1 (some .int) 6 (Sx S6_gaol) := by
  refine Ct_of (T := fun Q => T6_gaol Q S6_copyRow S6_begins S6_nextToken S6_itemHere) (by decide) (cl6_gaol ct6_copyRow ct6_begins ct6_nextToken ct6_itemHere) ?_
  intro av h Q' hS
  obtain ⟨Q, hS, hq⟩ := hS
  unfold S6_gaol at hS
  split at hS
  · exact ⟨Nat.le_of_ble_eq_true rfl, Rn_mo (mo6_gaol hq) (rn6_gaol hS)⟩
  · exact hS.elim
theorem mo6_grace {Q Q' : Po} (hq : ∀ v h1, Q v h1 → isI v → Q' v h1) : ∀ pc, Mo (T6_grace Q S6_isOne S6_isIn S6_becomes pc) (T6_grace Q' S6_isOne S6_isIn S6_becomes pc) :=
  Mo_nd (Mo_nd (Mo_nd (Mo_nd (Mo_lf (Mo_id)) (Mo_lf (Mo_id))) (Mo_nd (Mo_lf (Mo_id)) (Mo_nd (Mo_lf (Mo_id)) (Mo_lf (Mo_id))))) (Mo_nd (Mo_nd (Mo_lf (Mo_id)) (Mo_nd (Mo_lf (Mo_id)) (Mo_lf (Mo_id)))) (Mo_nd (Mo_lf (Mo_id)) (Mo_nd (Mo_lf (Mo_id)) (Mo_lf (Mo_id)))))) (Mo_nd (Mo_nd (Mo_nd (Mo_lf (Mo_id)) (Mo_nd (Mo_lf (Mo_id)) (Mo_lf (Mo_id)))) (Mo_nd (Mo_lf (Mo_id)) (Mo_nd (Mo_lf (Mo_id)) (Mo_lf (Mo_id))))) (Mo_nd (Mo_nd (Mo_lf (Mo_id)) (Mo_nd (Mo_lf (Mo_id)) (Mo_lf (Mo_id)))) (Mo_nd (Mo_lf (Mo_id)) (Mo_nd (Mo_lf (Mo_id)) (Mo_lf (Mo_iret hq))))))
theorem cx6_grace {l : Launch} : Ct l yX6_grace cX6_grace 3 (some .int) 1 (Sx S6_grace) := by
  refine Ct_of (T := fun Q => T6_grace Q S6_isOne S6_isIn S6_becomes) (by decide) (cl6_grace ct6_isOne ct6_isIn ct6_becomes) ?_
  intro av h Q' hS
  obtain ⟨Q, hS, hq⟩ := hS
  unfold S6_grace at hS
  split at hS
  · exact ⟨Nat.le_of_ble_eq_true rfl, Rn_mo (mo6_grace hq) (rn6_grace hS)⟩
  · exact hS.elim
theorem mo6_graceFor {Q Q' : Po} (hq : ∀ v h1, Q v h1 → isI v → Q' v h1) : ∀ pc, Mo (T6_graceFor Q S6_isOne S6_isShort S6_passesBy pc) (T6_graceFor Q' S6_isOne S6_isShort S6_passesBy pc) :=
  Mo_nd (Mo_nd (Mo_nd (Mo_nd (Mo_nd (Mo_lf (Mo_id)) (Mo_nd (Mo_lf (Mo_id)) (Mo_lf (Mo_id)))) (Mo_nd (Mo_nd (Mo_lf (Mo_id)) (Mo_lf (Mo_id))) (Mo_nd (Mo_lf (Mo_id)) (Mo_lf (Mo_id))))) (Mo_nd (Mo_nd (Mo_lf (Mo_id)) (Mo_nd (Mo_lf (Mo_iret hq)) (Mo_lf (Mo_id)))) (Mo_nd (Mo_nd (Mo_lf (Mo_id)) (Mo_lf (Mo_id))) (Mo_nd (Mo_lf (Mo_id)) (Mo_lf (Mo_id)))))) (Mo_nd (Mo_nd (Mo_nd (Mo_lf (Mo_id)) (Mo_nd (Mo_lf (Mo_id)) (Mo_lf (Mo_id)))) (Mo_nd (Mo_nd (Mo_lf (Mo_id)) (Mo_lf (Mo_id))) (Mo_nd (Mo_lf (Mo_id)) (Mo_lf (Mo_id))))) (Mo_nd (Mo_nd (Mo_lf (Mo_id)) (Mo_nd (Mo_lf (Mo_id)) (Mo_lf (Mo_id)))) (Mo_nd (Mo_nd (Mo_lf (Mo_id)) (Mo_lf (Mo_id))) (Mo_nd (Mo_lf (Mo_id)) (Mo_lf (Mo_id))))))) (Mo_nd (Mo_nd (Mo_nd (Mo_nd (Mo_lf (Mo_id)) (Mo_nd (Mo_lf (Mo_id)) (Mo_lf (Mo_id)))) (Mo_nd (Mo_nd (Mo_lf (Mo_id)) (Mo_lf (Mo_id))) (Mo_nd (Mo_lf (Mo_id)) (Mo_lf (Mo_id))))) (Mo_nd (Mo_nd (Mo_lf (Mo_id)) (Mo_nd (Mo_lf (Mo_id)) (Mo_lf (Mo_id)))) (Mo_nd (Mo_nd (Mo_lf (Mo_id)) (Mo_lf (Mo_id))) (Mo_nd (Mo_lf (Mo_id)) (Mo_lf (Mo_id)))))) (Mo_nd (Mo_nd (Mo_nd (Mo_lf (Mo_id)) (Mo_nd (Mo_lf (Mo_id)) (Mo_lf (Mo_id)))) (Mo_nd (Mo_nd (Mo_lf (Mo_id)) (Mo_lf (Mo_id))) (Mo_nd (Mo_lf (Mo_id)) (Mo_lf (Mo_id))))) (Mo_nd (Mo_nd (Mo_lf (Mo_id)) (Mo_nd (Mo_lf (Mo_id)) (Mo_lf (Mo_id)))) (Mo_nd (Mo_nd (Mo_lf (Mo_id)) (Mo_lf (Mo_id))) (Mo_nd (Mo_lf (Mo_id)) (Mo_lf (Mo_iret hq)))))))
theorem cx6_graceFor {l : Launch} : Ct l yX6_graceFor cX6_graceFor 7 (some .int) 5 (Sx S6_graceFor) := by
  refine Ct_of (T := fun Q => T6_graceFor Q S6_isOne S6_isShort S6_passesBy) (by decide) (cl6_graceFor ct6_isOne ct6_isShort ct6_passesBy) ?_
  intro av h Q' hS
  obtain ⟨Q, hS, hq⟩ := hS
  unfold S6_graceFor at hS
  split at hS
  · exact ⟨Nat.le_of_ble_eq_true rfl, Rn_mo (mo6_graceFor hq) (rn6_graceFor hS)⟩
  · exact hS.elim
theorem mo6_hope {Q Q' : Po} (hq : ∀ v h1, Q v h1 → isL v → Q' v h1) : ∀ pc, Mo (T6_hope Q S6_isIn S6_partOf pc) (T6_hope Q' S6_isIn S6_partOf pc) :=
  Mo_nd (Mo_nd (Mo_nd (Mo_nd (Mo_lf (Mo_id)) (Mo_nd (Mo_lf (Mo_id)) (Mo_lf (Mo_id)))) (Mo_nd (Mo_lf (Mo_id)) (Mo_nd (Mo_lf (Mo_id)) (Mo_lf (Mo_id))))) (Mo_nd (Mo_nd (Mo_lf (Mo_id)) (Mo_nd (Mo_lf (Mo_id)) (Mo_lf (Mo_id)))) (Mo_nd (Mo_nd (Mo_lf (Mo_id)) (Mo_lf (Mo_id))) (Mo_nd (Mo_lf (Mo_id)) (Mo_lf (Mo_id)))))) (Mo_nd (Mo_nd (Mo_nd (Mo_lf (Mo_id)) (Mo_nd (Mo_lf (Mo_id)) (Mo_lf (Mo_id)))) (Mo_nd (Mo_lf (Mo_id)) (Mo_nd (Mo_lf (Mo_id)) (Mo_lf (Mo_id))))) (Mo_nd (Mo_nd (Mo_lf (Mo_id)) (Mo_nd (Mo_lf (Mo_id)) (Mo_lf (Mo_id)))) (Mo_nd (Mo_nd (Mo_lf (Mo_id)) (Mo_lf (Mo_id))) (Mo_nd (Mo_lf (Mo_id)) (Mo_lf (Mo_lret hq))))))
theorem cx6_hope {l : Launch} : Ct l yX6_hope cX6_hope 3 (some .long) 1 (Sl S6_hope) := by
  refine Ct_of (T := fun Q => T6_hope Q S6_isIn S6_partOf) (by decide) (cl6_hope ct6_isIn ct6_partOf) ?_
  intro av h Q' hS
  obtain ⟨Q, hS, hq⟩ := hS
  unfold S6_hope at hS
  split at hS
  · exact ⟨Nat.le_of_ble_eq_true rfl, Rn_mo (mo6_hope hq) (rn6_hope hS)⟩
  · exact hS.elim
theorem mo6_hostFor {Q Q' : Po} (hq : ∀ v h1, Q v h1 → isI v → Q' v h1) : ∀ pc, Mo (T6_hostFor Q S6_isOne S6_passesBy pc) (T6_hostFor Q' S6_isOne S6_passesBy pc) :=
  Mo_nd (Mo_nd (Mo_nd (Mo_nd (Mo_nd (Mo_nd (Mo_lf (Mo_id)) (Mo_lf (Mo_id))) (Mo_nd (Mo_lf (Mo_id)) (Mo_lf (Mo_id)))) (Mo_nd (Mo_nd (Mo_lf (Mo_id)) (Mo_lf (Mo_iret hq))) (Mo_nd (Mo_lf (Mo_id)) (Mo_nd (Mo_lf (Mo_id)) (Mo_lf (Mo_id)))))) (Mo_nd (Mo_nd (Mo_nd (Mo_lf (Mo_id)) (Mo_lf (Mo_id))) (Mo_nd (Mo_lf (Mo_id)) (Mo_lf (Mo_id)))) (Mo_nd (Mo_nd (Mo_lf (Mo_id)) (Mo_lf (Mo_id))) (Mo_nd (Mo_lf (Mo_id)) (Mo_nd (Mo_lf (Mo_id)) (Mo_lf (Mo_id))))))) (Mo_nd (Mo_nd (Mo_nd (Mo_nd (Mo_lf (Mo_id)) (Mo_lf (Mo_id))) (Mo_nd (Mo_lf (Mo_id)) (Mo_lf (Mo_id)))) (Mo_nd (Mo_nd (Mo_lf (Mo_id)) (Mo_lf (Mo_id))) (Mo_nd (Mo_lf (Mo_id)) (Mo_nd (Mo_lf (Mo_id)) (Mo_lf (Mo_id)))))) (Mo_nd (Mo_nd (Mo_nd (Mo_lf (Mo_id)) (Mo_lf (Mo_id))) (Mo_nd (Mo_lf (Mo_id)) (Mo_nd (Mo_lf (Mo_id)) (Mo_lf (Mo_id))))) (Mo_nd (Mo_nd (Mo_lf (Mo_id)) (Mo_lf (Mo_id))) (Mo_nd (Mo_lf (Mo_id)) (Mo_nd (Mo_lf (Mo_id)) (Mo_lf (Mo_id)))))))) (Mo_nd (Mo_nd (Mo_nd (Mo_nd (Mo_nd (Mo_lf (Mo_id)) (Mo_lf (Mo_id))) (Mo_nd (Mo_lf (Mo_id)) (Mo_lf (Mo_id)))) (Mo_nd (Mo_nd (Mo_lf (Mo_id)) (Mo_lf (Mo_id))) (Mo_nd (Mo_lf (Mo_id)) (Mo_nd (Mo_lf (Mo_id)) (Mo_lf (Mo_id)))))) (Mo_nd (Mo_nd (Mo_nd (Mo_lf (Mo_id)) (Mo_lf (Mo_id))) (Mo_nd (Mo_lf (Mo_id)) (Mo_lf (Mo_id)))) (Mo_nd (Mo_nd (Mo_lf (Mo_id)) (Mo_lf (Mo_id))) (Mo_nd (Mo_lf (Mo_id)) (Mo_nd (Mo_lf (Mo_id)) (Mo_lf (Mo_id))))))) (Mo_nd (Mo_nd (Mo_nd (Mo_nd (Mo_lf (Mo_id)) (Mo_lf (Mo_id))) (Mo_nd (Mo_lf (Mo_id)) (Mo_lf (Mo_id)))) (Mo_nd (Mo_nd (Mo_lf (Mo_id)) (Mo_lf (Mo_id))) (Mo_nd (Mo_lf (Mo_id)) (Mo_nd (Mo_lf (Mo_id)) (Mo_lf (Mo_id)))))) (Mo_nd (Mo_nd (Mo_nd (Mo_lf (Mo_id)) (Mo_lf (Mo_id))) (Mo_nd (Mo_lf (Mo_id)) (Mo_nd (Mo_lf (Mo_id)) (Mo_lf (Mo_id))))) (Mo_nd (Mo_nd (Mo_lf (Mo_id)) (Mo_lf (Mo_id))) (Mo_nd (Mo_lf (Mo_id)) (Mo_nd (Mo_lf (Mo_id)) (Mo_lf (Mo_iret hq))))))))
theorem cx6_hostFor {l : Launch} : Ct l yX6_hostFor cX6_hostFor 8 (some .int) 5 (Sx S6_hostFor) := by
  refine Ct_of (T := fun Q => T6_hostFor Q S6_isOne S6_passesBy) (by decide) (cl6_hostFor ct6_isOne ct6_passesBy) ?_
  intro av h Q' hS
  obtain ⟨Q, hS, hq⟩ := hS
  unfold S6_hostFor at hS
  split at hS
  · exact ⟨Nat.le_of_ble_eq_true rfl, Rn_mo (mo6_hostFor hq) (rn6_hostFor hS)⟩
  · exact hS.elim
theorem mo6_inmate {Q Q' : Po} (hq : ∀ v h1, Q v h1 → isI v → Q' v h1) : ∀ pc, Mo (T6_inmate Q S6_isIn S6_isRoom S6_comes pc) (T6_inmate Q' S6_isIn S6_isRoom S6_comes pc) :=
  Mo_nd (Mo_nd (Mo_nd (Mo_nd (Mo_nd (Mo_lf (Mo_id)) (Mo_lf (Mo_id))) (Mo_nd (Mo_lf (Mo_id)) (Mo_lf (Mo_id)))) (Mo_nd (Mo_nd (Mo_lf (Mo_id)) (Mo_lf (Mo_id))) (Mo_nd (Mo_lf (Mo_id)) (Mo_nd (Mo_lf (Mo_id)) (Mo_lf (Mo_id)))))) (Mo_nd (Mo_nd (Mo_nd (Mo_lf (Mo_id)) (Mo_lf (Mo_id))) (Mo_nd (Mo_lf (Mo_id)) (Mo_lf (Mo_id)))) (Mo_nd (Mo_nd (Mo_lf (Mo_id)) (Mo_lf (Mo_id))) (Mo_nd (Mo_lf (Mo_id)) (Mo_nd (Mo_lf (Mo_iret hq)) (Mo_lf (Mo_id))))))) (Mo_nd (Mo_nd (Mo_nd (Mo_nd (Mo_lf (Mo_id)) (Mo_lf (Mo_id))) (Mo_nd (Mo_lf (Mo_id)) (Mo_lf (Mo_id)))) (Mo_nd (Mo_nd (Mo_lf (Mo_id)) (Mo_lf (Mo_id))) (Mo_nd (Mo_lf (Mo_iret hq)) (Mo_nd (Mo_lf (Mo_id)) (Mo_lf (Mo_id)))))) (Mo_nd (Mo_nd (Mo_nd (Mo_lf (Mo_id)) (Mo_lf (Mo_id))) (Mo_nd (Mo_lf (Mo_id)) (Mo_nd (Mo_lf (Mo_id)) (Mo_lf (Mo_id))))) (Mo_nd (Mo_nd (Mo_lf (Mo_id)) (Mo_lf (Mo_id))) (Mo_nd (Mo_lf (Mo_id)) (Mo_nd (Mo_lf (Mo_id)) (Mo_lf (Mo_iret hq)))))))
theorem cx6_inmate {l : Launch} : Ct l yX6_inmate cX6_inmate 4 (some .int) 1 (Sx S6_inmate) := by
  refine Ct_of (T := fun Q => T6_inmate Q S6_isIn S6_isRoom S6_comes) (by decide) (cl6_inmate ct6_isIn ct6_isRoom ct6_comes) ?_
  intro av h Q' hS
  obtain ⟨Q, hS, hq⟩ := hS
  unfold S6_inmate at hS
  split at hS
  · exact ⟨Nat.le_of_ble_eq_true rfl, Rn_mo (mo6_inmate hq) (rn6_inmate hS)⟩
  · exact hS.elim
theorem mo6_item {Q Q' : Po} (hq : ∀ v h1, Q v h1 → isI v → Q' v h1) : ∀ pc, Mo (T6_item Q S6_isSheet S6_isIn S6_lacks pc) (T6_item Q' S6_isSheet S6_isIn S6_lacks pc) :=
  Mo_nd (Mo_nd (Mo_nd (Mo_nd (Mo_nd (Mo_lf (Mo_id)) (Mo_lf (Mo_id))) (Mo_nd (Mo_lf (Mo_id)) (Mo_nd (Mo_lf (Mo_id)) (Mo_lf (Mo_id))))) (Mo_nd (Mo_nd (Mo_lf (Mo_id)) (Mo_nd (Mo_lf (Mo_id)) (Mo_lf (Mo_id)))) (Mo_nd (Mo_lf (Mo_id)) (Mo_nd (Mo_lf (Mo_id)) (Mo_lf (Mo_iret hq)))))) (Mo_nd (Mo_nd (Mo_nd (Mo_lf (Mo_id)) (Mo_lf (Mo_id))) (Mo_nd (Mo_lf (Mo_id)) (Mo_nd (Mo_lf (Mo_id)) (Mo_lf (Mo_id))))) (Mo_nd (Mo_nd (Mo_lf (Mo_id)) (Mo_nd (Mo_lf (Mo_id)) (Mo_lf (Mo_id)))) (Mo_nd (Mo_lf (Mo_id)) (Mo_nd (Mo_lf (Mo_iret hq)) (Mo_lf (Mo_id))))))) (Mo_nd (Mo_nd (Mo_nd (Mo_nd (Mo_lf (Mo_id)) (Mo_lf (Mo_id))) (Mo_nd (Mo_lf (Mo_id)) (Mo_nd (Mo_lf (Mo_id)) (Mo_lf (Mo_id))))) (Mo_nd (Mo_nd (Mo_lf (Mo_id)) (Mo_nd (Mo_lf (Mo_id)) (Mo_lf (Mo_id)))) (Mo_nd (Mo_lf (Mo_id)) (Mo_nd (Mo_lf (Mo_id)) (Mo_lf (Mo_id)))))) (Mo_nd (Mo_nd (Mo_nd (Mo_lf (Mo_id)) (Mo_lf (Mo_id))) (Mo_nd (Mo_lf (Mo_id)) (Mo_nd (Mo_lf (Mo_id)) (Mo_lf (Mo_id))))) (Mo_nd (Mo_nd (Mo_lf (Mo_id)) (Mo_nd (Mo_lf (Mo_id)) (Mo_lf (Mo_id)))) (Mo_nd (Mo_lf (Mo_id)) (Mo_nd (Mo_lf (Mo_id)) (Mo_lf (Mo_iret hq)))))))
theorem cx6_item {l : Launch} : Ct l yX6_item cX6_item 4 (some .int) 2 (Sx S6_item) := by
  refine Ct_of (T := fun Q => T6_item Q S6_isSheet S6_isIn S6_lacks) (by decide) (cl6_item ct6_isSheet ct6_isIn ct6_lacks) ?_
  intro av h Q' hS
  obtain ⟨Q, hS, hq⟩ := hS
  unfold S6_item at hS
  split at hS
  · exact ⟨Nat.le_of_ble_eq_true rfl, Rn_mo (mo6_item hq) (rn6_item hS)⟩
  · exact hS.elim
theorem mo6_judge {Q Q' : Po} (hq : ∀ v h1, Q v h1 → isI v → Q' v h1) : ∀ pc, Mo (T6_judge Q S6_isOne S6_copyRow S6_goesOn S6_its S6_thoseIn pc) (T6_judge Q' S6_isOne S6_copyRow S6_goesOn S6_its S6_thoseIn pc) :=
  Mo_nd (Mo_nd (Mo_nd (Mo_nd (Mo_nd (Mo_nd (Mo_lf (Mo_id)) (Mo_lf (Mo_id))) (Mo_nd (Mo_lf (Mo_id)) (Mo_lf (Mo_id)))) (Mo_nd (Mo_nd (Mo_lf (Mo_id)) (Mo_lf (Mo_iret hq))) (Mo_nd (Mo_lf (Mo_id)) (Mo_nd (Mo_lf (Mo_id)) (Mo_lf (Mo_id)))))) (Mo_nd (Mo_nd (Mo_nd (Mo_lf (Mo_id)) (Mo_lf (Mo_id))) (Mo_nd (Mo_lf (Mo_id)) (Mo_nd (Mo_lf (Mo_id)) (Mo_lf (Mo_id))))) (Mo_nd (Mo_nd (Mo_lf (Mo_id)) (Mo_lf (Mo_id))) (Mo_nd (Mo_lf (Mo_id)) (Mo_nd (Mo_lf (Mo_id)) (Mo_lf (Mo_id))))))) (Mo_nd (Mo_nd (Mo_nd (Mo_nd (Mo_lf (Mo_id)) (Mo_lf (Mo_id))) (Mo_nd (Mo_lf (Mo_id)) (Mo_lf (Mo_id)))) (Mo_nd (Mo_nd (Mo_lf (Mo_id)) (Mo_lf (Mo_id))) (Mo_nd (Mo_lf (Mo_id)) (Mo_nd (Mo_lf (Mo_id)) (Mo_lf (Mo_id)))))) (Mo_nd (Mo_nd (Mo_nd (Mo_lf (Mo_id)) (Mo_lf (Mo_id))) (Mo_nd (Mo_lf (Mo_id)) (Mo_nd (Mo_lf (Mo_id)) (Mo_lf (Mo_id))))) (Mo_nd (Mo_nd (Mo_lf (Mo_id)) (Mo_lf (Mo_id))) (Mo_nd (Mo_lf (Mo_id)) (Mo_nd (Mo_lf (Mo_id)) (Mo_lf (Mo_id)))))))) (Mo_nd (Mo_nd (Mo_nd (Mo_nd (Mo_nd (Mo_lf (Mo_id)) (Mo_lf (Mo_id))) (Mo_nd (Mo_lf (Mo_id)) (Mo_lf (Mo_id)))) (Mo_nd (Mo_nd (Mo_lf (Mo_id)) (Mo_lf (Mo_id))) (Mo_nd (Mo_lf (Mo_id)) (Mo_nd (Mo_lf (Mo_id)) (Mo_lf (Mo_id)))))) (Mo_nd (Mo_nd (Mo_nd (Mo_lf (Mo_id)) (Mo_lf (Mo_id))) (Mo_nd (Mo_lf (Mo_id)) (Mo_nd (Mo_lf (Mo_id)) (Mo_lf (Mo_id))))) (Mo_nd (Mo_nd (Mo_lf (Mo_id)) (Mo_lf (Mo_id))) (Mo_nd (Mo_lf (Mo_id)) (Mo_nd (Mo_lf (Mo_id)) (Mo_lf (Mo_id))))))) (Mo_nd (Mo_nd (Mo_nd (Mo_nd (Mo_lf (Mo_id)) (Mo_lf (Mo_id))) (Mo_nd (Mo_lf (Mo_id)) (Mo_lf (Mo_id)))) (Mo_nd (Mo_nd (Mo_lf (Mo_id)) (Mo_lf (Mo_id))) (Mo_nd (Mo_lf (Mo_id)) (Mo_nd (Mo_lf (Mo_id)) (Mo_lf (Mo_id)))))) (Mo_nd (Mo_nd (Mo_nd (Mo_lf (Mo_id)) (Mo_lf (Mo_id))) (Mo_nd (Mo_lf (Mo_id)) (Mo_nd (Mo_lf (Mo_id)) (Mo_lf (Mo_id))))) (Mo_nd (Mo_nd (Mo_lf (Mo_id)) (Mo_lf (Mo_id))) (Mo_nd (Mo_lf (Mo_id)) (Mo_nd (Mo_lf (Mo_id)) (Mo_lf (Mo_iret hq))))))))
theorem cx6_judge {l : Launch} : Ct l yX6_judge cX6_judge 4 (some .int) 4 (Sx S6_judge) := by
  refine Ct_of (T := fun Q => T6_judge Q S6_isOne S6_copyRow S6_goesOn S6_its S6_thoseIn) (by decide) (cl6_judge ct6_isOne ct6_copyRow ct6_goesOn ct6_its ct6_thoseIn) ?_
  intro av h Q' hS
  obtain ⟨Q, hS, hq⟩ := hS
  unfold S6_judge at hS
  split at hS
  · exact ⟨Nat.le_of_ble_eq_true rfl, Rn_mo (mo6_judge hq) (rn6_judge hS)⟩
  · exact hS.elim
theorem mo6_keep {Q Q' : Po} (hq : ∀ v h1, Q v h1 → isI v → Q' v h1) : ∀ pc, Mo (T6_keep Q pc) (T6_keep Q' pc) :=
  Mo_nd (Mo_nd (Mo_nd (Mo_nd (Mo_lf (Mo_id)) (Mo_lf (Mo_id))) (Mo_nd (Mo_lf (Mo_id)) (Mo_nd (Mo_lf (Mo_id)) (Mo_lf (Mo_id))))) (Mo_nd (Mo_nd (Mo_lf (Mo_id)) (Mo_lf (Mo_id))) (Mo_nd (Mo_lf (Mo_id)) (Mo_nd (Mo_lf (Mo_id)) (Mo_lf (Mo_id)))))) (Mo_nd (Mo_nd (Mo_nd (Mo_lf (Mo_id)) (Mo_lf (Mo_id))) (Mo_nd (Mo_lf (Mo_id)) (Mo_nd (Mo_lf (Mo_id)) (Mo_lf (Mo_id))))) (Mo_nd (Mo_nd (Mo_lf (Mo_id)) (Mo_lf (Mo_id))) (Mo_nd (Mo_lf (Mo_id)) (Mo_nd (Mo_lf (Mo_id)) (Mo_lf (Mo_iret hq))))))
theorem cx6_keep {l : Launch} : Ct l yX6_keep cX6_keep 2 (some .int) 0 (Sx S6_keep) := by
  refine Ct_of (T := fun Q => T6_keep Q) (by decide) (cl6_keep) ?_
  intro av h Q' hS
  obtain ⟨Q, hS, hq⟩ := hS
  unfold S6_keep at hS
  split at hS
  · exact ⟨Nat.le_of_ble_eq_true rfl, Rn_mo (mo6_keep hq) (rn6_keep hS)⟩
  · exact hS.elim
theorem mo6_kindFor {Q Q' : Po} (hq : ∀ v h1, Q v h1 → isI v → Q' v h1) : ∀ pc, Mo (T6_kindFor Q S6_isOne S6_passesBy pc) (T6_kindFor Q' S6_isOne S6_passesBy pc) :=
  Mo_nd (Mo_nd (Mo_nd (Mo_nd (Mo_nd (Mo_lf (Mo_id)) (Mo_nd (Mo_lf (Mo_id)) (Mo_lf (Mo_id)))) (Mo_nd (Mo_nd (Mo_lf (Mo_id)) (Mo_lf (Mo_id))) (Mo_nd (Mo_lf (Mo_iret hq)) (Mo_lf (Mo_id))))) (Mo_nd (Mo_nd (Mo_nd (Mo_lf (Mo_id)) (Mo_lf (Mo_id))) (Mo_nd (Mo_lf (Mo_id)) (Mo_lf (Mo_id)))) (Mo_nd (Mo_nd (Mo_lf (Mo_id)) (Mo_lf (Mo_id))) (Mo_nd (Mo_lf (Mo_id)) (Mo_lf (Mo_id)))))) (Mo_nd (Mo_nd (Mo_nd (Mo_lf (Mo_id)) (Mo_nd (Mo_lf (Mo_id)) (Mo_lf (Mo_id)))) (Mo_nd (Mo_nd (Mo_lf (Mo_id)) (Mo_lf (Mo_id))) (Mo_nd (Mo_lf (Mo_id)) (Mo_lf (Mo_id))))) (Mo_nd (Mo_nd (Mo_nd (Mo_lf (Mo_id)) (Mo_lf (Mo_id))) (Mo_nd (Mo_lf (Mo_id)) (Mo_lf (Mo_id)))) (Mo_nd (Mo_nd (Mo_lf (Mo_id)) (Mo_lf (Mo_id))) (Mo_nd (Mo_lf (Mo_id)) (Mo_lf (Mo_id))))))) (Mo_nd (Mo_nd (Mo_nd (Mo_nd (Mo_lf (Mo_id)) (Mo_nd (Mo_lf (Mo_id)) (Mo_lf (Mo_id)))) (Mo_nd (Mo_nd (Mo_lf (Mo_id)) (Mo_lf (Mo_id))) (Mo_nd (Mo_lf (Mo_id)) (Mo_lf (Mo_id))))) (Mo_nd (Mo_nd (Mo_nd (Mo_lf (Mo_id)) (Mo_lf (Mo_id))) (Mo_nd (Mo_lf (Mo_id)) (Mo_lf (Mo_id)))) (Mo_nd (Mo_nd (Mo_lf (Mo_id)) (Mo_lf (Mo_id))) (Mo_nd (Mo_lf (Mo_id)) (Mo_lf (Mo_id)))))) (Mo_nd (Mo_nd (Mo_nd (Mo_lf (Mo_id)) (Mo_nd (Mo_lf (Mo_id)) (Mo_lf (Mo_id)))) (Mo_nd (Mo_nd (Mo_lf (Mo_id)) (Mo_lf (Mo_id))) (Mo_nd (Mo_lf (Mo_id)) (Mo_lf (Mo_id))))) (Mo_nd (Mo_nd (Mo_nd (Mo_lf (Mo_id)) (Mo_lf (Mo_id))) (Mo_nd (Mo_lf (Mo_id)) (Mo_lf (Mo_id)))) (Mo_nd (Mo_nd (Mo_lf (Mo_id)) (Mo_lf (Mo_id))) (Mo_nd (Mo_lf (Mo_id)) (Mo_lf (Mo_iret hq)))))))
theorem cx6_kindFor {l : Launch} : Ct l yX6_kindFor cX6_kindFor 8 (some .int) 5 (Sx S6_kindFor) := by
  refine Ct_of (T := fun Q => T6_kindFor Q S6_isOne S6_passesBy) (by decide) (cl6_kindFor ct6_isOne ct6_passesBy) ?_
  intro av h Q' hS
  obtain ⟨Q, hS, hq⟩ := hS
  unfold S6_kindFor at hS
  split at hS
  · exact ⟨Nat.le_of_ble_eq_true rfl, Rn_mo (mo6_kindFor hq) (rn6_kindFor hS)⟩
  · exact hS.elim
theorem mo6_knot {Q Q' : Po} (hq : ∀ v h1, Q v h1 → isI v → Q' v h1) : ∀ pc, Mo (T6_knot Q S6_isOne S6_its pc) (T6_knot Q' S6_isOne S6_its pc) :=
  Mo_nd (Mo_nd (Mo_nd (Mo_nd (Mo_nd (Mo_lf (Mo_id)) (Mo_nd (Mo_lf (Mo_id)) (Mo_lf (Mo_id)))) (Mo_nd (Mo_nd (Mo_lf (Mo_id)) (Mo_lf (Mo_id))) (Mo_nd (Mo_lf (Mo_iret hq)) (Mo_lf (Mo_id))))) (Mo_nd (Mo_nd (Mo_lf (Mo_id)) (Mo_nd (Mo_lf (Mo_id)) (Mo_lf (Mo_id)))) (Mo_nd (Mo_nd (Mo_lf (Mo_id)) (Mo_lf (Mo_id))) (Mo_nd (Mo_lf (Mo_id)) (Mo_lf (Mo_id)))))) (Mo_nd (Mo_nd (Mo_nd (Mo_lf (Mo_id)) (Mo_nd (Mo_lf (Mo_id)) (Mo_lf (Mo_id)))) (Mo_nd (Mo_nd (Mo_lf (Mo_id)) (Mo_lf (Mo_id))) (Mo_nd (Mo_lf (Mo_id)) (Mo_lf (Mo_id))))) (Mo_nd (Mo_nd (Mo_lf (Mo_id)) (Mo_nd (Mo_lf (Mo_id)) (Mo_lf (Mo_id)))) (Mo_nd (Mo_nd (Mo_lf (Mo_id)) (Mo_lf (Mo_id))) (Mo_nd (Mo_lf (Mo_id)) (Mo_lf (Mo_id))))))) (Mo_nd (Mo_nd (Mo_nd (Mo_nd (Mo_lf (Mo_id)) (Mo_nd (Mo_lf (Mo_id)) (Mo_lf (Mo_id)))) (Mo_nd (Mo_nd (Mo_lf (Mo_id)) (Mo_lf (Mo_id))) (Mo_nd (Mo_lf (Mo_id)) (Mo_lf (Mo_id))))) (Mo_nd (Mo_nd (Mo_lf (Mo_id)) (Mo_nd (Mo_lf (Mo_id)) (Mo_lf (Mo_id)))) (Mo_nd (Mo_nd (Mo_lf (Mo_id)) (Mo_lf (Mo_id))) (Mo_nd (Mo_lf (Mo_id)) (Mo_lf (Mo_id)))))) (Mo_nd (Mo_nd (Mo_nd (Mo_lf (Mo_id)) (Mo_nd (Mo_lf (Mo_id)) (Mo_lf (Mo_id)))) (Mo_nd (Mo_nd (Mo_lf (Mo_id)) (Mo_lf (Mo_id))) (Mo_nd (Mo_lf (Mo_id)) (Mo_lf (Mo_id))))) (Mo_nd (Mo_nd (Mo_lf (Mo_id)) (Mo_nd (Mo_lf (Mo_id)) (Mo_lf (Mo_id)))) (Mo_nd (Mo_nd (Mo_lf (Mo_id)) (Mo_lf (Mo_id))) (Mo_nd (Mo_lf (Mo_id)) (Mo_lf (Mo_iret hq)))))))
theorem cx6_knot {l : Launch} : Ct l yX6_knot cX6_knot 4 (some .int) 1 (Sx S6_knot) := by
  refine Ct_of (T := fun Q => T6_knot Q S6_isOne S6_its) (by decide) (cl6_knot ct6_isOne ct6_its) ?_
  intro av h Q' hS
  obtain ⟨Q, hS, hq⟩ := hS
  unfold S6_knot at hS
  split at hS
  · exact ⟨Nat.le_of_ble_eq_true rfl, Rn_mo (mo6_knot hq) (rn6_knot hS)⟩
  · exact hS.elim
theorem mo6_lawOf {Q Q' : Po} (hq : ∀ v h1, Q v h1 → isI v → Q' v h1) : ∀ pc, Mo (T6_lawOf Q S6_isIn pc) (T6_lawOf Q' S6_isIn pc) :=
  Mo_nd (Mo_nd (Mo_nd (Mo_lf (Mo_id)) (Mo_nd (Mo_lf (Mo_id)) (Mo_lf (Mo_id)))) (Mo_nd (Mo_nd (Mo_lf (Mo_id)) (Mo_lf (Mo_id))) (Mo_nd (Mo_lf (Mo_id)) (Mo_lf (Mo_id))))) (Mo_nd (Mo_nd (Mo_nd (Mo_lf (Mo_id)) (Mo_lf (Mo_id))) (Mo_nd (Mo_lf (Mo_id)) (Mo_lf (Mo_id)))) (Mo_nd (Mo_nd (Mo_lf (Mo_id)) (Mo_lf (Mo_id))) (Mo_nd (Mo_lf (Mo_id)) (Mo_lf (Mo_iret hq)))))
theorem cx6_lawOf {l : Launch} : Ct l yX6_lawOf cX6_lawOf 2 (some .int) 1 (Sx S6_lawOf) := by
  refine Ct_of (T := fun Q => T6_lawOf Q S6_isIn) (by decide) (cl6_lawOf ct6_isIn) ?_
  intro av h Q' hS
  obtain ⟨Q, hS, hq⟩ := hS
  unfold S6_lawOf at hS
  split at hS
  · exact ⟨Nat.le_of_ble_eq_true rfl, Rn_mo (mo6_lawOf hq) (rn6_lawOf hS)⟩
  · exact hS.elim
theorem mo6_leaves {Q Q' : Po} (hq : ∀ v h1, Q v h1 → isI v → Q' v h1) : ∀ pc, Mo (T6_leaves Q S6_isOne S6_passesBy S6_orNone pc) (T6_leaves Q' S6_isOne S6_passesBy S6_orNone pc) :=
  Mo_nd (Mo_nd (Mo_nd (Mo_lf (Mo_id)) (Mo_nd (Mo_lf (Mo_id)) (Mo_lf (Mo_id)))) (Mo_nd (Mo_lf (Mo_id)) (Mo_nd (Mo_lf (Mo_id)) (Mo_lf (Mo_id))))) (Mo_nd (Mo_nd (Mo_lf (Mo_id)) (Mo_nd (Mo_lf (Mo_id)) (Mo_lf (Mo_id)))) (Mo_nd (Mo_nd (Mo_lf (Mo_id)) (Mo_lf (Mo_id))) (Mo_nd (Mo_lf (Mo_id)) (Mo_lf (Mo_iret hq)))))
theorem cx6_leaves {l : Launch} : Ct l yX6_leaves cX6_leaves 2 (some .int) 5 (Sx S6_leaves) := by
  refine Ct_of (T := fun Q => T6_leaves Q S6_isOne S6_passesBy S6_orNone) (by decide) (cl6_leaves ct6_isOne ct6_passesBy ct6_orNone) ?_
  intro av h Q' hS
  obtain ⟨Q, hS, hq⟩ := hS
  unfold S6_leaves at hS
  split at hS
  · exact ⟨Nat.le_of_ble_eq_true rfl, Rn_mo (mo6_leaves hq) (rn6_leaves hS)⟩
  · exact hS.elim
theorem mo6_luck {Q Q' : Po} (hq : ∀ v h1, Q v h1 → isI v → Q' v h1) : ∀ pc, Mo (T6_luck Q S6_isIn S6_copyRow S6_goesOn S6_thoseIn S6_size S6_occasion pc) (T6_luck Q' S6_isIn S6_copyRow S6_goesOn S6_thoseIn S6_size S6_occasion pc) :=
  Mo_nd (Mo_nd (Mo_nd (Mo_nd (Mo_nd (Mo_nd (Mo_lf (Mo_id)) (Mo_lf (Mo_id))) (Mo_nd (Mo_lf (Mo_id)) (Mo_lf (Mo_id)))) (Mo_nd (Mo_nd (Mo_lf (Mo_id)) (Mo_lf (Mo_id))) (Mo_nd (Mo_lf (Mo_id)) (Mo_lf (Mo_iret hq))))) (Mo_nd (Mo_nd (Mo_nd (Mo_lf (Mo_id)) (Mo_lf (Mo_id))) (Mo_nd (Mo_lf (Mo_id)) (Mo_lf (Mo_id)))) (Mo_nd (Mo_nd (Mo_lf (Mo_id)) (Mo_lf (Mo_id))) (Mo_nd (Mo_lf (Mo_id)) (Mo_lf (Mo_id)))))) (Mo_nd (Mo_nd (Mo_nd (Mo_nd (Mo_lf (Mo_id)) (Mo_lf (Mo_id))) (Mo_nd (Mo_lf (Mo_id)) (Mo_lf (Mo_id)))) (Mo_nd (Mo_nd (Mo_lf (Mo_id)) (Mo_lf (Mo_id))) (Mo_nd (Mo_lf (Mo_id)) (Mo_lf (Mo_id))))) (Mo_nd (Mo_nd (Mo_nd (Mo_lf (Mo_id)) (Mo_lf (Mo_id))) (Mo_nd (Mo_lf (Mo_id)) (Mo_lf (Mo_id)))) (Mo_nd (Mo_nd (Mo_lf (Mo_id)) (Mo_lf (Mo_id))) (Mo_nd (Mo_lf (Mo_id)) (Mo_nd (Mo_lf (Mo_id)) (Mo_lf (Mo_id)))))))) (Mo_nd (Mo_nd (Mo_nd (Mo_nd (Mo_nd (Mo_lf (Mo_id)) (Mo_lf (Mo_id))) (Mo_nd (Mo_lf (Mo_id)) (Mo_lf (Mo_id)))) (Mo_nd (Mo_nd (Mo_lf (Mo_id)) (Mo_lf (Mo_id))) (Mo_nd (Mo_lf (Mo_id)) (Mo_lf (Mo_id))))) (Mo_nd (Mo_nd (Mo_nd (Mo_lf (Mo_id)) (Mo_lf (Mo_id))) (Mo_nd (Mo_lf (Mo_id)) (Mo_lf (Mo_id)))) (Mo_nd (Mo_nd (Mo_lf (Mo_id)) (Mo_lf (Mo_id))) (Mo_nd (Mo_lf (Mo_id)) (Mo_lf (Mo_id)))))) (Mo_nd (Mo_nd (Mo_nd (Mo_nd (Mo_lf (Mo_id)) (Mo_lf (Mo_id))) (Mo_nd (Mo_lf (Mo_id)) (Mo_lf (Mo_id)))) (Mo_nd (Mo_nd (Mo_lf (Mo_id)) (Mo_lf (Mo_id))) (Mo_nd (Mo_lf (Mo_id)) (Mo_lf (Mo_id))))) (Mo_nd (Mo_nd (Mo_nd (Mo_lf (Mo_id)) (Mo_lf (Mo_id))) (Mo_nd (Mo_lf (Mo_id)) (Mo_lf (Mo_id)))) (Mo_nd (Mo_nd (Mo_lf (Mo_id)) (Mo_lf (Mo_id))) (Mo_nd (Mo_lf (Mo_id)) (Mo_nd (Mo_lf (Mo_id)) (Mo_lf (Mo_iret hq))))))))
theorem cx6_luck {l : Launch} : Ct l yX6_luck cX6_luck 6 (some .int) 5 (Sx S6_luck) := by
  refine Ct_of (T := fun Q => T6_luck Q S6_isIn S6_copyRow S6_goesOn S6_thoseIn S6_size S6_occasion) (by decide) (cl6_luck ct6_isIn ct6_copyRow ct6_goesOn ct6_thoseIn ct6_size ct6_occasion) ?_
  intro av h Q' hS
  obtain ⟨Q, hS, hq⟩ := hS
  unfold S6_luck at hS
  split at hS
  · exact ⟨Nat.le_of_ble_eq_true rfl, Rn_mo (mo6_luck hq) (rn6_luck hS)⟩
  · exact hS.elim
theorem mo6_many {Q Q' : Po} (hq : ∀ v h1, Q v h1 → isI v → Q' v h1) : ∀ pc, Mo (T6_many Q S6_thoseIn S6_size S6_its S6_keptOnes pc) (T6_many Q' S6_thoseIn S6_size S6_its S6_keptOnes pc) :=
  Mo_nd (Mo_nd (Mo_nd (Mo_nd (Mo_nd (Mo_lf (Mo_id)) (Mo_nd (Mo_lf (Mo_id)) (Mo_lf (Mo_id)))) (Mo_nd (Mo_lf (Mo_id)) (Mo_nd (Mo_lf (Mo_id)) (Mo_lf (Mo_id))))) (Mo_nd (Mo_nd (Mo_lf (Mo_id)) (Mo_nd (Mo_lf (Mo_id)) (Mo_lf (Mo_iret hq)))) (Mo_nd (Mo_nd (Mo_lf (Mo_id)) (Mo_lf (Mo_id))) (Mo_nd (Mo_lf (Mo_id)) (Mo_lf (Mo_id)))))) (Mo_nd (Mo_nd (Mo_nd (Mo_lf (Mo_iret hq)) (Mo_nd (Mo_lf (Mo_id)) (Mo_lf (Mo_id)))) (Mo_nd (Mo_lf (Mo_id)) (Mo_nd (Mo_lf (Mo_id)) (Mo_lf (Mo_id))))) (Mo_nd (Mo_nd (Mo_lf (Mo_id)) (Mo_nd (Mo_lf (Mo_id)) (Mo_lf (Mo_id)))) (Mo_nd (Mo_nd (Mo_lf (Mo_id)) (Mo_lf (Mo_id))) (Mo_nd (Mo_lf (Mo_id)) (Mo_lf (Mo_id))))))) (Mo_nd (Mo_nd (Mo_nd (Mo_nd (Mo_lf (Mo_id)) (Mo_nd (Mo_lf (Mo_id)) (Mo_lf (Mo_id)))) (Mo_nd (Mo_lf (Mo_id)) (Mo_nd (Mo_lf (Mo_id)) (Mo_lf (Mo_id))))) (Mo_nd (Mo_nd (Mo_lf (Mo_id)) (Mo_nd (Mo_lf (Mo_id)) (Mo_lf (Mo_id)))) (Mo_nd (Mo_nd (Mo_lf (Mo_id)) (Mo_lf (Mo_iret hq))) (Mo_nd (Mo_lf (Mo_id)) (Mo_lf (Mo_id)))))) (Mo_nd (Mo_nd (Mo_nd (Mo_lf (Mo_id)) (Mo_nd (Mo_lf (Mo_iret hq)) (Mo_lf (Mo_id)))) (Mo_nd (Mo_lf (Mo_id)) (Mo_nd (Mo_lf (Mo_iret hq)) (Mo_lf (Mo_id))))) (Mo_nd (Mo_nd (Mo_lf (Mo_id)) (Mo_nd (Mo_lf (Mo_iret hq)) (Mo_lf (Mo_id)))) (Mo_nd (Mo_nd (Mo_lf (Mo_id)) (Mo_lf (Mo_iret hq))) (Mo_nd (Mo_lf (Mo_id)) (Mo_lf (Mo_iret hq)))))))
theorem cx6_many {l : Launch} : Ct l yX6_many cX6_many 4 (some .int) 4 (Sx S6_many) := by
  refine Ct_of (T := fun Q => T6_many Q S6_thoseIn S6_size S6_its S6_keptOnes) (by decide) (cl6_many ct6_thoseIn ct6_size ct6_its ct6_keptOnes) ?_
  intro av h Q' hS
  obtain ⟨Q, hS, hq⟩ := hS
  unfold S6_many at hS
  split at hS
  · exact ⟨Nat.le_of_ble_eq_true rfl, Rn_mo (mo6_many hq) (rn6_many hS)⟩
  · exact hS.elim
theorem mo6_mind {Q Q' : Po} (hq : ∀ v h1, Q v h1 → isI v → Q' v h1) : ∀ pc, Mo (T6_mind Q S6_isOne S6_isIn S6_becomes pc) (T6_mind Q' S6_isOne S6_isIn S6_becomes pc) :=
  Mo_nd (Mo_nd (Mo_nd (Mo_nd (Mo_lf (Mo_id)) (Mo_lf (Mo_id))) (Mo_nd (Mo_lf (Mo_id)) (Mo_nd (Mo_lf (Mo_id)) (Mo_lf (Mo_id))))) (Mo_nd (Mo_nd (Mo_lf (Mo_id)) (Mo_lf (Mo_id))) (Mo_nd (Mo_lf (Mo_id)) (Mo_nd (Mo_lf (Mo_id)) (Mo_lf (Mo_id)))))) (Mo_nd (Mo_nd (Mo_nd (Mo_lf (Mo_id)) (Mo_lf (Mo_id))) (Mo_nd (Mo_lf (Mo_id)) (Mo_nd (Mo_lf (Mo_id)) (Mo_lf (Mo_id))))) (Mo_nd (Mo_nd (Mo_lf (Mo_id)) (Mo_nd (Mo_lf (Mo_id)) (Mo_lf (Mo_id)))) (Mo_nd (Mo_lf (Mo_id)) (Mo_nd (Mo_lf (Mo_id)) (Mo_lf (Mo_iret hq))))))
theorem cx6_mind {l : Launch} : Ct l yX6_mind cX6_mind 3 (some .int) 1 (Sx S6_mind) := by
  refine Ct_of (T := fun Q => T6_mind Q S6_isOne S6_isIn S6_becomes) (by decide) (cl6_mind ct6_isOne ct6_isIn ct6_becomes) ?_
  intro av h Q' hS
  obtain ⟨Q, hS, hq⟩ := hS
  unfold S6_mind at hS
  split at hS
  · exact ⟨Nat.le_of_ble_eq_true rfl, Rn_mo (mo6_mind hq) (rn6_mind hS)⟩
  · exact hS.elim
theorem mo6_minds {Q Q' : Po} (hq : ∀ v h1, Q v h1 → isI v → Q' v h1) : ∀ pc, Mo (T6_minds Q S6_isSheet S6_isOne S6_isIn S6_lacks S6_within pc) (T6_minds Q' S6_isSheet S6_isOne S6_isIn S6_lacks S6_within pc) :=
  Mo_nd (Mo_nd (Mo_nd (Mo_nd (Mo_nd (Mo_nd (Mo_lf (Mo_id)) (Mo_lf (Mo_id))) (Mo_nd (Mo_lf (Mo_id)) (Mo_nd (Mo_lf (Mo_id)) (Mo_lf (Mo_id))))) (Mo_nd (Mo_nd (Mo_lf (Mo_id)) (Mo_nd (Mo_lf (Mo_id)) (Mo_lf (Mo_id)))) (Mo_nd (Mo_lf (Mo_id)) (Mo_nd (Mo_lf (Mo_id)) (Mo_lf (Mo_id)))))) (Mo_nd (Mo_nd (Mo_nd (Mo_lf (Mo_id)) (Mo_lf (Mo_id))) (Mo_nd (Mo_lf (Mo_id)) (Mo_nd (Mo_lf (Mo_id)) (Mo_lf (Mo_id))))) (Mo_nd (Mo_nd (Mo_lf (Mo_id)) (Mo_nd (Mo_lf (Mo_id)) (Mo_lf (Mo_id)))) (Mo_nd (Mo_lf (Mo_id)) (Mo_nd (Mo_lf (Mo_id)) (Mo_lf (Mo_id))))))) (Mo_nd (Mo_nd (Mo_nd (Mo_nd (Mo_lf (Mo_iret hq)) (Mo_lf (Mo_id))) (Mo_nd (Mo_lf (Mo_id)) (Mo_nd (Mo_lf (Mo_id)) (Mo_lf (Mo_id))))) (Mo_nd (Mo_nd (Mo_lf (Mo_id)) (Mo_nd (Mo_lf (Mo_id)) (Mo_lf (Mo_id)))) (Mo_nd (Mo_lf (Mo_id)) (Mo_nd (Mo_lf (Mo_id)) (Mo_lf (Mo_iret hq)))))) (Mo_nd (Mo_nd (Mo_nd (Mo_lf (Mo_id)) (Mo_lf (Mo_id))) (Mo_nd (Mo_lf (Mo_id)) (Mo_nd (Mo_lf (Mo_id)) (Mo_lf (Mo_id))))) (Mo_nd (Mo_nd (Mo_lf (Mo_id)) (Mo_nd (Mo_lf (Mo_id)) (Mo_lf (Mo_id)))) (Mo_nd (Mo_lf (Mo_id)) (Mo_nd (Mo_lf (Mo_id)) (Mo_lf (Mo_id)))))))) (Mo_nd (Mo_nd (Mo_nd (Mo_nd (Mo_nd (Mo_lf (Mo_id)) (Mo_lf (Mo_id))) (Mo_nd (Mo_lf (Mo_id)) (Mo_nd (Mo_lf (Mo_id)) (Mo_lf (Mo_id))))) (Mo_nd (Mo_nd (Mo_lf (Mo_id)) (Mo_nd (Mo_lf (Mo_id)) (Mo_lf (Mo_id)))) (Mo_nd (Mo_lf (Mo_id)) (Mo_nd (Mo_lf (Mo_id)) (Mo_lf (Mo_id)))))) (Mo_nd (Mo_nd (Mo_nd (Mo_lf (Mo_id)) (Mo_lf (Mo_iret hq))) (Mo_nd (Mo_lf (Mo_id)) (Mo_nd (Mo_lf (Mo_id)) (Mo_lf (Mo_id))))) (Mo_nd (Mo_nd (Mo_lf (Mo_id)) (Mo_nd (Mo_lf (Mo_id)) (Mo_lf (Mo_id)))) (Mo_nd (Mo_lf (Mo_id)) (Mo_nd (Mo_lf (Mo_id)) (Mo_lf (Mo_id))))))) (Mo_nd (Mo_nd (Mo_nd (Mo_nd (Mo_lf (Mo_id)) (Mo_lf (Mo_id))) (Mo_nd (Mo_lf (Mo_id)) (Mo_nd (Mo_lf (Mo_id)) (Mo_lf (Mo_id))))) (Mo_nd (Mo_nd (Mo_lf (Mo_id)) (Mo_nd (Mo_lf (Mo_id)) (Mo_lf (Mo_id)))) (Mo_nd (Mo_lf (Mo_id)) (Mo_nd (Mo_lf (Mo_id)) (Mo_lf (Mo_id)))))) (Mo_nd (Mo_nd (Mo_nd (Mo_lf (Mo_id)) (Mo_nd (Mo_lf (Mo_id)) (Mo_lf (Mo_id)))) (Mo_nd (Mo_lf (Mo_id)) (Mo_nd (Mo_lf (Mo_id)) (Mo_lf (Mo_id))))) (Mo_nd (Mo_nd (Mo_lf (Mo_id)) (Mo_nd (Mo_lf (Mo_id)) (Mo_lf (Mo_id)))) (Mo_nd (Mo_lf (Mo_id)) (Mo_nd (Mo_lf (Mo_id)) (Mo_lf (Mo_iret hq))))))))
theorem cx6_minds {l : Launch} : Ct l yX6_minds cX6_minds 6 (some .int) 2 (Sx S6_minds) := by
  refine Ct_of (T := fun Q => T6_minds Q S6_isSheet S6_isOne S6_isIn S6_lacks S6_within) (by decide) (cl6_minds ct6_isSheet ct6_isOne ct6_isIn ct6_lacks ct6_within) ?_
  intro av h Q' hS
  obtain ⟨Q, hS, hq⟩ := hS
  unfold S6_minds at hS
  split at hS
  · exact ⟨Nat.le_of_ble_eq_true rfl, Rn_mo (mo6_minds hq) (rn6_minds hS)⟩
  · exact hS.elim
theorem mo6_occasion {Q Q' : Po} (hq : ∀ v h1, Q v h1 → isI v → Q' v h1) : ∀ pc, Mo (T6_occasion Q S6_drawn S6_isOut S6_goesOn S6_thoseIn S6_size pc) (T6_occasion Q' S6_drawn S6_isOut S6_goesOn S6_thoseIn S6_size pc) :=
  Mo_nd (Mo_nd (Mo_nd (Mo_nd (Mo_nd (Mo_lf (Mo_id)) (Mo_nd (Mo_lf (Mo_id)) (Mo_lf (Mo_id)))) (Mo_nd (Mo_lf (Mo_id)) (Mo_nd (Mo_lf (Mo_id)) (Mo_lf (Mo_id))))) (Mo_nd (Mo_nd (Mo_lf (Mo_id)) (Mo_nd (Mo_lf (Mo_id)) (Mo_lf (Mo_id)))) (Mo_nd (Mo_nd (Mo_lf (Mo_id)) (Mo_lf (Mo_id))) (Mo_nd (Mo_lf (Mo_id)) (Mo_lf (Mo_id)))))) (Mo_nd (Mo_nd (Mo_nd (Mo_lf (Mo_id)) (Mo_nd (Mo_lf (Mo_id)) (Mo_lf (Mo_id)))) (Mo_nd (Mo_nd (Mo_lf (Mo_id)) (Mo_lf (Mo_id))) (Mo_nd (Mo_lf (Mo_id)) (Mo_lf (Mo_id))))) (Mo_nd (Mo_nd (Mo_lf (Mo_id)) (Mo_nd (Mo_lf (Mo_id)) (Mo_lf (Mo_id)))) (Mo_nd (Mo_nd (Mo_lf (Mo_id)) (Mo_lf (Mo_id))) (Mo_nd (Mo_lf (Mo_id)) (Mo_lf (Mo_id))))))) (Mo_nd (Mo_nd (Mo_nd (Mo_nd (Mo_lf (Mo_id)) (Mo_nd (Mo_lf (Mo_id)) (Mo_lf (Mo_id)))) (Mo_nd (Mo_nd (Mo_lf (Mo_id)) (Mo_lf (Mo_id))) (Mo_nd (Mo_lf (Mo_id)) (Mo_lf (Mo_id))))) (Mo_nd (Mo_nd (Mo_lf (Mo_id)) (Mo_nd (Mo_lf (Mo_id)) (Mo_lf (Mo_id)))) (Mo_nd (Mo_nd (Mo_lf (Mo_id)) (Mo_lf (Mo_id))) (Mo_nd (Mo_lf (Mo_id)) (Mo_lf (Mo_id)))))) (Mo_nd (Mo_nd (Mo_nd (Mo_lf (Mo_id)) (Mo_nd (Mo_lf (Mo_id)) (Mo_lf (Mo_id)))) (Mo_nd (Mo_nd (Mo_lf (Mo_id)) (Mo_lf (Mo_id))) (Mo_nd (Mo_lf (Mo_id)) (Mo_lf (Mo_id))))) (Mo_nd (Mo_nd (Mo_lf (Mo_id)) (Mo_nd (Mo_lf (Mo_id)) (Mo_lf (Mo_id)))) (Mo_nd (Mo_nd (Mo_lf (Mo_id)) (Mo_lf (Mo_id))) (Mo_nd (Mo_lf (Mo_id)) (Mo_lf (Mo_iret hq)))))))
theorem cx6_occasion {l : Launch} : Ct l yX6_occasion cX6_occasion 3 (some .int) 4 (Sx S6_occasion) := by
  refine Ct_of (T := fun Q => T6_occasion Q S6_drawn S6_isOut S6_goesOn S6_thoseIn S6_size) (by decide) (cl6_occasion ct6_drawn ct6_isOut ct6_goesOn ct6_thoseIn ct6_size) ?_
  intro av h Q' hS
  obtain ⟨Q, hS, hq⟩ := hS
  unfold S6_occasion at hS
  split at hS
  · exact ⟨Nat.le_of_ble_eq_true rfl, Rn_mo (mo6_occasion hq) (rn6_occasion hS)⟩
  · exact hS.elim
theorem mo6_occasions {Q Q' : Po} (hq : ∀ v h1, Q v h1 → isI v → Q' v h1) : ∀ pc, Mo (T6_occasions Q S6_isIn S6_goesOnMany S6_thoseIn S6_size pc) (T6_occasions Q' S6_isIn S6_goesOnMany S6_thoseIn S6_size pc) :=
  Mo_nd (Mo_nd (Mo_nd (Mo_nd (Mo_lf (Mo_id)) (Mo_lf (Mo_id))) (Mo_nd (Mo_lf (Mo_id)) (Mo_lf (Mo_id)))) (Mo_nd (Mo_nd (Mo_lf (Mo_id)) (Mo_lf (Mo_id))) (Mo_nd (Mo_lf (Mo_id)) (Mo_lf (Mo_iret hq))))) (Mo_nd (Mo_nd (Mo_nd (Mo_lf (Mo_id)) (Mo_lf (Mo_id))) (Mo_nd (Mo_lf (Mo_id)) (Mo_lf (Mo_id)))) (Mo_nd (Mo_nd (Mo_lf (Mo_id)) (Mo_lf (Mo_id))) (Mo_nd (Mo_lf (Mo_id)) (Mo_lf (Mo_iret hq)))))
theorem cx6_occasions {l : Launch} : Ct l yX6_occasions cX6_occasions 2 (some .int) 5 (Sx S6_occasions) := by
  refine Ct_of (T := fun Q => T6_occasions Q S6_isIn S6_goesOnMany S6_thoseIn S6_size) (by decide) (cl6_occasions ct6_isIn ct6_goesOnMany ct6_thoseIn ct6_size) ?_
  intro av h Q' hS
  obtain ⟨Q, hS, hq⟩ := hS
  unfold S6_occasions at hS
  split at hS
  · exact ⟨Nat.le_of_ble_eq_true rfl, Rn_mo (mo6_occasions hq) (rn6_occasions hS)⟩
  · exact hS.elim
theorem mo6_odds {Q Q' : Po} (hq : ∀ v h1, Q v h1 → isL v → Q' v h1) : ∀ pc, Mo (T6_odds Q S6_isIn S6_product S6_partOf pc) (T6_odds Q' S6_isIn S6_product S6_partOf pc) :=
  Mo_nd (Mo_nd (Mo_nd (Mo_nd (Mo_nd (Mo_nd (Mo_lf (Mo_id)) (Mo_lf (Mo_id))) (Mo_nd (Mo_lf (Mo_id)) (Mo_lf (Mo_id)))) (Mo_nd (Mo_nd (Mo_lf (Mo_id)) (Mo_lf (Mo_id))) (Mo_nd (Mo_lf (Mo_id)) (Mo_lf (Mo_id))))) (Mo_nd (Mo_nd (Mo_nd (Mo_lf (Mo_id)) (Mo_lf (Mo_id))) (Mo_nd (Mo_lf (Mo_id)) (Mo_lf (Mo_id)))) (Mo_nd (Mo_nd (Mo_lf (Mo_id)) (Mo_lf (Mo_id))) (Mo_nd (Mo_lf (Mo_id)) (Mo_nd (Mo_lf (Mo_id)) (Mo_lf (Mo_id))))))) (Mo_nd (Mo_nd (Mo_nd (Mo_nd (Mo_lf (Mo_id)) (Mo_lf (Mo_id))) (Mo_nd (Mo_lf (Mo_id)) (Mo_lf (Mo_lret hq)))) (Mo_nd (Mo_nd (Mo_lf (Mo_id)) (Mo_lf (Mo_id))) (Mo_nd (Mo_lf (Mo_id)) (Mo_lf (Mo_id))))) (Mo_nd (Mo_nd (Mo_nd (Mo_lf (Mo_id)) (Mo_lf (Mo_id))) (Mo_nd (Mo_lf (Mo_id)) (Mo_lf (Mo_id)))) (Mo_nd (Mo_nd (Mo_lf (Mo_id)) (Mo_lf (Mo_id))) (Mo_nd (Mo_lf (Mo_id)) (Mo_nd (Mo_lf (Mo_id)) (Mo_lf (Mo_id)))))))) (Mo_nd (Mo_nd (Mo_nd (Mo_nd (Mo_nd (Mo_lf (Mo_id)) (Mo_lf (Mo_id))) (Mo_nd (Mo_lf (Mo_id)) (Mo_lf (Mo_id)))) (Mo_nd (Mo_nd (Mo_lf (Mo_id)) (Mo_lf (Mo_id))) (Mo_nd (Mo_lf (Mo_id)) (Mo_lf (Mo_id))))) (Mo_nd (Mo_nd (Mo_nd (Mo_lf (Mo_id)) (Mo_lf (Mo_id))) (Mo_nd (Mo_lf (Mo_id)) (Mo_lf (Mo_id)))) (Mo_nd (Mo_nd (Mo_lf (Mo_id)) (Mo_lf (Mo_id))) (Mo_nd (Mo_lf (Mo_id)) (Mo_nd (Mo_lf (Mo_id)) (Mo_lf (Mo_id))))))) (Mo_nd (Mo_nd (Mo_nd (Mo_nd (Mo_lf (Mo_id)) (Mo_lf (Mo_id))) (Mo_nd (Mo_lf (Mo_id)) (Mo_lf (Mo_id)))) (Mo_nd (Mo_nd (Mo_lf (Mo_id)) (Mo_lf (Mo_id))) (Mo_nd (Mo_lf (Mo_id)) (Mo_nd (Mo_lf (Mo_id)) (Mo_lf (Mo_id)))))) (Mo_nd (Mo_nd (Mo_nd (Mo_lf (Mo_id)) (Mo_lf (Mo_id))) (Mo_nd (Mo_lf (Mo_id)) (Mo_lf (Mo_id)))) (Mo_nd (Mo_nd (Mo_lf (Mo_id)) (Mo_lf (Mo_id))) (Mo_nd (Mo_lf (Mo_id)) (Mo_nd (Mo_lf (Mo_id)) (Mo_lf (Mo_lret hq))))))))
theorem cx6_odds {l : Launch} : Ct l yX6_odds cX6_odds 9 (some .long) 1 (Sl S6_odds) := by
  refine Ct_of (T := fun Q => T6_odds Q S6_isIn S6_product S6_partOf) (by decide) (cl6_odds ct6_isIn ct6_product ct6_partOf) ?_
  intro av h Q' hS
  obtain ⟨Q, hS, hq⟩ := hS
  unfold S6_odds at hS
  split at hS
  · exact ⟨Nat.le_of_ble_eq_true rfl, Rn_mo (mo6_odds hq) (rn6_odds hS)⟩
  · exact hS.elim
theorem mo6_of {Q Q' : Po} (hq : ∀ v h1, Q v h1 → isI v → Q' v h1) : ∀ pc, Mo (T6_of Q S6_isOne S6_isIn S6_its S6_isKept pc) (T6_of Q' S6_isOne S6_isIn S6_its S6_isKept pc) :=
  Mo_nd (Mo_nd (Mo_nd (Mo_nd (Mo_lf (Mo_id)) (Mo_nd (Mo_lf (Mo_id)) (Mo_lf (Mo_id)))) (Mo_nd (Mo_nd (Mo_lf (Mo_id)) (Mo_lf (Mo_id))) (Mo_nd (Mo_lf (Mo_id)) (Mo_lf (Mo_id))))) (Mo_nd (Mo_nd (Mo_lf (Mo_id)) (Mo_nd (Mo_lf (Mo_id)) (Mo_lf (Mo_id)))) (Mo_nd (Mo_nd (Mo_lf (Mo_id)) (Mo_lf (Mo_iret hq))) (Mo_nd (Mo_lf (Mo_id)) (Mo_lf (Mo_id)))))) (Mo_nd (Mo_nd (Mo_nd (Mo_lf (Mo_id)) (Mo_nd (Mo_lf (Mo_id)) (Mo_lf (Mo_id)))) (Mo_nd (Mo_nd (Mo_lf (Mo_id)) (Mo_lf (Mo_id))) (Mo_nd (Mo_lf (Mo_id)) (Mo_lf (Mo_id))))) (Mo_nd (Mo_nd (Mo_lf (Mo_id)) (Mo_nd (Mo_lf (Mo_id)) (Mo_lf (Mo_id)))) (Mo_nd (Mo_nd (Mo_lf (Mo_id)) (Mo_lf (Mo_id))) (Mo_nd (Mo_lf (Mo_id)) (Mo_lf (Mo_iret hq))))))
theorem cx6_of {l : Launch} : Ct l yX6_of cX6_of 3 (some .int) 3 (Sx S6_of) := by
  refine Ct_of (T := fun Q => T6_of Q S6_isOne S6_isIn S6_its S6_isKept) (by decide) (cl6_of ct6_isOne ct6_isIn ct6_its ct6_isKept) ?_
  intro av h Q' hS
  obtain ⟨Q, hS, hq⟩ := hS
  unfold S6_of at hS
  split at hS
  · exact ⟨Nat.le_of_ble_eq_true rfl, Rn_mo (mo6_of hq) (rn6_of hS)⟩
  · exact hS.elim
theorem mo6_passes {Q Q' : Po} (hq : ∀ v h1, Q v h1 → isI v → Q' v h1) : ∀ pc, Mo (T6_passes Q S6_isOne S6_isIn S6_passesBy S6_orNone pc) (T6_passes Q' S6_isOne S6_isIn S6_passesBy S6_orNone pc) :=
  Mo_nd (Mo_nd (Mo_nd (Mo_nd (Mo_lf (Mo_id)) (Mo_lf (Mo_id))) (Mo_nd (Mo_lf (Mo_id)) (Mo_lf (Mo_id)))) (Mo_nd (Mo_nd (Mo_lf (Mo_id)) (Mo_lf (Mo_id))) (Mo_nd (Mo_lf (Mo_id)) (Mo_nd (Mo_lf (Mo_id)) (Mo_lf (Mo_id)))))) (Mo_nd (Mo_nd (Mo_nd (Mo_lf (Mo_id)) (Mo_lf (Mo_id))) (Mo_nd (Mo_lf (Mo_id)) (Mo_nd (Mo_lf (Mo_id)) (Mo_lf (Mo_id))))) (Mo_nd (Mo_nd (Mo_lf (Mo_id)) (Mo_lf (Mo_id))) (Mo_nd (Mo_lf (Mo_id)) (Mo_nd (Mo_lf (Mo_id)) (Mo_lf (Mo_iret hq))))))
theorem cx6_passes {l : Launch} : Ct l yX6_passes cX6_passes 3 (some .int) 5 (Sx S6_passes) := by
  refine Ct_of (T := fun Q => T6_passes Q S6_isOne S6_isIn S6_passesBy S6_orNone) (by decide) (cl6_passes ct6_isOne ct6_isIn ct6_passesBy ct6_orNone) ?_
  intro av h Q' hS
  obtain ⟨Q, hS, hq⟩ := hS
  unfold S6_passes at hS
  split at hS
  · exact ⟨Nat.le_of_ble_eq_true rfl, Rn_mo (mo6_passes hq) (rn6_passes hS)⟩
  · exact hS.elim
theorem mo6_prove {Q Q' : Po} (hq : ∀ v h1, Q v h1 → isI v → Q' v h1) : ∀ pc, Mo (T6_prove Q S6_isOne S6_isIn S6_copyRow S6_goesOn S6_its S6_thoseIn pc) (T6_prove Q' S6_isOne S6_isIn S6_copyRow S6_goesOn S6_its S6_thoseIn pc) :=
  Mo_nd (Mo_nd (Mo_nd (Mo_nd (Mo_nd (Mo_nd (Mo_lf (Mo_id)) (Mo_lf (Mo_id))) (Mo_nd (Mo_lf (Mo_id)) (Mo_lf (Mo_id)))) (Mo_nd (Mo_nd (Mo_lf (Mo_id)) (Mo_lf (Mo_id))) (Mo_nd (Mo_lf (Mo_id)) (Mo_lf (Mo_id))))) (Mo_nd (Mo_nd (Mo_nd (Mo_lf (Mo_id)) (Mo_lf (Mo_id))) (Mo_nd (Mo_lf (Mo_id)) (Mo_lf (Mo_iret hq)))) (Mo_nd (Mo_nd (Mo_lf (Mo_id)) (Mo_lf (Mo_id))) (Mo_nd (Mo_lf (Mo_id)) (Mo_nd (Mo_lf (Mo_id)) (Mo_lf (Mo_id))))))) (Mo_nd (Mo_nd (Mo_nd (Mo_nd (Mo_lf (Mo_id)) (Mo_lf (Mo_id))) (Mo_nd (Mo_lf (Mo_id)) (Mo_lf (Mo_id)))) (Mo_nd (Mo_nd (Mo_lf (Mo_id)) (Mo_lf (Mo_id))) (Mo_nd (Mo_lf (Mo_id)) (Mo_lf (Mo_id))))) (Mo_nd (Mo_nd (Mo_nd (Mo_lf (Mo_id)) (Mo_lf (Mo_id))) (Mo_nd (Mo_lf (Mo_id)) (Mo_lf (Mo_id)))) (Mo_nd (Mo_nd (Mo_lf (Mo_id)) (Mo_lf (Mo_id))) (Mo_nd (Mo_lf (Mo_id)) (Mo_nd (Mo_lf (Mo_id)) (Mo_lf (Mo_id)))))))) (Mo_nd (Mo_nd (Mo_nd (Mo_nd (Mo_nd (Mo_lf (Mo_id)) (Mo_lf (Mo_id))) (Mo_nd (Mo_lf (Mo_id)) (Mo_lf (Mo_id)))) (Mo_nd (Mo_nd (Mo_lf (Mo_id)) (Mo_lf (Mo_id))) (Mo_nd (Mo_lf (Mo_id)) (Mo_lf (Mo_id))))) (Mo_nd (Mo_nd (Mo_nd (Mo_lf (Mo_id)) (Mo_lf (Mo_id))) (Mo_nd (Mo_lf (Mo_id)) (Mo_lf (Mo_id)))) (Mo_nd (Mo_nd (Mo_lf (Mo_id)) (Mo_lf (Mo_id))) (Mo_nd (Mo_lf (Mo_id)) (Mo_nd (Mo_lf (Mo_id)) (Mo_lf (Mo_id))))))) (Mo_nd (Mo_nd (Mo_nd (Mo_nd (Mo_lf (Mo_id)) (Mo_lf (Mo_id))) (Mo_nd (Mo_lf (Mo_id)) (Mo_lf (Mo_id)))) (Mo_nd (Mo_nd (Mo_lf (Mo_id)) (Mo_lf (Mo_id))) (Mo_nd (Mo_lf (Mo_id)) (Mo_nd (Mo_lf (Mo_id)) (Mo_lf (Mo_id)))))) (Mo_nd (Mo_nd (Mo_nd (Mo_lf (Mo_id)) (Mo_lf (Mo_id))) (Mo_nd (Mo_lf (Mo_id)) (Mo_lf (Mo_id)))) (Mo_nd (Mo_nd (Mo_lf (Mo_id)) (Mo_lf (Mo_id))) (Mo_nd (Mo_lf (Mo_id)) (Mo_nd (Mo_lf (Mo_id)) (Mo_lf (Mo_iret hq))))))))
theorem cx6_prove {l : Launch} : Ct l yX6_prove cX6_prove 4 (some .int) 4 (Sx S6_prove) := by
  refine Ct_of (T := fun Q => T6_prove Q S6_isOne S6_isIn S6_copyRow S6_goesOn S6_its S6_thoseIn) (by decide) (cl6_prove ct6_isOne ct6_isIn ct6_copyRow ct6_goesOn ct6_its ct6_thoseIn) ?_
  intro av h Q' hS
  obtain ⟨Q, hS, hq⟩ := hS
  unfold S6_prove at hS
  split at hS
  · exact ⟨Nat.le_of_ble_eq_true rfl, Rn_mo (mo6_prove hq) (rn6_prove hS)⟩
  · exact hS.elim
theorem mo6_put {Q Q' : Po} (hq : ∀ v h1, Q v h1 → isI v → Q' v h1) : ∀ pc, Mo (T6_put Q S6_isSheet S6_isIn pc) (T6_put Q' S6_isSheet S6_isIn pc) :=
  Mo_nd (Mo_nd (Mo_nd (Mo_nd (Mo_nd (Mo_lf (Mo_id)) (Mo_nd (Mo_lf (Mo_id)) (Mo_lf (Mo_id)))) (Mo_nd (Mo_lf (Mo_id)) (Mo_nd (Mo_lf (Mo_iret hq)) (Mo_lf (Mo_id))))) (Mo_nd (Mo_nd (Mo_lf (Mo_id)) (Mo_nd (Mo_lf (Mo_id)) (Mo_lf (Mo_id)))) (Mo_nd (Mo_nd (Mo_lf (Mo_id)) (Mo_lf (Mo_id))) (Mo_nd (Mo_lf (Mo_iret hq)) (Mo_lf (Mo_id)))))) (Mo_nd (Mo_nd (Mo_nd (Mo_lf (Mo_id)) (Mo_nd (Mo_lf (Mo_id)) (Mo_lf (Mo_id)))) (Mo_nd (Mo_nd (Mo_lf (Mo_id)) (Mo_lf (Mo_id))) (Mo_nd (Mo_lf (Mo_id)) (Mo_lf (Mo_id))))) (Mo_nd (Mo_nd (Mo_lf (Mo_id)) (Mo_nd (Mo_lf (Mo_id)) (Mo_lf (Mo_id)))) (Mo_nd (Mo_nd (Mo_lf (Mo_id)) (Mo_lf (Mo_id))) (Mo_nd (Mo_lf (Mo_iret hq)) (Mo_lf (Mo_id))))))) (Mo_nd (Mo_nd (Mo_nd (Mo_nd (Mo_lf (Mo_id)) (Mo_nd (Mo_lf (Mo_id)) (Mo_lf (Mo_id)))) (Mo_nd (Mo_lf (Mo_id)) (Mo_nd (Mo_lf (Mo_id)) (Mo_lf (Mo_id))))) (Mo_nd (Mo_nd (Mo_lf (Mo_id)) (Mo_nd (Mo_lf (Mo_id)) (Mo_lf (Mo_id)))) (Mo_nd (Mo_nd (Mo_lf (Mo_id)) (Mo_lf (Mo_id))) (Mo_nd (Mo_lf (Mo_id)) (Mo_lf (Mo_id)))))) (Mo_nd (Mo_nd (Mo_nd (Mo_lf (Mo_id)) (Mo_nd (Mo_lf (Mo_id)) (Mo_lf (Mo_id)))) (Mo_nd (Mo_nd (Mo_lf (Mo_id)) (Mo_lf (Mo_id))) (Mo_nd (Mo_lf (Mo_id)) (Mo_lf (Mo_id))))) (Mo_nd (Mo_nd (Mo_lf (Mo_id)) (Mo_nd (Mo_lf (Mo_id)) (Mo_lf (Mo_id)))) (Mo_nd (Mo_nd (Mo_lf (Mo_id)) (Mo_lf (Mo_id))) (Mo_nd (Mo_lf (Mo_id)) (Mo_lf (Mo_iret hq)))))))
theorem cx6_put {l : Launch} : Ct l yX6_put cX6_put 4 (some .int) 2 (Sx S6_put) := by
  refine Ct_of (T := fun Q => T6_put Q S6_isSheet S6_isIn) (by decide) (cl6_put ct6_isSheet ct6_isIn) ?_
  intro av h Q' hS
  obtain ⟨Q, hS, hq⟩ := hS
  unfold S6_put at hS
  split at hS
  · exact ⟨Nat.le_of_ble_eq_true rfl, Rn_mo (mo6_put hq) (rn6_put hS)⟩
  · exact hS.elim
theorem mo6_rite {Q Q' : Po} (hq : ∀ v h1, Q v h1 → isI v → Q' v h1) : ∀ pc, Mo (T6_rite Q S6_isRoom S6_isIn S6_becomes pc) (T6_rite Q' S6_isRoom S6_isIn S6_becomes pc) :=
  Mo_nd (Mo_nd (Mo_nd (Mo_nd (Mo_lf (Mo_id)) (Mo_lf (Mo_id))) (Mo_nd (Mo_lf (Mo_id)) (Mo_lf (Mo_id)))) (Mo_nd (Mo_nd (Mo_lf (Mo_id)) (Mo_lf (Mo_id))) (Mo_nd (Mo_lf (Mo_id)) (Mo_nd (Mo_lf (Mo_id)) (Mo_lf (Mo_id)))))) (Mo_nd (Mo_nd (Mo_nd (Mo_lf (Mo_id)) (Mo_lf (Mo_id))) (Mo_nd (Mo_lf (Mo_id)) (Mo_lf (Mo_id)))) (Mo_nd (Mo_nd (Mo_lf (Mo_id)) (Mo_lf (Mo_id))) (Mo_nd (Mo_lf (Mo_id)) (Mo_nd (Mo_lf (Mo_id)) (Mo_lf (Mo_iret hq))))))
theorem cx6_rite {l : Launch} : Ct l yX6_rite cX6_rite 3 (some .int) 1 (Sx S6_rite) := by
  refine Ct_of (T := fun Q => T6_rite Q S6_isRoom S6_isIn S6_becomes) (by decide) (cl6_rite ct6_isRoom ct6_isIn ct6_becomes) ?_
  intro av h Q' hS
  obtain ⟨Q, hS, hq⟩ := hS
  unfold S6_rite at hS
  split at hS
  · exact ⟨Nat.le_of_ble_eq_true rfl, Rn_mo (mo6_rite hq) (rn6_rite hS)⟩
  · exact hS.elim
theorem mo6_riteFor {Q Q' : Po} (hq : ∀ v h1, Q v h1 → isI v → Q' v h1) : ∀ pc, Mo (T6_riteFor Q S6_isOne S6_passesBy S6_becomes pc) (T6_riteFor Q' S6_isOne S6_passesBy S6_becomes pc) :=
  Mo_nd (Mo_nd (Mo_nd (Mo_nd (Mo_nd (Mo_lf (Mo_id)) (Mo_nd (Mo_lf (Mo_id)) (Mo_lf (Mo_id)))) (Mo_nd (Mo_nd (Mo_lf (Mo_id)) (Mo_lf (Mo_id))) (Mo_nd (Mo_lf (Mo_iret hq)) (Mo_lf (Mo_id))))) (Mo_nd (Mo_nd (Mo_lf (Mo_id)) (Mo_nd (Mo_lf (Mo_id)) (Mo_lf (Mo_id)))) (Mo_nd (Mo_nd (Mo_lf (Mo_id)) (Mo_lf (Mo_id))) (Mo_nd (Mo_lf (Mo_id)) (Mo_lf (Mo_id)))))) (Mo_nd (Mo_nd (Mo_nd (Mo_lf (Mo_id)) (Mo_nd (Mo_lf (Mo_id)) (Mo_lf (Mo_id)))) (Mo_nd (Mo_nd (Mo_lf (Mo_id)) (Mo_lf (Mo_id))) (Mo_nd (Mo_lf (Mo_id)) (Mo_lf (Mo_id))))) (Mo_nd (Mo_nd (Mo_lf (Mo_id)) (Mo_nd (Mo_lf (Mo_id)) (Mo_lf (Mo_id)))) (Mo_nd (Mo_nd (Mo_lf (Mo_id)) (Mo_lf (Mo_id))) (Mo_nd (Mo_lf (Mo_id)) (Mo_lf (Mo_id))))))) (Mo_nd (Mo_nd (Mo_nd (Mo_nd (Mo_lf (Mo_id)) (Mo_nd (Mo_lf (Mo_id)) (Mo_lf (Mo_id)))) (Mo_nd (Mo_nd (Mo_lf (Mo_id)) (Mo_lf (Mo_id))) (Mo_nd (Mo_lf (Mo_id)) (Mo_lf (Mo_id))))) (Mo_nd (Mo_nd (Mo_lf (Mo_id)) (Mo_nd (Mo_lf (Mo_id)) (Mo_lf (Mo_id)))) (Mo_nd (Mo_nd (Mo_lf (Mo_id)) (Mo_lf (Mo_id))) (Mo_nd (Mo_lf (Mo_id)) (Mo_lf (Mo_id)))))) (Mo_nd (Mo_nd (Mo_nd (Mo_lf (Mo_id)) (Mo_nd (Mo_lf (Mo_id)) (Mo_lf (Mo_id)))) (Mo_nd (Mo_nd (Mo_lf (Mo_id)) (Mo_lf (Mo_id))) (Mo_nd (Mo_lf (Mo_id)) (Mo_lf (Mo_id))))) (Mo_nd (Mo_nd (Mo_nd (Mo_lf (Mo_id)) (Mo_lf (Mo_id))) (Mo_nd (Mo_lf (Mo_id)) (Mo_lf (Mo_id)))) (Mo_nd (Mo_nd (Mo_lf (Mo_id)) (Mo_lf (Mo_id))) (Mo_nd (Mo_lf (Mo_id)) (Mo_lf (Mo_iret hq)))))))
theorem cx6_riteFor {l : Launch} : Ct l yX6_riteFor cX6_riteFor 7 (some .int) 5 (Sx S6_riteFor) := by
  refine Ct_of (T := fun Q => T6_riteFor Q S6_isOne S6_passesBy S6_becomes) (by decide) (cl6_riteFor ct6_isOne ct6_passesBy ct6_becomes) ?_
  intro av h Q' hS
  obtain ⟨Q, hS, hq⟩ := hS
  unfold S6_riteFor at hS
  split at hS
  · exact ⟨Nat.le_of_ble_eq_true rfl, Rn_mo (mo6_riteFor hq) (rn6_riteFor hS)⟩
  · exact hS.elim
theorem mo6_room {Q Q' : Po} (hq : ∀ v h1, Q v h1 → isI v → Q' v h1) : ∀ pc, Mo (T6_room Q S6_isRoom S6_isIn S6_thoseIn pc) (T6_room Q' S6_isRoom S6_isIn S6_thoseIn pc) :=
  Mo_nd (Mo_nd (Mo_nd (Mo_nd (Mo_lf (Mo_id)) (Mo_nd (Mo_lf (Mo_id)) (Mo_lf (Mo_id)))) (Mo_nd (Mo_lf (Mo_id)) (Mo_nd (Mo_lf (Mo_id)) (Mo_lf (Mo_id))))) (Mo_nd (Mo_nd (Mo_lf (Mo_id)) (Mo_nd (Mo_lf (Mo_id)) (Mo_lf (Mo_id)))) (Mo_nd (Mo_lf (Mo_id)) (Mo_nd (Mo_lf (Mo_iret hq)) (Mo_lf (Mo_id)))))) (Mo_nd (Mo_nd (Mo_nd (Mo_lf (Mo_id)) (Mo_nd (Mo_lf (Mo_id)) (Mo_lf (Mo_id)))) (Mo_nd (Mo_lf (Mo_id)) (Mo_nd (Mo_lf (Mo_id)) (Mo_lf (Mo_id))))) (Mo_nd (Mo_nd (Mo_lf (Mo_id)) (Mo_nd (Mo_lf (Mo_id)) (Mo_lf (Mo_id)))) (Mo_nd (Mo_lf (Mo_id)) (Mo_nd (Mo_lf (Mo_id)) (Mo_lf (Mo_iret hq))))))
theorem cx6_room {l : Launch} : Ct l yX6_room cX6_room 3 (some .int) 2 (Sx S6_room) := by
  refine Ct_of (T := fun Q => T6_room Q S6_isRoom S6_isIn S6_thoseIn) (by decide) (cl6_room ct6_isRoom ct6_isIn ct6_thoseIn) ?_
  intro av h Q' hS
  obtain ⟨Q, hS, hq⟩ := hS
  unfold S6_room at hS
  split at hS
  · exact ⟨Nat.le_of_ble_eq_true rfl, Rn_mo (mo6_room hq) (rn6_room hS)⟩
  · exact hS.elim
theorem mo6_row {Q Q' : Po} (hq : ∀ v h1, Q v h1 → isI v → Q' v h1) : ∀ pc, Mo (T6_row Q S6_isRow pc) (T6_row Q' S6_isRow pc) :=
  Mo_nd (Mo_nd (Mo_nd (Mo_nd (Mo_lf (Mo_id)) (Mo_lf (Mo_id))) (Mo_nd (Mo_lf (Mo_id)) (Mo_lf (Mo_id)))) (Mo_nd (Mo_nd (Mo_lf (Mo_id)) (Mo_lf (Mo_id))) (Mo_nd (Mo_lf (Mo_id)) (Mo_lf (Mo_id))))) (Mo_nd (Mo_nd (Mo_nd (Mo_lf (Mo_id)) (Mo_lf (Mo_id))) (Mo_nd (Mo_lf (Mo_id)) (Mo_lf (Mo_id)))) (Mo_nd (Mo_nd (Mo_lf (Mo_id)) (Mo_lf (Mo_id))) (Mo_nd (Mo_lf (Mo_id)) (Mo_lf (Mo_iret hq)))))
theorem cx6_row {l : Launch} : Ct l yX6_row cX6_row 3 (some .int) 2 (Sx S6_row) := by
  refine Ct_of (T := fun Q => T6_row Q S6_isRow) (by decide) (cl6_row ct6_isRow) ?_
  intro av h Q' hS
  obtain ⟨Q, hS, hq⟩ := hS
  unfold S6_row at hS
  split at hS
  · exact ⟨Nat.le_of_ble_eq_true rfl, Rn_mo (mo6_row hq) (rn6_row hS)⟩
  · exact hS.elim
theorem mo6_rudeFor {Q Q' : Po} (hq : ∀ v h1, Q v h1 → isI v → Q' v h1) : ∀ pc, Mo (T6_rudeFor Q S6_isOne S6_isShort S6_its S6_size S6_passesBy pc) (T6_rudeFor Q' S6_isOne S6_isShort S6_its S6_size S6_passesBy pc) :=
  Mo_nd (Mo_nd (Mo_nd (Mo_nd (Mo_nd (Mo_nd (Mo_lf (Mo_id)) (Mo_nd (Mo_lf (Mo_id)) (Mo_lf (Mo_id)))) (Mo_nd (Mo_nd (Mo_lf (Mo_id)) (Mo_lf (Mo_id))) (Mo_nd (Mo_lf (Mo_id)) (Mo_lf (Mo_id))))) (Mo_nd (Mo_nd (Mo_lf (Mo_id)) (Mo_nd (Mo_lf (Mo_iret hq)) (Mo_lf (Mo_id)))) (Mo_nd (Mo_nd (Mo_lf (Mo_id)) (Mo_lf (Mo_id))) (Mo_nd (Mo_lf (Mo_id)) (Mo_lf (Mo_id)))))) (Mo_nd (Mo_nd (Mo_nd (Mo_lf (Mo_id)) (Mo_nd (Mo_lf (Mo_id)) (Mo_lf (Mo_id)))) (Mo_nd (Mo_nd (Mo_lf (Mo_id)) (Mo_lf (Mo_id))) (Mo_nd (Mo_lf (Mo_id)) (Mo_lf (Mo_id))))) (Mo_nd (Mo_nd (Mo_nd (Mo_lf (Mo_id)) (Mo_lf (Mo_id))) (Mo_nd (Mo_lf (Mo_id)) (Mo_lf (Mo_id)))) (Mo_nd (Mo_nd (Mo_lf (Mo_id)) (Mo_lf (Mo_id))) (Mo_nd (Mo_lf (Mo_id)) (Mo_lf (Mo_id))))))) (Mo_nd (Mo_nd (Mo_nd (Mo_nd (Mo_lf (Mo_id)) (Mo_nd (Mo_lf (Mo_id)) (Mo_lf (Mo_id)))) (Mo_nd (Mo_nd (Mo_lf (Mo_id)) (Mo_lf (Mo_id))) (Mo_nd (Mo_lf (Mo_id)) (Mo_lf (Mo_id))))) (Mo_nd (Mo_nd (Mo_nd (Mo_lf (Mo_id)) (Mo_lf (Mo_id))) (Mo_nd (Mo_lf (Mo_id)) (Mo_lf (Mo_id)))) (Mo_nd (Mo_nd (Mo_lf (Mo_id)) (Mo_lf (Mo_id))) (Mo_nd (Mo_lf (Mo_id)) (Mo_lf (Mo_id)))))) (Mo_nd (Mo_nd (Mo_nd (Mo_lf (Mo_id)) (Mo_nd (Mo_lf (Mo_id)) (Mo_lf (Mo_id)))) (Mo_nd (Mo_nd (Mo_lf (Mo_id)) (Mo_lf (Mo_id))) (Mo_nd (Mo_lf (Mo_id)) (Mo_lf (Mo_id))))) (Mo_nd (Mo_nd (Mo_nd (Mo_lf (Mo_id)) (Mo_lf (Mo_id))) (Mo_nd (Mo_lf (Mo_id)) (Mo_lf (Mo_id)))) (Mo_nd (Mo_nd (Mo_lf (Mo_id)) (Mo_lf (Mo_id))) (Mo_nd (Mo_lf (Mo_id)) (Mo_lf (Mo_id)))))))) (Mo_nd (Mo_nd (Mo_nd (Mo_nd (Mo_nd (Mo_lf (Mo_id)) (Mo_nd (Mo_lf (Mo_id)) (Mo_lf (Mo_id)))) (Mo_nd (Mo_nd (Mo_lf (Mo_id)) (Mo_lf (Mo_id))) (Mo_nd (Mo_lf (Mo_id)) (Mo_lf (Mo_id))))) (Mo_nd (Mo_nd (Mo_lf (Mo_id)) (Mo_nd (Mo_lf (Mo_id)) (Mo_lf (Mo_id)))) (Mo_nd (Mo_nd (Mo_lf (Mo_id)) (Mo_lf (Mo_id))) (Mo_nd (Mo_lf (Mo_id)) (Mo_lf (Mo_id)))))) (Mo_nd (Mo_nd (Mo_nd (Mo_lf (Mo_id)) (Mo_nd (Mo_lf (Mo_id)) (Mo_lf (Mo_id)))) (Mo_nd (Mo_nd (Mo_lf (Mo_id)) (Mo_lf (Mo_id))) (Mo_nd (Mo_lf (Mo_id)) (Mo_lf (Mo_id))))) (Mo_nd (Mo_nd (Mo_nd (Mo_lf (Mo_id)) (Mo_lf (Mo_id))) (Mo_nd (Mo_lf (Mo_id)) (Mo_lf (Mo_id)))) (Mo_nd (Mo_nd (Mo_lf (Mo_id)) (Mo_lf (Mo_id))) (Mo_nd (Mo_lf (Mo_id)) (Mo_lf (Mo_id))))))) (Mo_nd (Mo_nd (Mo_nd (Mo_nd (Mo_lf (Mo_id)) (Mo_nd (Mo_lf (Mo_id)) (Mo_lf (Mo_id)))) (Mo_nd (Mo_nd (Mo_lf (Mo_id)) (Mo_lf (Mo_id))) (Mo_nd (Mo_lf (Mo_id)) (Mo_lf (Mo_id))))) (Mo_nd (Mo_nd (Mo_nd (Mo_lf (Mo_id)) (Mo_lf (Mo_id))) (Mo_nd (Mo_lf (Mo_id)) (Mo_lf (Mo_id)))) (Mo_nd (Mo_nd (Mo_lf (Mo_id)) (Mo_lf (Mo_id))) (Mo_nd (Mo_lf (Mo_id)) (Mo_lf (Mo_id)))))) (Mo_nd (Mo_nd (Mo_nd (Mo_lf (Mo_id)) (Mo_nd (Mo_lf (Mo_id)) (Mo_lf (Mo_id)))) (Mo_nd (Mo_nd (Mo_lf (Mo_id)) (Mo_lf (Mo_id))) (Mo_nd (Mo_lf (Mo_id)) (Mo_lf (Mo_id))))) (Mo_nd (Mo_nd (Mo_nd (Mo_lf (Mo_id)) (Mo_lf (Mo_id))) (Mo_nd (Mo_lf (Mo_id)) (Mo_lf (Mo_id)))) (Mo_nd (Mo_nd (Mo_lf (Mo_id)) (Mo_lf (Mo_id))) (Mo_nd (Mo_lf (Mo_id)) (Mo_lf (Mo_iret hq))))))))
theorem cx6_rudeFor {l : Launch} : Ct l yX6_rudeFor cX6_rudeFor 6 (some .int) 5 (Sx S6_rudeFor) := by
  refine Ct_of (T := fun Q => T6_rudeFor Q S6_isOne S6_isShort S6_its S6_size S6_passesBy) (by decide) (cl6_rudeFor ct6_isOne ct6_isShort ct6_its ct6_size ct6_passesBy) ?_
  intro av h Q' hS
  obtain ⟨Q, hS, hq⟩ := hS
  unfold S6_rudeFor at hS
  split at hS
  · exact ⟨Nat.le_of_ble_eq_true rfl, Rn_mo (mo6_rudeFor hq) (rn6_rudeFor hS)⟩
  · exact hS.elim
theorem mo6_seed {Q Q' : Po} (hq : ∀ v h1, Q v h1 → isI v → Q' v h1) : ∀ pc, Mo (T6_seed Q S6_becomes pc) (T6_seed Q' S6_becomes pc) :=
  Mo_nd (Mo_nd (Mo_lf (Mo_id)) (Mo_lf (Mo_id))) (Mo_nd (Mo_lf (Mo_id)) (Mo_nd (Mo_lf (Mo_id)) (Mo_lf (Mo_iret hq))))
theorem cx6_seed {l : Launch} : Ct l yX6_seed cX6_seed 2 (some .int) 1 (Sx S6_seed) := by
  refine Ct_of (T := fun Q => T6_seed Q S6_becomes) (by decide) (cl6_seed ct6_becomes) ?_
  intro av h Q' hS
  obtain ⟨Q, hS, hq⟩ := hS
  unfold S6_seed at hS
  split at hS
  · exact ⟨Nat.le_of_ble_eq_true rfl, Rn_mo (mo6_seed hq) (rn6_seed hS)⟩
  · exact hS.elim
theorem mo6_set {Q Q' : Po} (hq : ∀ v h1, Q v h1 → isI v → Q' v h1) : ∀ pc, Mo (T6_set Q S6_isIn S6_becomes pc) (T6_set Q' S6_isIn S6_becomes pc) :=
  Mo_nd (Mo_nd (Mo_nd (Mo_nd (Mo_lf (Mo_id)) (Mo_nd (Mo_lf (Mo_id)) (Mo_lf (Mo_id)))) (Mo_nd (Mo_lf (Mo_id)) (Mo_nd (Mo_lf (Mo_id)) (Mo_lf (Mo_id))))) (Mo_nd (Mo_nd (Mo_lf (Mo_id)) (Mo_nd (Mo_lf (Mo_id)) (Mo_lf (Mo_id)))) (Mo_nd (Mo_nd (Mo_lf (Mo_id)) (Mo_lf (Mo_id))) (Mo_nd (Mo_lf (Mo_id)) (Mo_lf (Mo_id)))))) (Mo_nd (Mo_nd (Mo_nd (Mo_lf (Mo_id)) (Mo_nd (Mo_lf (Mo_id)) (Mo_lf (Mo_id)))) (Mo_nd (Mo_lf (Mo_id)) (Mo_nd (Mo_lf (Mo_id)) (Mo_lf (Mo_id))))) (Mo_nd (Mo_nd (Mo_lf (Mo_id)) (Mo_nd (Mo_lf (Mo_id)) (Mo_lf (Mo_id)))) (Mo_nd (Mo_nd (Mo_lf (Mo_id)) (Mo_lf (Mo_id))) (Mo_nd (Mo_lf (Mo_id)) (Mo_lf (Mo_iret hq))))))
theorem cx6_set {l : Launch} : Ct l yX6_set cX6_set 3 (some .int) 1 (Sx S6_set) := by
  refine Ct_of (T := fun Q => T6_set Q S6_isIn S6_becomes) (by decide) (cl6_set ct6_isIn ct6_becomes) ?_
  intro av h Q' hS
  obtain ⟨Q, hS, hq⟩ := hS
  unfold S6_set at hS
  split at hS
  · exact ⟨Nat.le_of_ble_eq_true rfl, Rn_mo (mo6_set hq) (rn6_set hS)⟩
  · exact hS.elim
theorem mo6_sheet {Q Q' : Po} (hq : ∀ v h1, Q v h1 → isI v → Q' v h1) : ∀ pc, Mo (T6_sheet Q S6_isSheet S6_isIn pc) (T6_sheet Q' S6_isSheet S6_isIn pc) :=
  Mo_nd (Mo_nd (Mo_nd (Mo_nd (Mo_nd (Mo_lf (Mo_id)) (Mo_nd (Mo_lf (Mo_id)) (Mo_lf (Mo_id)))) (Mo_nd (Mo_lf (Mo_id)) (Mo_nd (Mo_lf (Mo_id)) (Mo_lf (Mo_id))))) (Mo_nd (Mo_nd (Mo_lf (Mo_id)) (Mo_nd (Mo_lf (Mo_id)) (Mo_lf (Mo_id)))) (Mo_nd (Mo_nd (Mo_lf (Mo_id)) (Mo_lf (Mo_id))) (Mo_nd (Mo_lf (Mo_id)) (Mo_lf (Mo_id)))))) (Mo_nd (Mo_nd (Mo_nd (Mo_lf (Mo_id)) (Mo_nd (Mo_lf (Mo_id)) (Mo_lf (Mo_iret hq)))) (Mo_nd (Mo_nd (Mo_lf (Mo_id)) (Mo_lf (Mo_id))) (Mo_nd (Mo_lf (Mo_id)) (Mo_lf (Mo_id))))) (Mo_nd (Mo_nd (Mo_lf (Mo_id)) (Mo_nd (Mo_lf (Mo_iret hq)) (Mo_lf (Mo_id)))) (Mo_nd (Mo_nd (Mo_lf (Mo_id)) (Mo_lf (Mo_id))) (Mo_nd (Mo_lf (Mo_id)) (Mo_lf (Mo_id))))))) (Mo_nd (Mo_nd (Mo_nd (Mo_nd (Mo_lf (Mo_id)) (Mo_nd (Mo_lf (Mo_id)) (Mo_lf (Mo_id)))) (Mo_nd (Mo_lf (Mo_id)) (Mo_nd (Mo_lf (Mo_id)) (Mo_lf (Mo_id))))) (Mo_nd (Mo_nd (Mo_lf (Mo_id)) (Mo_nd (Mo_lf (Mo_id)) (Mo_lf (Mo_id)))) (Mo_nd (Mo_nd (Mo_lf (Mo_id)) (Mo_lf (Mo_id))) (Mo_nd (Mo_lf (Mo_id)) (Mo_lf (Mo_id)))))) (Mo_nd (Mo_nd (Mo_nd (Mo_lf (Mo_id)) (Mo_nd (Mo_lf (Mo_id)) (Mo_lf (Mo_id)))) (Mo_nd (Mo_nd (Mo_lf (Mo_id)) (Mo_lf (Mo_id))) (Mo_nd (Mo_lf (Mo_id)) (Mo_lf (Mo_id))))) (Mo_nd (Mo_nd (Mo_lf (Mo_id)) (Mo_nd (Mo_lf (Mo_id)) (Mo_lf (Mo_id)))) (Mo_nd (Mo_nd (Mo_lf (Mo_id)) (Mo_lf (Mo_id))) (Mo_nd (Mo_lf (Mo_id)) (Mo_lf (Mo_iret hq)))))))
theorem cx6_sheet {l : Launch} : Ct l yX6_sheet cX6_sheet 5 (some .int) 2 (Sx S6_sheet) := by
  refine Ct_of (T := fun Q => T6_sheet Q S6_isSheet S6_isIn) (by decide) (cl6_sheet ct6_isSheet ct6_isIn) ?_
  intro av h Q' hS
  obtain ⟨Q, hS, hq⟩ := hS
  unfold S6_sheet at hS
  split at hS
  · exact ⟨Nat.le_of_ble_eq_true rfl, Rn_mo (mo6_sheet hq) (rn6_sheet hS)⟩
  · exact hS.elim
theorem mo6_shelf {Q Q' : Po} (hq : ∀ v h1, Q v h1 → isI v → Q' v h1) : ∀ pc, Mo (T6_shelf Q S6_isShelf S6_isIn S6_isOne S6_isSheet pc) (T6_shelf Q' S6_isShelf S6_isIn S6_isOne S6_isSheet pc) :=
  Mo_nd (Mo_nd (Mo_nd (Mo_nd (Mo_nd (Mo_nd (Mo_lf (Mo_id)) (Mo_lf (Mo_id))) (Mo_nd (Mo_lf (Mo_id)) (Mo_lf (Mo_id)))) (Mo_nd (Mo_nd (Mo_lf (Mo_id)) (Mo_lf (Mo_id))) (Mo_nd (Mo_lf (Mo_id)) (Mo_nd (Mo_lf (Mo_id)) (Mo_lf (Mo_id)))))) (Mo_nd (Mo_nd (Mo_nd (Mo_lf (Mo_id)) (Mo_lf (Mo_id))) (Mo_nd (Mo_lf (Mo_id)) (Mo_nd (Mo_lf (Mo_id)) (Mo_lf (Mo_id))))) (Mo_nd (Mo_nd (Mo_lf (Mo_id)) (Mo_lf (Mo_id))) (Mo_nd (Mo_lf (Mo_id)) (Mo_nd (Mo_lf (Mo_id)) (Mo_lf (Mo_id))))))) (Mo_nd (Mo_nd (Mo_nd (Mo_nd (Mo_lf (Mo_id)) (Mo_lf (Mo_id))) (Mo_nd (Mo_lf (Mo_id)) (Mo_nd (Mo_lf (Mo_iret hq)) (Mo_lf (Mo_id))))) (Mo_nd (Mo_nd (Mo_lf (Mo_id)) (Mo_lf (Mo_id))) (Mo_nd (Mo_lf (Mo_id)) (Mo_nd (Mo_lf (Mo_id)) (Mo_lf (Mo_id)))))) (Mo_nd (Mo_nd (Mo_nd (Mo_lf (Mo_id)) (Mo_lf (Mo_id))) (Mo_nd (Mo_lf (Mo_id)) (Mo_nd (Mo_lf (Mo_id)) (Mo_lf (Mo_id))))) (Mo_nd (Mo_nd (Mo_lf (Mo_id)) (Mo_lf (Mo_id))) (Mo_nd (Mo_lf (Mo_id)) (Mo_nd (Mo_lf (Mo_id)) (Mo_lf (Mo_id)))))))) (Mo_nd (Mo_nd (Mo_nd (Mo_nd (Mo_nd (Mo_lf (Mo_id)) (Mo_lf (Mo_id))) (Mo_nd (Mo_lf (Mo_id)) (Mo_lf (Mo_id)))) (Mo_nd (Mo_nd (Mo_lf (Mo_id)) (Mo_lf (Mo_id))) (Mo_nd (Mo_lf (Mo_id)) (Mo_nd (Mo_lf (Mo_id)) (Mo_lf (Mo_id)))))) (Mo_nd (Mo_nd (Mo_nd (Mo_lf (Mo_id)) (Mo_lf (Mo_id))) (Mo_nd (Mo_lf (Mo_id)) (Mo_nd (Mo_lf (Mo_id)) (Mo_lf (Mo_id))))) (Mo_nd (Mo_nd (Mo_lf (Mo_id)) (Mo_lf (Mo_id))) (Mo_nd (Mo_lf (Mo_id)) (Mo_nd (Mo_lf (Mo_id)) (Mo_lf (Mo_id))))))) (Mo_nd (Mo_nd (Mo_nd (Mo_nd (Mo_lf (Mo_id)) (Mo_lf (Mo_id))) (Mo_nd (Mo_lf (Mo_id)) (Mo_nd (Mo_lf (Mo_id)) (Mo_lf (Mo_id))))) (Mo_nd (Mo_nd (Mo_lf (Mo_id)) (Mo_lf (Mo_id))) (Mo_nd (Mo_lf (Mo_id)) (Mo_nd (Mo_lf (Mo_id)) (Mo_lf (Mo_id)))))) (Mo_nd (Mo_nd (Mo_nd (Mo_lf (Mo_id)) (Mo_lf (Mo_id))) (Mo_nd (Mo_lf (Mo_id)) (Mo_nd (Mo_lf (Mo_id)) (Mo_lf (Mo_id))))) (Mo_nd (Mo_nd (Mo_lf (Mo_id)) (Mo_lf (Mo_id))) (Mo_nd (Mo_lf (Mo_id)) (Mo_nd (Mo_lf (Mo_id)) (Mo_lf (Mo_iret hq))))))))
theorem cx6_shelf {l : Launch} : Ct l yX6_shelf cX6_shelf 5 (some .int) 2 (Sx S6_shelf) := by
  refine Ct_of (T := fun Q => T6_shelf Q S6_isShelf S6_isIn S6_isOne S6_isSheet) (by decide) (cl6_shelf ct6_isShelf ct6_isIn ct6_isOne ct6_isSheet) ?_
  intro av h Q' hS
  obtain ⟨Q, hS, hq⟩ := hS
  unfold S6_shelf at hS
  split at hS
  · exact ⟨Nat.le_of_ble_eq_true rfl, Rn_mo (mo6_shelf hq) (rn6_shelf hS)⟩
  · exact hS.elim
theorem mo6_state {Q Q' : Po} (hq : ∀ v h1, Q v h1 → isI v → Q' v h1) : ∀ pc, Mo (T6_state Q S6_thoseIn S6_keptOnes S6_graceOfAll S6_crowd S6_ritesOfAll pc) (T6_state Q' S6_thoseIn S6_keptOnes S6_graceOfAll S6_crowd S6_ritesOfAll pc) :=
  Mo_nd (Mo_nd (Mo_nd (Mo_nd (Mo_lf (Mo_id)) (Mo_nd (Mo_lf (Mo_id)) (Mo_lf (Mo_id)))) (Mo_nd (Mo_lf (Mo_id)) (Mo_nd (Mo_lf (Mo_id)) (Mo_lf (Mo_id))))) (Mo_nd (Mo_nd (Mo_lf (Mo_iret hq)) (Mo_nd (Mo_lf (Mo_id)) (Mo_lf (Mo_id)))) (Mo_nd (Mo_lf (Mo_id)) (Mo_nd (Mo_lf (Mo_iret hq)) (Mo_lf (Mo_id)))))) (Mo_nd (Mo_nd (Mo_nd (Mo_lf (Mo_id)) (Mo_nd (Mo_lf (Mo_iret hq)) (Mo_lf (Mo_id)))) (Mo_nd (Mo_lf (Mo_id)) (Mo_nd (Mo_lf (Mo_iret hq)) (Mo_lf (Mo_id))))) (Mo_nd (Mo_nd (Mo_lf (Mo_id)) (Mo_nd (Mo_lf (Mo_iret hq)) (Mo_lf (Mo_id)))) (Mo_nd (Mo_nd (Mo_lf (Mo_id)) (Mo_lf (Mo_iret hq))) (Mo_nd (Mo_lf (Mo_id)) (Mo_lf (Mo_iret hq))))))
theorem cx6_state {l : Launch} : Ct l yX6_state cX6_state 2 (some .int) 4 (Sx S6_state) := by
  refine Ct_of (T := fun Q => T6_state Q S6_thoseIn S6_keptOnes S6_graceOfAll S6_crowd S6_ritesOfAll) (by decide) (cl6_state ct6_thoseIn ct6_keptOnes ct6_graceOfAll ct6_crowd ct6_ritesOfAll) ?_
  intro av h Q' hS
  obtain ⟨Q, hS, hq⟩ := hS
  unfold S6_state at hS
  split at hS
  · exact ⟨Nat.le_of_ble_eq_true rfl, Rn_mo (mo6_state hq) (rn6_state hS)⟩
  · exact hS.elim
theorem mo6_taken {Q Q' : Po} (hq : ∀ v h1, Q v h1 → isI v → Q' v h1) : ∀ pc, Mo (T6_taken Q S6_isShelf S6_isIn S6_heldOn S6_its S6_isUnder pc) (T6_taken Q' S6_isShelf S6_isIn S6_heldOn S6_its S6_isUnder pc) :=
  Mo_nd (Mo_nd (Mo_nd (Mo_nd (Mo_nd (Mo_nd (Mo_lf (Mo_id)) (Mo_lf (Mo_id))) (Mo_nd (Mo_lf (Mo_id)) (Mo_lf (Mo_id)))) (Mo_nd (Mo_nd (Mo_lf (Mo_id)) (Mo_lf (Mo_id))) (Mo_nd (Mo_lf (Mo_id)) (Mo_lf (Mo_id))))) (Mo_nd (Mo_nd (Mo_nd (Mo_lf (Mo_id)) (Mo_lf (Mo_id))) (Mo_nd (Mo_lf (Mo_id)) (Mo_lf (Mo_id)))) (Mo_nd (Mo_nd (Mo_lf (Mo_id)) (Mo_lf (Mo_id))) (Mo_nd (Mo_lf (Mo_id)) (Mo_lf (Mo_id)))))) (Mo_nd (Mo_nd (Mo_nd (Mo_nd (Mo_lf (Mo_iret hq)) (Mo_lf (Mo_id))) (Mo_nd (Mo_lf (Mo_id)) (Mo_lf (Mo_id)))) (Mo_nd (Mo_nd (Mo_lf (Mo_id)) (Mo_lf (Mo_id))) (Mo_nd (Mo_lf (Mo_id)) (Mo_lf (Mo_id))))) (Mo_nd (Mo_nd (Mo_nd (Mo_lf (Mo_iret hq)) (Mo_lf (Mo_id))) (Mo_nd (Mo_lf (Mo_id)) (Mo_lf (Mo_id)))) (Mo_nd (Mo_nd (Mo_lf (Mo_id)) (Mo_lf (Mo_id))) (Mo_nd (Mo_lf (Mo_id)) (Mo_nd (Mo_lf (Mo_id)) (Mo_lf (Mo_id)))))))) (Mo_nd (Mo_nd (Mo_nd (Mo_nd (Mo_nd (Mo_lf (Mo_id)) (Mo_lf (Mo_id))) (Mo_nd (Mo_lf (Mo_id)) (Mo_lf (Mo_id)))) (Mo_nd (Mo_nd (Mo_lf (Mo_id)) (Mo_lf (Mo_id))) (Mo_nd (Mo_lf (Mo_id)) (Mo_lf (Mo_id))))) (Mo_nd (Mo_nd (Mo_nd (Mo_lf (Mo_id)) (Mo_lf (Mo_id))) (Mo_nd (Mo_lf (Mo_id)) (Mo_lf (Mo_id)))) (Mo_nd (Mo_nd (Mo_lf (Mo_id)) (Mo_lf (Mo_id))) (Mo_nd (Mo_lf (Mo_iret hq)) (Mo_lf (Mo_id)))))) (Mo_nd (Mo_nd (Mo_nd (Mo_nd (Mo_lf (Mo_id)) (Mo_lf (Mo_id))) (Mo_nd (Mo_lf (Mo_id)) (Mo_lf (Mo_id)))) (Mo_nd (Mo_nd (Mo_lf (Mo_id)) (Mo_lf (Mo_id))) (Mo_nd (Mo_lf (Mo_id)) (Mo_lf (Mo_id))))) (Mo_nd (Mo_nd (Mo_nd (Mo_lf (Mo_id)) (Mo_lf (Mo_id))) (Mo_nd (Mo_lf (Mo_id)) (Mo_lf (Mo_id)))) (Mo_nd (Mo_nd (Mo_lf (Mo_id)) (Mo_lf (Mo_id))) (Mo_nd (Mo_lf (Mo_id)) (Mo_nd (Mo_lf (Mo_id)) (Mo_lf (Mo_iret hq))))))))
theorem cx6_taken {l : Launch} : Ct l yX6_taken cX6_taken 4 (some .int) 2 (Sx S6_taken) := by
  refine Ct_of (T := fun Q => T6_taken Q S6_isShelf S6_isIn S6_heldOn S6_its S6_isUnder) (by decide) (cl6_taken ct6_isShelf ct6_isIn ct6_heldOn ct6_its ct6_isUnder) ?_
  intro av h Q' hS
  obtain ⟨Q, hS, hq⟩ := hS
  unfold S6_taken at hS
  split at hS
  · exact ⟨Nat.le_of_ble_eq_true rfl, Rn_mo (mo6_taken hq) (rn6_taken hS)⟩
  · exact hS.elim
theorem mo6_trace {Q Q' : Po} (hq : ∀ v h1, Q v h1 → isI v → Q' v h1) : ∀ pc, Mo (T6_trace Q S6_isIn pc) (T6_trace Q' S6_isIn pc) :=
  Mo_nd (Mo_nd (Mo_nd (Mo_nd (Mo_lf (Mo_id)) (Mo_lf (Mo_id))) (Mo_nd (Mo_lf (Mo_id)) (Mo_lf (Mo_id)))) (Mo_nd (Mo_nd (Mo_lf (Mo_id)) (Mo_lf (Mo_id))) (Mo_nd (Mo_lf (Mo_id)) (Mo_lf (Mo_id))))) (Mo_nd (Mo_nd (Mo_nd (Mo_lf (Mo_id)) (Mo_lf (Mo_id))) (Mo_nd (Mo_lf (Mo_id)) (Mo_lf (Mo_id)))) (Mo_nd (Mo_nd (Mo_lf (Mo_id)) (Mo_lf (Mo_id))) (Mo_nd (Mo_lf (Mo_id)) (Mo_nd (Mo_lf (Mo_id)) (Mo_lf (Mo_iret hq))))))
theorem cx6_trace {l : Launch} : Ct l yX6_trace cX6_trace 2 (some .int) 1 (Sx S6_trace) := by
  refine Ct_of (T := fun Q => T6_trace Q S6_isIn) (by decide) (cl6_trace ct6_isIn) ?_
  intro av h Q' hS
  obtain ⟨Q, hS, hq⟩ := hS
  unfold S6_trace at hS
  split at hS
  · exact ⟨Nat.le_of_ble_eq_true rfl, Rn_mo (mo6_trace hq) (rn6_trace hS)⟩
  · exact hS.elim
theorem mo6_where {Q Q' : Po} (hq : ∀ v h1, Q v h1 → isI v → Q' v h1) : ∀ pc, Mo (T6_where Q S6_isOne S6_isIn S6_copyRow S6_goesOnMany S6_its pc) (T6_where Q' S6_isOne S6_isIn S6_copyRow S6_goesOnMany S6_its pc) :=
  Mo_nd (Mo_nd (Mo_nd (Mo_nd (Mo_nd (Mo_lf (Mo_id)) (Mo_lf (Mo_id))) (Mo_nd (Mo_lf (Mo_id)) (Mo_lf (Mo_id)))) (Mo_nd (Mo_nd (Mo_lf (Mo_id)) (Mo_lf (Mo_id))) (Mo_nd (Mo_lf (Mo_id)) (Mo_lf (Mo_id))))) (Mo_nd (Mo_nd (Mo_nd (Mo_lf (Mo_id)) (Mo_lf (Mo_id))) (Mo_nd (Mo_lf (Mo_id)) (Mo_lf (Mo_iret hq)))) (Mo_nd (Mo_nd (Mo_lf (Mo_id)) (Mo_lf (Mo_id))) (Mo_nd (Mo_lf (Mo_id)) (Mo_lf (Mo_id)))))) (Mo_nd (Mo_nd (Mo_nd (Mo_nd (Mo_lf (Mo_id)) (Mo_lf (Mo_id))) (Mo_nd (Mo_lf (Mo_id)) (Mo_lf (Mo_id)))) (Mo_nd (Mo_nd (Mo_lf (Mo_id)) (Mo_lf (Mo_id))) (Mo_nd (Mo_lf (Mo_id)) (Mo_lf (Mo_id))))) (Mo_nd (Mo_nd (Mo_nd (Mo_lf (Mo_id)) (Mo_lf (Mo_id))) (Mo_nd (Mo_lf (Mo_id)) (Mo_lf (Mo_id)))) (Mo_nd (Mo_nd (Mo_lf (Mo_id)) (Mo_lf (Mo_id))) (Mo_nd (Mo_lf (Mo_id)) (Mo_lf (Mo_iret hq))))))
theorem cx6_where {l : Launch} : Ct l yX6_where cX6_where 4 (some .int) 5 (Sx S6_where) := by
  refine Ct_of (T := fun Q => T6_where Q S6_isOne S6_isIn S6_copyRow S6_goesOnMany S6_its) (by decide) (cl6_where ct6_isOne ct6_isIn ct6_copyRow ct6_goesOnMany ct6_its) ?_
  intro av h Q' hS
  obtain ⟨Q, hS, hq⟩ := hS
  unfold S6_where at hS
  split at hS
  · exact ⟨Nat.le_of_ble_eq_true rfl, Rn_mo (mo6_where hq) (rn6_where hS)⟩
  · exact hS.elim
