set_option maxHeartbeats 600000 in
set_option maxRecDepth 100000 in
theorem c_bf (l : Launch) (D : va_G) (cI : ClassId) (h0 sz : Nat) (a9 a1 a2 : Nat) (v2 v3 v4 v5 : Value) (x6 x7 x8 : Int32) (f1 f2 : Nat → Int32) : Met l yX1_becomeFirst (Cond.code yX1_becomeFirst cX1_becomeFirst 2 none :: lwG) { frames := 1, cells := 0, slots := 0, locals := 40 } (va_Pc [.ref h0] (fun U => U.heap.size = sz ∧ va_P D clsT [(h0, .inr (1, [.ref a1, .ref a2, v2, v3, v4, v5, .int x6, .int x7, .int x8])), (a1, .inl (cI, 4, .inl f1)), (a2, .inl (cI, 8, .inl f2))] U.heap ∧ va_K D clsT [(cI, .int)] U ∧ va_D (fun _ => True) [(h0, .inr (1, [.ref a1, .ref a2, v2, v3, v4, v5, .int x6, .int x7, .int x8])), (a1, .inl (cI, 4, .inl f1)), (a2, .inl (cI, 8, .inl f2))] ∧ Gf a9 (va_A [(h0, .inr (1, [.ref a1, .ref a2, v2, v3, v4, v5, .int x6, .int x7, .int x8])), (a1, .inl (cI, 4, .inl f1)), (a2, .inl (cI, 8, .inl f2))] sz) U)) (va_Qv (fun _ : Unit => True) (fun _ t => ∃ g1 g2 : Nat → Int32, (∀ k, k < 4 → g1 k = tbF.getD k 0) ∧ (∀ k, k < 8 → g2 k = 10) ∧ va_P D clsT [(h0, .inr (1, [.ref a1, .ref a2, v2, v3, v4, v5, .int 0, .int 0, .int x8])), (a1, .inl (cI, 4, .inl g1)), (a2, .inl (cI, 8, .inl g2))] t.heap ∧ va_D (va_A [(h0, .inr (1, [.ref a1, .ref a2, v2, v3, v4, v5, .int x6, .int x7, .int x8])), (a1, .inl (cI, 4, .inl f1)), (a2, .inl (cI, 8, .inl f2))] sz) [(h0, .inr (1, [.ref a1, .ref a2, v2, v3, v4, v5, .int 0, .int 0, .int x8])), (a1, .inl (cI, 4, .inl g1)), (a2, .inl (cI, 8, .inl g2))]) (va_A [(h0, .inr (1, [.ref a1, .ref a2, v2, v3, v4, v5, .int x6, .int x7, .int x8])), (a1, .inl (cI, 4, .inl f1)), (a2, .inl (cI, 8, .inl f2))] sz)) 0 0 (va_A [(h0, .inr (1, [.ref a1, .ref a2, v2, v3, v4, v5, .int x6, .int x7, .int x8])), (a1, .inl (cI, 4, .inl f1)), (a2, .inl (cI, 8, .inl f2))] sz) := by
  refine Met.ofW (cc := cX1_becomeFirst) (maxL := 2) (ret := none) (by decide) rfl ?_
  intro p e s m args below meth c s₁ B hml hv
  obtain ⟨rfl, hv⟩ := hv
  have hx := B.exec
  have hb := B.bytes
  have hr := B.returns
  have hts : ∀ x ∈ lwG, x.before _ s = true := fun x hx => atoms_spec (ws := Cond.code yX1_becomeFirst cX1_becomeFirst 2 none :: lwG) B.pre x (List.mem_cons_of_mem _ hx)
  have hown : s.vm.findClass RX1 = some m.cls := findClass_of_methodNamed B.named
  have hlocks := B.notSynchronized
  obtain ⟨hsz, hP, hK, hD0, hG⟩ := hv
  subst hsz
  have hD := hD0.self (sz := s.heap.size)
  generalize hAe : va_A [(h0, .inr (1, [.ref a1, .ref a2, v2, v3, v4, v5, .int x6, .int x7, .int x8])), (a1, .inl (cI, 4, .inl f1)), (a2, .inl (cI, 8, .inl f2))] s.heap.size = A at *
  have hA : ∀ q : Nat, s.heap.size ≤ q → A q := fun q h => by rw [← hAe]; exact Or.inr h
  have hS : va_S A s.heap s.heap [] := va_S.rf
  have hl := lv_entry ([.ref h0]) (n := 2) (Nat.le_of_ble_eq_true rfl)
  rw [lg_entry_eq]
  generalize (lg_sl ([.ref h0]) ++ List.replicate (2 - (lg_sl ([.ref h0])).length) Slot.unset).toArray = ls at hl ⊢
  have hl : lv_has ls 2 [(0, .ref h0)] := hl
  refine va_getsN hx hb hG.1 hS hown (va_Nw.use rfl hG.2.2.2.2) (fun _ h9 => h9) (show decode cX1_becomeFirst 0 = .ok (.getstatic 43, 3) by decide +kernel) ?_
  refine lv_iconst (v := 0) hx hb (show decode cX1_becomeFirst 3 = .ok (.iconst 0, 1) by decide +kernel) (by decide) ?_
  refine lv_aload_n hx hb (show decode cX1_becomeFirst 4 = .ok (.aload_n 0, 1) by decide +kernel) rfl (lv_at hl 0 rfl) ?_
  refine va_get (C := RX1) (T := TX1) (N := 9) hx hb hts inX1 hown hK hP 0 rfl rfl 0 (by decide) (hts _ gx_92) (fun _ h9 => h9) rfl (show decode cX1_becomeFirst 5 = .ok (.getfield 9, 3) by decide +kernel) ?_
  refine lv_iconst (v := 0) hx hb (show decode cX1_becomeFirst 8 = .ok (.iconst 0, 1) by decide +kernel) (by decide) ?_
  refine lv_iconst (v := 4) hx hb (show decode cX1_becomeFirst 9 = .ok (.iconst 4, 1) by decide +kernel) (by decide) ?_
  refine va_copyx hx hb (hml.trans hl.1.symm) hown (hts _ gx_89) (hts _ gx_91) (hts _ gx_90) (hts _ gx_57) hK hP hD hS hG.2.1 hG.2.2.1 hG.2.2.2.1 1 0 rfl rfl (by decide) (by decide) (by decide) (by decide) (by decide) (Nat.le_of_ble_eq_true rfl) (by decide +kernel) (show decode cX1_becomeFirst 10 = .ok (.invokestatic 46, 3) by decide +kernel) (fun H locs hP hD hS => ?_)
  have hg1 : ∀ k, k < 4 → va_cpy (fun i => tbF.getD i 0) f1 (0 : Int32).toNatClampNeg (0 : Int32).toNatClampNeg (4 : Int32).toNatClampNeg k = tbF.getD k 0 := by
    intro k hk
    show va_cpy _ f1 0 0 4 k = _
    rw [cpy_at, if_pos hk]
  generalize va_cpy (fun i => tbF.getD i 0) f1 (0 : Int32).toNatClampNeg (0 : Int32).toNatClampNeg (4 : Int32).toNatClampNeg = g1 at hP hD hg1
  have hP : va_P D clsT [(h0, .inr (1, [.ref a1, .ref a2, v2, v3, v4, v5, .int x6, .int x7, .int x8])), (a1, .inl (cI, 4, .inl g1)), (a2, .inl (cI, 8, .inl f2))] H := hP
  have hD : va_D A [(h0, .inr (1, [.ref a1, .ref a2, v2, v3, v4, v5, .int x6, .int x7, .int x8])), (a1, .inl (cI, 4, .inl g1)), (a2, .inl (cI, 8, .inl f2))] := hD
  refine lv_iconst (v := 0) hx hb (show decode cX1_becomeFirst 13 = .ok (.iconst 0, 1) by decide +kernel) (by decide) ?_
  refine lv_istore_n (lv' := [(1, .int 0), (0, .ref h0)]) hx hb (show decode cX1_becomeFirst 14 = .ok (.istore_n 1, 1) by decide +kernel) rfl hl (by decide) rfl (fun ls hl => ?_)
  have loop : ∀ (Q : State → Prop), (∀ (g2 : Nat → Int32) (H : Heap) (locs : List Loc) (ls : Array Slot), (∀ k, k < 8 → g2 k = 10) → va_P D clsT [(h0, .inr (1, [.ref a1, .ref a2, v2, v3, v4, v5, .int x6, .int x7, .int x8])), (a1, .inl (cI, 4, .inl g1)), (a2, .inl (cI, 8, .inl g2))] H → va_D A [(h0, .inr (1, [.ref a1, .ref a2, v2, v3, v4, v5, .int x6, .int x7, .int x8])), (a1, .inl (cI, 4, .inl g1)), (a2, .inl (cI, 8, .inl g2))] → va_S A s.heap H locs → lv_has ls 2 [(1, .int (nI 8)), (0, .ref h0)] → W p l e { frames := 1, cells := 0, slots := 0, locals := 40 } s m ([Value.ref h0] : List Value).toArray below meth c H locs 0 0 Q (F0 m 35 ls [])) → ∀ d j, d + j = 8 → ∀ (g2 : Nat → Int32) (H : Heap) (locs : List Loc) (ls : Array Slot), (∀ k, k < j → g2 k = 10) → va_P D clsT [(h0, .inr (1, [.ref a1, .ref a2, v2, v3, v4, v5, .int x6, .int x7, .int x8])), (a1, .inl (cI, 4, .inl g1)), (a2, .inl (cI, 8, .inl g2))] H → va_D A [(h0, .inr (1, [.ref a1, .ref a2, v2, v3, v4, v5, .int x6, .int x7, .int x8])), (a1, .inl (cI, 4, .inl g1)), (a2, .inl (cI, 8, .inl g2))] → va_S A s.heap H locs → lv_has ls 2 [(1, .int (nI j)), (0, .ref h0)] → W p l e { frames := 1, cells := 0, slots := 0, locals := 40 } s m ([Value.ref h0] : List Value).toArray below meth c H locs 0 0 Q (F0 m 15 ls []) := by
    intro Q kont d
    induction d with
    | zero =>
      intro j ej g2 H locs ls hg2 hP hD hS hl
      have ej : j = 8 := by omega
      subst ej
      refine lv_iload_n hx hb (show decode cX1_becomeFirst 15 = .ok (.iload_n 1, 1) by decide +kernel) rfl (lv_at hl 0 rfl) ?_
      refine lv_bipush (v := 8) hx hb (show decode cX1_becomeFirst 16 = .ok (.bipush 8, 2) by decide +kernel) (by decide) ?_
      refine lv_icmp_ge (tgt := 35) hx hb (show decode cX1_becomeFirst 18 = .ok (.if_icmp .ge 17, 3) by decide +kernel) (by decide) (fun _ => ?_) (fun z => absurd (by decide) z)
      exact kont g2 H locs ls hg2 hP hD hS hl
    | succ d ih =>
      intro j ej g2 H locs ls hg2 hP hD hS hl
      have hj := nlt8 (j := j) (by omega)
      have hvi : vp_in (nI j) 8 := vp_in_nI (by omega) (by omega)
      refine lv_iload_n hx hb (show decode cX1_becomeFirst 15 = .ok (.iload_n 1, 1) by decide +kernel) rfl (lv_at hl 0 rfl) ?_
      refine lv_bipush (v := 8) hx hb (show decode cX1_becomeFirst 16 = .ok (.bipush 8, 2) by decide +kernel) (by decide) ?_
      refine lv_icmp_ge (tgt := 35) hx hb (show decode cX1_becomeFirst 18 = .ok (.if_icmp .ge 17, 3) by decide +kernel) (by decide) (fun z => absurd hj.2 (Int32.not_lt.mpr z)) (fun _ => ?_)
      refine lv_aload_n hx hb (show decode cX1_becomeFirst 21 = .ok (.aload_n 0, 1) by decide +kernel) rfl (lv_at hl 1 rfl) ?_
      refine va_get (C := RX1) (T := TX1) (N := 9) hx hb hts inX1 hown hK hP 0 rfl rfl 1 (by decide) (hts _ gx_95) (fun _ h9 => h9) rfl (show decode cX1_becomeFirst 22 = .ok (.getfield 15, 3) by decide +kernel) ?_
      refine lv_iload_n hx hb (show decode cX1_becomeFirst 25 = .ok (.iload_n 1, 1) by decide +kernel) rfl (lv_at hl 0 rfl) ?_
      refine lv_bipush (v := 10) hx hb (show decode cX1_becomeFirst 26 = .ok (.bipush 10, 2) by decide +kernel) (by decide) ?_
      refine va_iast hx hb hK hP hD hS 2 0 rfl rfl hvi (show decode cX1_becomeFirst 28 = .ok (.iastore, 1) by decide +kernel) (fun H locs hP hD hS => ?_)
      have hP : va_P D clsT [(h0, .inr (1, [.ref a1, .ref a2, v2, v3, v4, v5, .int x6, .int x7, .int x8])), (a1, .inl (cI, 4, .inl g1)), (a2, .inl (cI, 8, .inl (upd g2 ((nI j) : Int32).toNatClampNeg (10))))] H := hP
      have hD : va_D A [(h0, .inr (1, [.ref a1, .ref a2, v2, v3, v4, v5, .int x6, .int x7, .int x8])), (a1, .inl (cI, 4, .inl g1)), (a2, .inl (cI, 8, .inl (upd g2 ((nI j) : Int32).toNatClampNeg (10))))] := hD
      refine lv_iinc (v := nI (j + 1)) (lv' := [(1, .int (nI (j + 1))), (0, .ref h0)]) hx hb (show decode cX1_becomeFirst 29 = .ok (.iinc 1 1, 3) by decide +kernel) hl (k := 0) rfl (by rw [← nI_1]; rfl) (by decide) rfl (fun ls hl => ?_)
      refine lv_goto (tgt := 15) hx hb (show decode cX1_becomeFirst 32 = .ok (.goto (-17), 3) by decide +kernel) (by decide) ?_
      refine ih (j + 1) (by omega) _ H locs ls (fun k hk => ?_) hP hD hS hl
      rw [show (nI j : Int32).toNatClampNeg = j from nI_clamp (by omega)]
      unfold upd
      split
      · rfl
      · exact hg2 k (by omega)
  refine loop _ (fun g2 H locs ls hg2 hP hD hS hl => ?_) 8 0 (by omega) f2 _ _ _ (fun k hk => absurd hk (Nat.not_lt_zero k)) hP hD hS hl
  refine lv_aload_n hx hb (show decode cX1_becomeFirst 35 = .ok (.aload_n 0, 1) by decide +kernel) rfl (lv_at hl 1 rfl) ?_
  refine lv_iconst (v := 0) hx hb (show decode cX1_becomeFirst 36 = .ok (.iconst 0, 1) by decide +kernel) (by decide) ?_
  refine va_put (C := RX1) (T := TX1) (N := 9) hx hb hts inX1 tyX1 tyX1_ok nmX1 hown hK hP hD hS 0 rfl rfl 6 (by decide) (hts _ gx_107) (fun _ h9 => h9) rfl (tyX1_ok 6 (by decide)) rfl rfl (Nat.le_of_ble_eq_true rfl) (show decode cX1_becomeFirst 37 = .ok (.putfield 30, 3) by decide +kernel) (fun H locs hP hD hS => ?_)
  have hP : va_P D clsT [(h0, .inr (1, [.ref a1, .ref a2, v2, v3, v4, v5, .int 0, .int x7, .int x8])), (a1, .inl (cI, 4, .inl g1)), (a2, .inl (cI, 8, .inl g2))] H := hP
  have hD : va_D A [(h0, .inr (1, [.ref a1, .ref a2, v2, v3, v4, v5, .int 0, .int x7, .int x8])), (a1, .inl (cI, 4, .inl g1)), (a2, .inl (cI, 8, .inl g2))] := hD
  refine lv_aload_n hx hb (show decode cX1_becomeFirst 40 = .ok (.aload_n 0, 1) by decide +kernel) rfl (lv_at hl 1 rfl) ?_
  refine lv_iconst (v := 0) hx hb (show decode cX1_becomeFirst 41 = .ok (.iconst 0, 1) by decide +kernel) (by decide) ?_
  refine va_put (C := RX1) (T := TX1) (N := 9) hx hb hts inX1 tyX1 tyX1_ok nmX1 hown hK hP hD hS 0 rfl rfl 7 (by decide) (hts _ gx_110) (fun _ h9 => h9) rfl (tyX1_ok 7 (by decide)) rfl rfl (Nat.le_of_ble_eq_true rfl) (show decode cX1_becomeFirst 42 = .ok (.putfield 34, 3) by decide +kernel) (fun H locs hP hD hS => ?_)
  have hP : va_P D clsT [(h0, .inr (1, [.ref a1, .ref a2, v2, v3, v4, v5, .int 0, .int 0, .int x8])), (a1, .inl (cI, 4, .inl g1)), (a2, .inl (cI, 8, .inl g2))] H := hP
  have hD : va_D A [(h0, .inr (1, [.ref a1, .ref a2, v2, v3, v4, v5, .int 0, .int 0, .int x8])), (a1, .inl (cI, 4, .inl g1)), (a2, .inl (cI, 8, .inl g2))] := hD
  exact W.vret hx hb hr (fun t ht hW => ⟨⟨(), rfl, trivial, g1, g2, hg1, hg2, by rw [ht]; exact hP, hD⟩, hS.F ht⟩) hS.2.2 (show decode cX1_becomeFirst 45 = .ok (.return_, 1) by decide +kernel)
set_option maxHeartbeats 600000 in
set_option maxRecDepth 100000 in
theorem c_bg (l : Launch) (D : va_G) (cI : ClassId) (h0 sz : Nat) (a1 : Nat) (v1 v2 v3 v4 v5 v6 v7 v8 v9 v10 v11 v12 v13 v14 v15 v16 v17 v18 v19 v20 v21 v22 v23 v24 v25 v26 : Value) : Met l yX6_begins (Cond.code yX6_begins cX6_begins 3 none :: lwG) { frames := 1, cells := 0, slots := 0, locals := 40 } (va_Pc [.ref h0] (fun U => U.heap.size = sz ∧ va_P D clsT [(h0, .inr (6, [.ref a1, v1, v2, v3, v4, v5, v6, v7, v8, v9, v10, v11, v12, v13, v14, v15, v16, v17, v18, v19, v20, v21, v22, v23, v24, v25, v26])), (a1, .inl (cI, 47, .inl (fun _ => 0)))] U.heap ∧ va_K D clsT [(cI, .int)] U ∧ va_D (fun _ => True) [(h0, .inr (6, [.ref a1, v1, v2, v3, v4, v5, v6, v7, v8, v9, v10, v11, v12, v13, v14, v15, v16, v17, v18, v19, v20, v21, v22, v23, v24, v25, v26])), (a1, .inl (cI, 47, .inl (fun _ => 0)))])) (va_Qv (fun _ : Unit => True) (fun _ t => ∃ g : Nat → Int32, ((g 0 = 0 ∧ g 1 = 0 ∧ g 2 = 0) ∧ (g 3 = 2 ∧ g 4 = 3 ∧ g 5 = 2 ∧ g 6 = 20) ∧ ∀ k, 7 ≤ k → k < 15 → g k = 10) ∧ va_P D clsT [(h0, .inr (6, [.ref a1, v1, v2, v3, v4, v5, v6, v7, v8, v9, v10, v11, v12, v13, v14, v15, v16, v17, v18, v19, v20, v21, v22, v23, v24, v25, v26])), (a1, .inl (cI, 47, .inl g))] t.heap ∧ va_D (va_A [(h0, .inr (6, [.ref a1, v1, v2, v3, v4, v5, v6, v7, v8, v9, v10, v11, v12, v13, v14, v15, v16, v17, v18, v19, v20, v21, v22, v23, v24, v25, v26])), (a1, .inl (cI, 47, .inl (fun _ => 0)))] sz) [(h0, .inr (6, [.ref a1, v1, v2, v3, v4, v5, v6, v7, v8, v9, v10, v11, v12, v13, v14, v15, v16, v17, v18, v19, v20, v21, v22, v23, v24, v25, v26])), (a1, .inl (cI, 47, .inl g))]) (va_A [(h0, .inr (6, [.ref a1, v1, v2, v3, v4, v5, v6, v7, v8, v9, v10, v11, v12, v13, v14, v15, v16, v17, v18, v19, v20, v21, v22, v23, v24, v25, v26])), (a1, .inl (cI, 47, .inl (fun _ => 0)))] sz)) 0 0 (va_A [(h0, .inr (6, [.ref a1, v1, v2, v3, v4, v5, v6, v7, v8, v9, v10, v11, v12, v13, v14, v15, v16, v17, v18, v19, v20, v21, v22, v23, v24, v25, v26])), (a1, .inl (cI, 47, .inl (fun _ => 0)))] sz) := by
  refine Met.ofW (cc := cX6_begins) (maxL := 3) (ret := none) (by decide) rfl ?_
  intro p e s m args below meth c s₁ B hml hv
  obtain ⟨rfl, hv⟩ := hv
  have hx := B.exec
  have hb := B.bytes
  have hr := B.returns
  have hts : ∀ x ∈ lwG, x.before _ s = true := fun x hx => atoms_spec (ws := Cond.code yX6_begins cX6_begins 3 none :: lwG) B.pre x (List.mem_cons_of_mem _ hx)
  have hown : s.vm.findClass RX6 = some m.cls := findClass_of_methodNamed B.named
  have hlocks := B.notSynchronized
  obtain ⟨hsz, hP, hK, hD0⟩ := hv
  subst hsz
  have hD := hD0.self (sz := s.heap.size)
  generalize hAe : va_A [(h0, .inr (6, [.ref a1, v1, v2, v3, v4, v5, v6, v7, v8, v9, v10, v11, v12, v13, v14, v15, v16, v17, v18, v19, v20, v21, v22, v23, v24, v25, v26])), (a1, .inl (cI, 47, .inl (fun _ => 0)))] s.heap.size = A at *
  have hA : ∀ q : Nat, s.heap.size ≤ q → A q := fun q h => by rw [← hAe]; exact Or.inr h
  have hS : va_S A s.heap s.heap [] := va_S.rf
  have hl := lv_entry ([.ref h0]) (n := 3) (Nat.le_of_ble_eq_true rfl)
  rw [lg_entry_eq]
  generalize (lg_sl ([.ref h0]) ++ List.replicate (3 - (lg_sl ([.ref h0])).length) Slot.unset).toArray = ls at hl ⊢
  have hl : lv_has ls 3 [(0, .ref h0)] := hl
  refine lv_aload_n hx hb (show decode cX6_begins 0 = .ok (.aload_n 0, 1) by decide +kernel) rfl (lv_at hl 0 rfl) ?_
  refine va_get (C := RX6) (T := TX6) (N := 27) hx hb hts inX6 hown hK hP 0 rfl rfl 0 (by decide) (hts _ gx_818) (fun _ h9 => h9) rfl (show decode cX6_begins 1 = .ok (.getfield 7, 3) by decide +kernel) ?_
  refine lv_iconst (v := 2) hx hb (show decode cX6_begins 4 = .ok (.iconst 2, 1) by decide +kernel) (by decide) ?_
  refine va_iald hx hb hK hP 1 0 rfl rfl (vp_in_nI (show 2 < 47 by decide) (by decide) : vp_in (nI 2) 47) (show decode cX6_begins 5 = .ok (.iaload, 1) by decide +kernel) ?_
  refine lv_istore_n (lv' := [(1, .int 0), (0, .ref h0)]) hx hb (show decode cX6_begins 6 = .ok (.istore_n 1, 1) by decide +kernel) rfl hl (by decide) rfl (fun ls hl => ?_)
  refine lv_iconst (v := 0) hx hb (show decode cX6_begins 7 = .ok (.iconst 0, 1) by decide +kernel) (by decide) ?_
  refine lv_istore_n (lv' := [(2, .int 0), (1, .int 0), (0, .ref h0)]) hx hb (show decode cX6_begins 8 = .ok (.istore_n 2, 1) by decide +kernel) rfl hl (by decide) rfl (fun ls hl => ?_)
  have loopB : ∀ (Q : State → Prop), (∀ (g : Nat → Int32) (H : Heap) (locs : List Loc) (ls : Array Slot), ((g 0 = 0 ∧ g 1 = 0 ∧ g 2 = 0) ∧ (g 3 = 2 ∧ g 4 = 3 ∧ g 5 = 2 ∧ g 6 = 20) ∧ ∀ k, 7 ≤ k → k < 15 → g k = 10) → va_P D clsT [(h0, .inr (6, [.ref a1, v1, v2, v3, v4, v5, v6, v7, v8, v9, v10, v11, v12, v13, v14, v15, v16, v17, v18, v19, v20, v21, v22, v23, v24, v25, v26])), (a1, .inl (cI, 47, .inl g))] H → va_D A [(h0, .inr (6, [.ref a1, v1, v2, v3, v4, v5, v6, v7, v8, v9, v10, v11, v12, v13, v14, v15, v16, v17, v18, v19, v20, v21, v22, v23, v24, v25, v26])), (a1, .inl (cI, 47, .inl g))] → va_S A s.heap H locs → W p l e { frames := 1, cells := 0, slots := 0, locals := 40 } s m ([Value.ref h0] : List Value).toArray below meth c H locs 0 0 Q (F0 m 90 ls [])) → ∀ d j, d + j = 8 → ∀ (g : Nat → Int32) (H : Heap) (locs : List Loc) (ls : Array Slot), ((g 0 = 0 ∧ g 1 = 0 ∧ g 2 = 0) ∧ (g 3 = 2 ∧ g 4 = 3 ∧ g 5 = 2 ∧ g 6 = 20) ∧ ∀ k, 7 ≤ k → k < 7 + j → g k = 10) → va_P D clsT [(h0, .inr (6, [.ref a1, v1, v2, v3, v4, v5, v6, v7, v8, v9, v10, v11, v12, v13, v14, v15, v16, v17, v18, v19, v20, v21, v22, v23, v24, v25, v26])), (a1, .inl (cI, 47, .inl g))] H → va_D A [(h0, .inr (6, [.ref a1, v1, v2, v3, v4, v5, v6, v7, v8, v9, v10, v11, v12, v13, v14, v15, v16, v17, v18, v19, v20, v21, v22, v23, v24, v25, v26])), (a1, .inl (cI, 47, .inl g))] → va_S A s.heap H locs → lv_has ls 3 [(2, .int (nI j)), (1, .int 0), (0, .ref h0)] → W p l e { frames := 1, cells := 0, slots := 0, locals := 40 } s m ([Value.ref h0] : List Value).toArray below meth c H locs 0 0 Q (F0 m 67 ls []) := by
    intro Q kont d
    induction d with
    | zero =>
      intro j ej g H locs ls hg hP hD hS hl
      have ej : j = 8 := by omega
      subst ej
      refine lv_iload_n hx hb (show decode cX6_begins 67 = .ok (.iload_n 2, 1) by decide +kernel) rfl (lv_at hl 0 rfl) ?_
      refine lv_bipush (v := 8) hx hb (show decode cX6_begins 68 = .ok (.bipush 8, 2) by decide +kernel) (by decide) ?_
      refine lv_icmp_ge (tgt := 90) hx hb (show decode cX6_begins 70 = .ok (.if_icmp .ge 20, 3) by decide +kernel) (by decide) (fun _ => ?_) (fun z => absurd (by decide) z)
      exact kont g H locs ls hg hP hD hS
    | succ d ih =>
      intro j ej g H locs ls hg hP hD hS hl
      have hj := nlt8 (j := j) (by omega)
      have hvi : vp_in (7 + nI j) 47 := by rw [show (7 : Int32) + nI j = nI (7 + j) from nI_add 7 j]; exact vp_in_nI (by omega) (by omega)
      refine lv_iload_n hx hb (show decode cX6_begins 67 = .ok (.iload_n 2, 1) by decide +kernel) rfl (lv_at hl 0 rfl) ?_
      refine lv_bipush (v := 8) hx hb (show decode cX6_begins 68 = .ok (.bipush 8, 2) by decide +kernel) (by decide) ?_
      refine lv_icmp_ge (tgt := 90) hx hb (show decode cX6_begins 70 = .ok (.if_icmp .ge 20, 3) by decide +kernel) (by decide) (fun z => absurd hj.2 (Int32.not_lt.mpr z)) (fun _ => ?_)
      refine lv_aload_n hx hb (show decode cX6_begins 73 = .ok (.aload_n 0, 1) by decide +kernel) rfl (lv_at hl 2 rfl) ?_
      refine va_get (C := RX6) (T := TX6) (N := 27) hx hb hts inX6 hown hK hP 0 rfl rfl 0 (by decide) (hts _ gx_818) (fun _ h9 => h9) rfl (show decode cX6_begins 74 = .ok (.getfield 7, 3) by decide +kernel) ?_
      refine lv_bipush (v := 7) hx hb (show decode cX6_begins 77 = .ok (.bipush 7, 2) by decide +kernel) (by decide) ?_
      refine lv_iload_n hx hb (show decode cX6_begins 79 = .ok (.iload_n 2, 1) by decide +kernel) rfl (lv_at hl 0 rfl) ?_
      refine lv_iadd hx hb (show decode cX6_begins 80 = .ok (.iadd, 1) by decide +kernel) ?_
      refine lv_bipush (v := 10) hx hb (show decode cX6_begins 81 = .ok (.bipush 10, 2) by decide +kernel) (by decide) ?_
      refine va_iast hx hb hK hP hD hS 1 0 rfl rfl hvi (show decode cX6_begins 83 = .ok (.iastore, 1) by decide +kernel) (fun H locs hP hD hS => ?_)
      have hP : va_P D clsT [(h0, .inr (6, [.ref a1, v1, v2, v3, v4, v5, v6, v7, v8, v9, v10, v11, v12, v13, v14, v15, v16, v17, v18, v19, v20, v21, v22, v23, v24, v25, v26])), (a1, .inl (cI, 47, .inl (upd g ((7 + nI j) : Int32).toNatClampNeg (10))))] H := hP
      have hD : va_D A [(h0, .inr (6, [.ref a1, v1, v2, v3, v4, v5, v6, v7, v8, v9, v10, v11, v12, v13, v14, v15, v16, v17, v18, v19, v20, v21, v22, v23, v24, v25, v26])), (a1, .inl (cI, 47, .inl (upd g ((7 + nI j) : Int32).toNatClampNeg (10))))] := hD
      refine lv_iinc (v := nI (j + 1)) (lv' := [(2, .int (nI (j + 1))), (1, .int 0), (0, .ref h0)]) hx hb (show decode cX6_begins 84 = .ok (.iinc 2 1, 3) by decide +kernel) hl (k := 0) rfl (by rw [← nI_1]; rfl) (by decide) rfl (fun ls hl => ?_)
      refine lv_goto (tgt := 67) hx hb (show decode cX6_begins 87 = .ok (.goto (-20), 3) by decide +kernel) (by decide) ?_
      refine ih (j + 1) (by omega) _ H locs ls ?_ hP hD hS hl
      rw [show ((7 + nI j : Int32)).toNatClampNeg = 7 + j by rw [show (7 : Int32) + nI j = nI (7 + j) from nI_add 7 j]; exact nI_clamp (by omega)]
      obtain ⟨⟨h1, h2, h3⟩, ⟨h4, h5, h6, h7⟩, h8⟩ := hg
      unfold upd
      refine ⟨⟨?_, ?_, ?_⟩, ⟨?_, ?_, ?_, ?_⟩, fun k k1 k2 => ?_⟩
      · rw [if_neg (by omega)]; exact h1
      · rw [if_neg (by omega)]; exact h2
      · rw [if_neg (by omega)]; exact h3
      · rw [if_neg (by omega)]; exact h4
      · rw [if_neg (by omega)]; exact h5
      · rw [if_neg (by omega)]; exact h6
      · rw [if_neg (by omega)]; exact h7
      · split
        · rfl
        · exact h8 k k1 (by omega)
  have loopA : ∀ (Q : State → Prop), (∀ (H : Heap) (locs : List Loc) (ls : Array Slot), va_P D clsT [(h0, .inr (6, [.ref a1, v1, v2, v3, v4, v5, v6, v7, v8, v9, v10, v11, v12, v13, v14, v15, v16, v17, v18, v19, v20, v21, v22, v23, v24, v25, v26])), (a1, .inl (cI, 47, .inl (fun _ => 0)))] H → va_D A [(h0, .inr (6, [.ref a1, v1, v2, v3, v4, v5, v6, v7, v8, v9, v10, v11, v12, v13, v14, v15, v16, v17, v18, v19, v20, v21, v22, v23, v24, v25, v26])), (a1, .inl (cI, 47, .inl (fun _ => 0)))] → va_S A s.heap H locs → lv_has ls 3 [(2, .int (nI 47)), (1, .int 0), (0, .ref h0)] → W p l e { frames := 1, cells := 0, slots := 0, locals := 40 } s m ([Value.ref h0] : List Value).toArray below meth c H locs 0 0 Q (F0 m 28 ls [])) → ∀ d j, d + j = 47 → ∀ (H : Heap) (locs : List Loc) (ls : Array Slot), va_P D clsT [(h0, .inr (6, [.ref a1, v1, v2, v3, v4, v5, v6, v7, v8, v9, v10, v11, v12, v13, v14, v15, v16, v17, v18, v19, v20, v21, v22, v23, v24, v25, v26])), (a1, .inl (cI, 47, .inl (fun _ => 0)))] H → va_D A [(h0, .inr (6, [.ref a1, v1, v2, v3, v4, v5, v6, v7, v8, v9, v10, v11, v12, v13, v14, v15, v16, v17, v18, v19, v20, v21, v22, v23, v24, v25, v26])), (a1, .inl (cI, 47, .inl (fun _ => 0)))] → va_S A s.heap H locs → lv_has ls 3 [(2, .int (nI j)), (1, .int 0), (0, .ref h0)] → W p l e { frames := 1, cells := 0, slots := 0, locals := 40 } s m ([Value.ref h0] : List Value).toArray below meth c H locs 0 0 Q (F0 m 9 ls []) := by
    intro Q kont d
    induction d with
    | zero =>
      intro j ej H locs ls hP hD hS hl
      have ej : j = 47 := by omega
      subst ej
      refine lv_iload_n hx hb (show decode cX6_begins 9 = .ok (.iload_n 2, 1) by decide +kernel) rfl (lv_at hl 0 rfl) ?_
      refine lv_bipush (v := 47) hx hb (show decode cX6_begins 10 = .ok (.bipush 47, 2) by decide +kernel) (by decide) ?_
      refine lv_icmp_ge (tgt := 28) hx hb (show decode cX6_begins 12 = .ok (.if_icmp .ge 16, 3) by decide +kernel) (by decide) (fun _ => ?_) (fun z => absurd (by decide) z)
      exact kont H locs ls hP hD hS hl
    | succ d ih =>
      intro j ej H locs ls hP hD hS hl
      have hj : nI j < 47 := nI_lt (b := 47) (by omega) (by decide)
      have hvi : vp_in (nI j) 47 := vp_in_nI (by omega) (by omega)
      refine lv_iload_n hx hb (show decode cX6_begins 9 = .ok (.iload_n 2, 1) by decide +kernel) rfl (lv_at hl 0 rfl) ?_
      refine lv_bipush (v := 47) hx hb (show decode cX6_begins 10 = .ok (.bipush 47, 2) by decide +kernel) (by decide) ?_
      refine lv_icmp_ge (tgt := 28) hx hb (show decode cX6_begins 12 = .ok (.if_icmp .ge 16, 3) by decide +kernel) (by decide) (fun z => absurd hj (Int32.not_lt.mpr z)) (fun _ => ?_)
      refine lv_aload_n hx hb (show decode cX6_begins 15 = .ok (.aload_n 0, 1) by decide +kernel) rfl (lv_at hl 2 rfl) ?_
      refine va_get (C := RX6) (T := TX6) (N := 27) hx hb hts inX6 hown hK hP 0 rfl rfl 0 (by decide) (hts _ gx_818) (fun _ h9 => h9) rfl (show decode cX6_begins 16 = .ok (.getfield 7, 3) by decide +kernel) ?_
      refine lv_iload_n hx hb (show decode cX6_begins 19 = .ok (.iload_n 2, 1) by decide +kernel) rfl (lv_at hl 0 rfl) ?_
      refine lv_iconst (v := 0) hx hb (show decode cX6_begins 20 = .ok (.iconst 0, 1) by decide +kernel) (by decide) ?_
      refine va_iast hx hb hK hP hD hS 1 0 rfl rfl hvi (show decode cX6_begins 21 = .ok (.iastore, 1) by decide +kernel) (fun H locs hP hD hS => ?_)
      have hP : va_P D clsT [(h0, .inr (6, [.ref a1, v1, v2, v3, v4, v5, v6, v7, v8, v9, v10, v11, v12, v13, v14, v15, v16, v17, v18, v19, v20, v21, v22, v23, v24, v25, v26])), (a1, .inl (cI, 47, .inl (upd (fun _ => 0) ((nI j) : Int32).toNatClampNeg (0))))] H := hP
      have hD : va_D A [(h0, .inr (6, [.ref a1, v1, v2, v3, v4, v5, v6, v7, v8, v9, v10, v11, v12, v13, v14, v15, v16, v17, v18, v19, v20, v21, v22, v23, v24, v25, v26])), (a1, .inl (cI, 47, .inl (upd (fun _ => 0) ((nI j) : Int32).toNatClampNeg (0))))] := hD
      have eu : upd (fun _ => 0) (nI j : Int32).toNatClampNeg (0 : Int32) = (fun _ => 0) := by funext k; unfold upd; split <;> rfl
      rw [eu] at hP hD
      refine lv_iinc (v := nI (j + 1)) (lv' := [(2, .int (nI (j + 1))), (1, .int 0), (0, .ref h0)]) hx hb (show decode cX6_begins 22 = .ok (.iinc 2 1, 3) by decide +kernel) hl (k := 0) rfl (by rw [← nI_1]; rfl) (by decide) rfl (fun ls hl => ?_)
      refine lv_goto (tgt := 9) hx hb (show decode cX6_begins 25 = .ok (.goto (-16), 3) by decide +kernel) (by decide) ?_
      exact ih (j + 1) (by omega) H locs ls hP hD hS hl
  refine loopA _ (fun H locs ls hP hD hS hl => ?_) 47 0 (by omega) _ _ _ hP hD hS hl
  refine lv_aload_n hx hb (show decode cX6_begins 28 = .ok (.aload_n 0, 1) by decide +kernel) rfl (lv_at hl 2 rfl) ?_
  refine va_get (C := RX6) (T := TX6) (N := 27) hx hb hts inX6 hown hK hP 0 rfl rfl 0 (by decide) (hts _ gx_818) (fun _ h9 => h9) rfl (show decode cX6_begins 29 = .ok (.getfield 7, 3) by decide +kernel) ?_
  refine lv_iconst (v := 2) hx hb (show decode cX6_begins 32 = .ok (.iconst 2, 1) by decide +kernel) (by decide) ?_
  refine lv_iload_n hx hb (show decode cX6_begins 33 = .ok (.iload_n 1, 1) by decide +kernel) rfl (lv_at hl 1 rfl) ?_
  refine va_iast hx hb hK hP hD hS 1 0 rfl rfl (vp_in_nI (show 2 < 47 by decide) (by decide) : vp_in (nI 2) 47) (show decode cX6_begins 34 = .ok (.iastore, 1) by decide +kernel) (fun H locs hP hD hS => ?_)
  have hP : va_P D clsT [(h0, .inr (6, [.ref a1, v1, v2, v3, v4, v5, v6, v7, v8, v9, v10, v11, v12, v13, v14, v15, v16, v17, v18, v19, v20, v21, v22, v23, v24, v25, v26])), (a1, .inl (cI, 47, .inl (upd (fun _ => 0) (2 : Int32).toNatClampNeg (0))))] H := hP
  have hD : va_D A [(h0, .inr (6, [.ref a1, v1, v2, v3, v4, v5, v6, v7, v8, v9, v10, v11, v12, v13, v14, v15, v16, v17, v18, v19, v20, v21, v22, v23, v24, v25, v26])), (a1, .inl (cI, 47, .inl (upd (fun _ => 0) (2 : Int32).toNatClampNeg (0))))] := hD
  refine lv_aload_n hx hb (show decode cX6_begins 35 = .ok (.aload_n 0, 1) by decide +kernel) rfl (lv_at hl 2 rfl) ?_
  refine va_get (C := RX6) (T := TX6) (N := 27) hx hb hts inX6 hown hK hP 0 rfl rfl 0 (by decide) (hts _ gx_818) (fun _ h9 => h9) rfl (show decode cX6_begins 36 = .ok (.getfield 7, 3) by decide +kernel) ?_
  refine lv_iconst (v := 3) hx hb (show decode cX6_begins 39 = .ok (.iconst 3, 1) by decide +kernel) (by decide) ?_
  refine lv_iconst (v := 2) hx hb (show decode cX6_begins 40 = .ok (.iconst 2, 1) by decide +kernel) (by decide) ?_
  refine va_iast hx hb hK hP hD hS 1 0 rfl rfl (vp_in_nI (show 3 < 47 by decide) (by decide) : vp_in (nI 3) 47) (show decode cX6_begins 41 = .ok (.iastore, 1) by decide +kernel) (fun H locs hP hD hS => ?_)
  have hP : va_P D clsT [(h0, .inr (6, [.ref a1, v1, v2, v3, v4, v5, v6, v7, v8, v9, v10, v11, v12, v13, v14, v15, v16, v17, v18, v19, v20, v21, v22, v23, v24, v25, v26])), (a1, .inl (cI, 47, .inl (upd (upd (fun _ => 0) (2 : Int32).toNatClampNeg (0)) (3 : Int32).toNatClampNeg (2))))] H := hP
  have hD : va_D A [(h0, .inr (6, [.ref a1, v1, v2, v3, v4, v5, v6, v7, v8, v9, v10, v11, v12, v13, v14, v15, v16, v17, v18, v19, v20, v21, v22, v23, v24, v25, v26])), (a1, .inl (cI, 47, .inl (upd (upd (fun _ => 0) (2 : Int32).toNatClampNeg (0)) (3 : Int32).toNatClampNeg (2))))] := hD
  refine lv_aload_n hx hb (show decode cX6_begins 42 = .ok (.aload_n 0, 1) by decide +kernel) rfl (lv_at hl 2 rfl) ?_
  refine va_get (C := RX6) (T := TX6) (N := 27) hx hb hts inX6 hown hK hP 0 rfl rfl 0 (by decide) (hts _ gx_818) (fun _ h9 => h9) rfl (show decode cX6_begins 43 = .ok (.getfield 7, 3) by decide +kernel) ?_
  refine lv_iconst (v := 4) hx hb (show decode cX6_begins 46 = .ok (.iconst 4, 1) by decide +kernel) (by decide) ?_
  refine lv_iconst (v := 3) hx hb (show decode cX6_begins 47 = .ok (.iconst 3, 1) by decide +kernel) (by decide) ?_
  refine va_iast hx hb hK hP hD hS 1 0 rfl rfl (vp_in_nI (show 4 < 47 by decide) (by decide) : vp_in (nI 4) 47) (show decode cX6_begins 48 = .ok (.iastore, 1) by decide +kernel) (fun H locs hP hD hS => ?_)
  have hP : va_P D clsT [(h0, .inr (6, [.ref a1, v1, v2, v3, v4, v5, v6, v7, v8, v9, v10, v11, v12, v13, v14, v15, v16, v17, v18, v19, v20, v21, v22, v23, v24, v25, v26])), (a1, .inl (cI, 47, .inl (upd (upd (upd (fun _ => 0) (2 : Int32).toNatClampNeg (0)) (3 : Int32).toNatClampNeg (2)) (4 : Int32).toNatClampNeg (3))))] H := hP
  have hD : va_D A [(h0, .inr (6, [.ref a1, v1, v2, v3, v4, v5, v6, v7, v8, v9, v10, v11, v12, v13, v14, v15, v16, v17, v18, v19, v20, v21, v22, v23, v24, v25, v26])), (a1, .inl (cI, 47, .inl (upd (upd (upd (fun _ => 0) (2 : Int32).toNatClampNeg (0)) (3 : Int32).toNatClampNeg (2)) (4 : Int32).toNatClampNeg (3))))] := hD
  refine lv_aload_n hx hb (show decode cX6_begins 49 = .ok (.aload_n 0, 1) by decide +kernel) rfl (lv_at hl 2 rfl) ?_
  refine va_get (C := RX6) (T := TX6) (N := 27) hx hb hts inX6 hown hK hP 0 rfl rfl 0 (by decide) (hts _ gx_818) (fun _ h9 => h9) rfl (show decode cX6_begins 50 = .ok (.getfield 7, 3) by decide +kernel) ?_
  refine lv_iconst (v := 5) hx hb (show decode cX6_begins 53 = .ok (.iconst 5, 1) by decide +kernel) (by decide) ?_
  refine lv_iconst (v := 2) hx hb (show decode cX6_begins 54 = .ok (.iconst 2, 1) by decide +kernel) (by decide) ?_
  refine va_iast hx hb hK hP hD hS 1 0 rfl rfl (vp_in_nI (show 5 < 47 by decide) (by decide) : vp_in (nI 5) 47) (show decode cX6_begins 55 = .ok (.iastore, 1) by decide +kernel) (fun H locs hP hD hS => ?_)
  have hP : va_P D clsT [(h0, .inr (6, [.ref a1, v1, v2, v3, v4, v5, v6, v7, v8, v9, v10, v11, v12, v13, v14, v15, v16, v17, v18, v19, v20, v21, v22, v23, v24, v25, v26])), (a1, .inl (cI, 47, .inl (upd (upd (upd (upd (fun _ => 0) (2 : Int32).toNatClampNeg (0)) (3 : Int32).toNatClampNeg (2)) (4 : Int32).toNatClampNeg (3)) (5 : Int32).toNatClampNeg (2))))] H := hP
  have hD : va_D A [(h0, .inr (6, [.ref a1, v1, v2, v3, v4, v5, v6, v7, v8, v9, v10, v11, v12, v13, v14, v15, v16, v17, v18, v19, v20, v21, v22, v23, v24, v25, v26])), (a1, .inl (cI, 47, .inl (upd (upd (upd (upd (fun _ => 0) (2 : Int32).toNatClampNeg (0)) (3 : Int32).toNatClampNeg (2)) (4 : Int32).toNatClampNeg (3)) (5 : Int32).toNatClampNeg (2))))] := hD
  refine lv_aload_n hx hb (show decode cX6_begins 56 = .ok (.aload_n 0, 1) by decide +kernel) rfl (lv_at hl 2 rfl) ?_
  refine va_get (C := RX6) (T := TX6) (N := 27) hx hb hts inX6 hown hK hP 0 rfl rfl 0 (by decide) (hts _ gx_818) (fun _ h9 => h9) rfl (show decode cX6_begins 57 = .ok (.getfield 7, 3) by decide +kernel) ?_
  refine lv_bipush (v := 6) hx hb (show decode cX6_begins 60 = .ok (.bipush 6, 2) by decide +kernel) (by decide) ?_
  refine lv_bipush (v := 20) hx hb (show decode cX6_begins 62 = .ok (.bipush 20, 2) by decide +kernel) (by decide) ?_
  refine va_iast hx hb hK hP hD hS 1 0 rfl rfl (vp_in_nI (show 6 < 47 by decide) (by decide) : vp_in (nI 6) 47) (show decode cX6_begins 64 = .ok (.iastore, 1) by decide +kernel) (fun H locs hP hD hS => ?_)
  have hP : va_P D clsT [(h0, .inr (6, [.ref a1, v1, v2, v3, v4, v5, v6, v7, v8, v9, v10, v11, v12, v13, v14, v15, v16, v17, v18, v19, v20, v21, v22, v23, v24, v25, v26])), (a1, .inl (cI, 47, .inl (upd (upd (upd (upd (upd (fun _ => 0) (2 : Int32).toNatClampNeg (0)) (3 : Int32).toNatClampNeg (2)) (4 : Int32).toNatClampNeg (3)) (5 : Int32).toNatClampNeg (2)) (6 : Int32).toNatClampNeg (20))))] H := hP
  have hD : va_D A [(h0, .inr (6, [.ref a1, v1, v2, v3, v4, v5, v6, v7, v8, v9, v10, v11, v12, v13, v14, v15, v16, v17, v18, v19, v20, v21, v22, v23, v24, v25, v26])), (a1, .inl (cI, 47, .inl (upd (upd (upd (upd (upd (fun _ => 0) (2 : Int32).toNatClampNeg (0)) (3 : Int32).toNatClampNeg (2)) (4 : Int32).toNatClampNeg (3)) (5 : Int32).toNatClampNeg (2)) (6 : Int32).toNatClampNeg (20))))] := hD
  refine lv_iconst (v := 0) hx hb (show decode cX6_begins 65 = .ok (.iconst 0, 1) by decide +kernel) (by decide) ?_
  refine lv_istore_n (lv' := [(2, .int 0), (1, .int 0), (0, .ref h0)]) hx hb (show decode cX6_begins 66 = .ok (.istore_n 2, 1) by decide +kernel) rfl hl (by decide) rfl (fun ls hl => ?_)
  refine loopB _ (fun g H locs ls hg hP hD hS => ?_) 8 0 (by omega) _ _ _ _ ?_ hP hD hS hl
  · exact W.vret hx hb hr (fun t ht hW => ⟨⟨(), rfl, trivial, g, hg, by rw [ht]; exact hP, hD⟩, hS.F ht⟩) hS.2.2 (show decode cX6_begins 90 = .ok (.return_, 1) by decide +kernel)
  · exact ⟨⟨rfl, rfl, rfl⟩, ⟨rfl, rfl, rfl, rfl⟩, fun k k1 k2 => absurd k2 (by omega)⟩
