set_option maxHeartbeats 600000 in
set_option maxRecDepth 100000 in
theorem c_i3 (l : Launch) (D : va_G) (cI : ClassId) (h0 sz : Nat) : Met l yX3_init (Cond.code yX3_init cX3_init 1 none :: lwG) { frames := 1, cells := 0, slots := 0, locals := 12 } (va_Pc [.ref h0] (fun U => U.heap.size = sz ∧ va_P D clsT [(h0, .inr (3, [.int 0, .int 0, .int 0, .int 0]))] U.heap ∧ va_K D clsT [(cI, .int)] U ∧ va_D (fun _ => True) [(h0, .inr (3, [.int 0, .int 0, .int 0, .int 0]))])) (va_Qv (fun _ : Unit => True) (fun _ t => va_P D clsT [(h0, .inr (3, [.int 2, .int 0, .int (-1), .int 0]))] t.heap ∧ va_D (va_A [(h0, .inr (3, [.int 0, .int 0, .int 0, .int 0]))] sz) [(h0, .inr (3, [.int 2, .int 0, .int (-1), .int 0]))]) (va_A [(h0, .inr (3, [.int 0, .int 0, .int 0, .int 0]))] sz)) 0 0 (va_A [(h0, .inr (3, [.int 0, .int 0, .int 0, .int 0]))] sz) := by
  refine Met.ofW (cc := cX3_init) (maxL := 1) (ret := none) (by decide) rfl ?_
  intro p e s m args below meth c s₁ B hml hv
  obtain ⟨rfl, hv⟩ := hv
  have hx := B.exec
  have hb := B.bytes
  have hr := B.returns
  have hts : ∀ x ∈ lwG, x.before _ s = true := fun x hx => atoms_spec (ws := Cond.code yX3_init cX3_init 1 none :: lwG) B.pre x (List.mem_cons_of_mem _ hx)
  have hown : s.vm.findClass RX3 = some m.cls := findClass_of_methodNamed B.named
  have hlocks := B.notSynchronized
  have hin : meth.name = "<init>" := (name_of_methodNamed B.named B.method).1
  obtain ⟨hsz, hP, hK, hD0⟩ := hv
  subst hsz
  have hD := hD0.self (sz := s.heap.size)
  generalize hAe : va_A [(h0, .inr (3, [.int 0, .int 0, .int 0, .int 0]))] s.heap.size = A at *
  have hA : ∀ q : Nat, s.heap.size ≤ q → A q := fun q h => by rw [← hAe]; exact Or.inr h
  have hS : va_S A s.heap s.heap [] := va_S.rf
  have hl := lv_entry ([.ref h0]) (n := 1) (Nat.le_of_ble_eq_true rfl)
  rw [lg_entry_eq]
  generalize (lg_sl ([.ref h0]) ++ List.replicate (1 - (lg_sl ([.ref h0])).length) Slot.unset).toArray = ls at hl ⊢
  have hl : lv_has ls 1 [(0, .ref h0)] := hl
  refine lv_aload_n hx hb (show decode cX3_init 0 = .ok (.aload_n 0, 1) by decide +kernel) rfl (lv_at hl 0 rfl) ?_
  refine W.objInit hx hb hown (hts _ gx_221) (hts _ gx_75) (hts _ gx_76) rfl (by rw [hml]; exact hl.1) rfl (show decode cX3_init 1 = .ok (.invokespecial 3, 3) by decide +kernel) (Nat.le_of_ble_eq_true rfl) (Nat.le_of_ble_eq_true rfl) ?_
  refine W.eq (g2 := F0 m 4 ls []) rfl ?_
  refine lv_aload_n hx hb (show decode cX3_init 4 = .ok (.aload_n 0, 1) by decide +kernel) rfl (lv_at hl 0 rfl) ?_
  refine lv_iconst (v := 2) hx hb (show decode cX3_init 5 = .ok (.iconst 2, 1) by decide +kernel) (by decide) ?_
  refine va_put (C := RX3) (T := TX3) (N := 4) hx hb hts inX3 tyX3 tyX3_ok nmX3 hown hK hP hD hS 0 rfl rfl 0 (by decide) (hts _ gx_222) (fun _ h9 => h9) rfl (tyX3_ok 0 (by decide)) rfl rfl (Nat.le_of_ble_eq_true rfl) (show decode cX3_init 6 = .ok (.putfield 9, 3) by decide +kernel) (fun H locs hP hD hS => ?_)
  have hP : va_P D clsT [(h0, .inr (3, [.int 2, .int 0, .int 0, .int 0]))] H := hP
  have hD : va_D A [(h0, .inr (3, [.int 2, .int 0, .int 0, .int 0]))] := hD
  refine lv_aload_n hx hb (show decode cX3_init 9 = .ok (.aload_n 0, 1) by decide +kernel) rfl (lv_at hl 0 rfl) ?_
  refine lv_iconst (v := 0) hx hb (show decode cX3_init 10 = .ok (.iconst 0, 1) by decide +kernel) (by decide) ?_
  refine va_put (C := RX3) (T := TX3) (N := 4) hx hb hts inX3 tyX3 tyX3_ok nmX3 hown hK hP hD hS 0 rfl rfl 1 (by decide) (hts _ gx_224) (fun _ h9 => h9) rfl (tyX3_ok 1 (by decide)) rfl rfl (Nat.le_of_ble_eq_true rfl) (show decode cX3_init 11 = .ok (.putfield 15, 3) by decide +kernel) (fun H locs hP hD hS => ?_)
  have hP : va_P D clsT [(h0, .inr (3, [.int 2, .int 0, .int 0, .int 0]))] H := hP
  have hD : va_D A [(h0, .inr (3, [.int 2, .int 0, .int 0, .int 0]))] := hD
  refine lv_aload_n hx hb (show decode cX3_init 14 = .ok (.aload_n 0, 1) by decide +kernel) rfl (lv_at hl 0 rfl) ?_
  refine lv_iconst (v := (-1)) hx hb (show decode cX3_init 15 = .ok (.iconst (-1), 1) by decide +kernel) (by decide) ?_
  refine va_put (C := RX3) (T := TX3) (N := 4) hx hb hts inX3 tyX3 tyX3_ok nmX3 hown hK hP hD hS 0 rfl rfl 2 (by decide) (hts _ gx_226) (fun _ h9 => h9) rfl (tyX3_ok 2 (by decide)) rfl rfl (Nat.le_of_ble_eq_true rfl) (show decode cX3_init 16 = .ok (.putfield 18, 3) by decide +kernel) (fun H locs hP hD hS => ?_)
  have hP : va_P D clsT [(h0, .inr (3, [.int 2, .int 0, .int (-1), .int 0]))] H := hP
  have hD : va_D A [(h0, .inr (3, [.int 2, .int 0, .int (-1), .int 0]))] := hD
  refine lv_aload_n hx hb (show decode cX3_init 19 = .ok (.aload_n 0, 1) by decide +kernel) rfl (lv_at hl 0 rfl) ?_
  refine lv_iconst (v := 0) hx hb (show decode cX3_init 20 = .ok (.iconst 0, 1) by decide +kernel) (by decide) ?_
  refine va_put (C := RX3) (T := TX3) (N := 4) hx hb hts inX3 tyX3 tyX3_ok nmX3 hown hK hP hD hS 0 rfl rfl 3 (by decide) (hts _ gx_228) (fun _ h9 => h9) rfl (tyX3_ok 3 (by decide)) rfl rfl (Nat.le_of_ble_eq_true rfl) (show decode cX3_init 21 = .ok (.putfield 21, 3) by decide +kernel) (fun H locs hP hD hS => ?_)
  have hP : va_P D clsT [(h0, .inr (3, [.int 2, .int 0, .int (-1), .int 0]))] H := hP
  have hD : va_D A [(h0, .inr (3, [.int 2, .int 0, .int (-1), .int 0]))] := hD
  exact W.vret hx hb hr (fun t ht hW => ⟨⟨(), rfl, trivial, by rw [ht]; exact hP, hD⟩, hS.F ht⟩) hS.2.2 (show decode cX3_init 24 = .ok (.return_, 1) by decide +kernel)
set_option maxHeartbeats 600000 in
set_option maxRecDepth 100000 in
theorem c_i4 (l : Launch) (D : va_G) (cI : ClassId) (h0 sz : Nat) : Met l yX4_init (Cond.code yX4_init cX4_init 1 none :: lwG) { frames := 1, cells := 1, slots := 200, locals := 12 } (va_Pc [.ref h0] (fun U => U.heap.size = sz ∧ va_P D clsT [(h0, .inr (4, [.null, .int 0, .int 0, .int 0, .int 0, .int 0, .int 0]))] U.heap ∧ va_K D clsT [(cI, .int)] U ∧ va_D (fun _ => True) [(h0, .inr (4, [.null, .int 0, .int 0, .int 0, .int 0, .int 0, .int 0]))])) (va_Qv (fun _ : Unit => True) (fun _ t => ∃ q1 : Nat, va_P D clsT [(h0, .inr (4, [.ref q1, .int 0, .int 0, .int 0, .int 0, .int 0, .int (-1)])), (q1, .inl (cI, 200, .inl (fun _ => 0)))] t.heap ∧ va_D (va_A [(h0, .inr (4, [.null, .int 0, .int 0, .int 0, .int 0, .int 0, .int 0]))] sz) [(h0, .inr (4, [.ref q1, .int 0, .int 0, .int 0, .int 0, .int 0, .int (-1)])), (q1, .inl (cI, 200, .inl (fun _ => 0)))]) (va_A [(h0, .inr (4, [.null, .int 0, .int 0, .int 0, .int 0, .int 0, .int 0]))] sz)) 1 200 (va_A [(h0, .inr (4, [.null, .int 0, .int 0, .int 0, .int 0, .int 0, .int 0]))] sz) := by
  refine Met.ofW (cc := cX4_init) (maxL := 1) (ret := none) (by decide) rfl ?_
  intro p e s m args below meth c s₁ B hml hv
  obtain ⟨rfl, hv⟩ := hv
  have hx := B.exec
  have hb := B.bytes
  have hr := B.returns
  have hts : ∀ x ∈ lwG, x.before _ s = true := fun x hx => atoms_spec (ws := Cond.code yX4_init cX4_init 1 none :: lwG) B.pre x (List.mem_cons_of_mem _ hx)
  have hown : s.vm.findClass RX4 = some m.cls := findClass_of_methodNamed B.named
  have hlocks := B.notSynchronized
  have hin : meth.name = "<init>" := (name_of_methodNamed B.named B.method).1
  obtain ⟨hsz, hP, hK, hD0⟩ := hv
  subst hsz
  have hD := hD0.self (sz := s.heap.size)
  generalize hAe : va_A [(h0, .inr (4, [.null, .int 0, .int 0, .int 0, .int 0, .int 0, .int 0]))] s.heap.size = A at *
  have hA : ∀ q : Nat, s.heap.size ≤ q → A q := fun q h => by rw [← hAe]; exact Or.inr h
  have hS : va_S A s.heap s.heap [] := va_S.rf
  have hl := lv_entry ([.ref h0]) (n := 1) (Nat.le_of_ble_eq_true rfl)
  rw [lg_entry_eq]
  generalize (lg_sl ([.ref h0]) ++ List.replicate (1 - (lg_sl ([.ref h0])).length) Slot.unset).toArray = ls at hl ⊢
  have hl : lv_has ls 1 [(0, .ref h0)] := hl
  refine lv_aload_n hx hb (show decode cX4_init 0 = .ok (.aload_n 0, 1) by decide +kernel) rfl (lv_at hl 0 rfl) ?_
  refine W.objInit hx hb hown (hts _ gx_139) (hts _ gx_75) (hts _ gx_76) rfl (by rw [hml]; exact hl.1) rfl (show decode cX4_init 1 = .ok (.invokespecial 3, 3) by decide +kernel) (Nat.le_of_ble_eq_true rfl) (Nat.le_of_ble_eq_true rfl) ?_
  refine W.eq (g2 := F0 m 4 ls []) rfl ?_
  refine lv_aload_n hx hb (show decode cX4_init 4 = .ok (.aload_n 0, 1) by decide +kernel) rfl (lv_at hl 0 rfl) ?_
  refine lv_sipush (v := 200) hx hb (show decode cX4_init 5 = .ok (.sipush 200, 3) by decide +kernel) (by decide) ?_
  refine va_newa (atype := .int) (a0 := (200, .inl (fun _ => 0))) (N' := 200) hx hb (hts _ gx_133) rfl hK hP hD hS hA (fun _ => rfl) (by decide) (by decide) (by decide) (Nat.le_of_ble_eq_true rfl) (Nat.le_of_ble_eq_true rfl) (show decode cX4_init 8 = .ok (.newarray .int, 2) by decide +kernel) (fun q1 cA H hK1 hP hD hS => ?_)
  have ec := (kI2 hK1 0 1 rfl rfl).symm
  subst ec
  clear hK1
  have hP : va_P D clsT [(h0, .inr (4, [.null, .int 0, .int 0, .int 0, .int 0, .int 0, .int 0])), (q1, .inl (cI, 200, .inl (fun _ => 0)))] H := hP
  have hD : va_D A [(h0, .inr (4, [.null, .int 0, .int 0, .int 0, .int 0, .int 0, .int 0])), (q1, .inl (cI, 200, .inl (fun _ => 0)))] := hD
  refine va_putF (C := RX4) (T := TX4) (N := 7) hx hb hts inX4 tyX4 tyX4_ok nmX4 hown hK hP hD hS 0 rfl rfl 0 (by decide) (hts _ gx_140) (fun _ h9 => h9) rfl hin rfl (tyX4_ok 0 (by decide)) rfl rfl (Nat.le_of_ble_eq_true rfl) (show decode cX4_init 10 = .ok (.putfield 9, 3) by decide +kernel) (fun H locs hP hD hS => ?_)
  have hP : va_P D clsT [(h0, .inr (4, [.ref q1, .int 0, .int 0, .int 0, .int 0, .int 0, .int 0])), (q1, .inl (cI, 200, .inl (fun _ => 0)))] H := hP
  have hD : va_D A [(h0, .inr (4, [.ref q1, .int 0, .int 0, .int 0, .int 0, .int 0, .int 0])), (q1, .inl (cI, 200, .inl (fun _ => 0)))] := hD
  refine lv_aload_n hx hb (show decode cX4_init 13 = .ok (.aload_n 0, 1) by decide +kernel) rfl (lv_at hl 0 rfl) ?_
  refine lv_iconst (v := 0) hx hb (show decode cX4_init 14 = .ok (.iconst 0, 1) by decide +kernel) (by decide) ?_
  refine va_put (C := RX4) (T := TX4) (N := 7) hx hb hts inX4 tyX4 tyX4_ok nmX4 hown hK hP hD hS 0 rfl rfl 1 (by decide) (hts _ gx_141) (fun _ h9 => h9) rfl (tyX4_ok 1 (by decide)) rfl rfl (Nat.le_of_ble_eq_true rfl) (show decode cX4_init 15 = .ok (.putfield 15, 3) by decide +kernel) (fun H locs hP hD hS => ?_)
  have hP : va_P D clsT [(h0, .inr (4, [.ref q1, .int 0, .int 0, .int 0, .int 0, .int 0, .int 0])), (q1, .inl (cI, 200, .inl (fun _ => 0)))] H := hP
  have hD : va_D A [(h0, .inr (4, [.ref q1, .int 0, .int 0, .int 0, .int 0, .int 0, .int 0])), (q1, .inl (cI, 200, .inl (fun _ => 0)))] := hD
  refine lv_aload_n hx hb (show decode cX4_init 18 = .ok (.aload_n 0, 1) by decide +kernel) rfl (lv_at hl 0 rfl) ?_
  refine lv_iconst (v := 0) hx hb (show decode cX4_init 19 = .ok (.iconst 0, 1) by decide +kernel) (by decide) ?_
  refine va_put (C := RX4) (T := TX4) (N := 7) hx hb hts inX4 tyX4 tyX4_ok nmX4 hown hK hP hD hS 0 rfl rfl 2 (by decide) (hts _ gx_143) (fun _ h9 => h9) rfl (tyX4_ok 2 (by decide)) rfl rfl (Nat.le_of_ble_eq_true rfl) (show decode cX4_init 20 = .ok (.putfield 19, 3) by decide +kernel) (fun H locs hP hD hS => ?_)
  have hP : va_P D clsT [(h0, .inr (4, [.ref q1, .int 0, .int 0, .int 0, .int 0, .int 0, .int 0])), (q1, .inl (cI, 200, .inl (fun _ => 0)))] H := hP
  have hD : va_D A [(h0, .inr (4, [.ref q1, .int 0, .int 0, .int 0, .int 0, .int 0, .int 0])), (q1, .inl (cI, 200, .inl (fun _ => 0)))] := hD
  refine lv_aload_n hx hb (show decode cX4_init 23 = .ok (.aload_n 0, 1) by decide +kernel) rfl (lv_at hl 0 rfl) ?_
  refine lv_iconst (v := 0) hx hb (show decode cX4_init 24 = .ok (.iconst 0, 1) by decide +kernel) (by decide) ?_
  refine va_put (C := RX4) (T := TX4) (N := 7) hx hb hts inX4 tyX4 tyX4_ok nmX4 hown hK hP hD hS 0 rfl rfl 3 (by decide) (hts _ gx_144) (fun _ h9 => h9) rfl (tyX4_ok 3 (by decide)) rfl rfl (Nat.le_of_ble_eq_true rfl) (show decode cX4_init 25 = .ok (.putfield 22, 3) by decide +kernel) (fun H locs hP hD hS => ?_)
  have hP : va_P D clsT [(h0, .inr (4, [.ref q1, .int 0, .int 0, .int 0, .int 0, .int 0, .int 0])), (q1, .inl (cI, 200, .inl (fun _ => 0)))] H := hP
  have hD : va_D A [(h0, .inr (4, [.ref q1, .int 0, .int 0, .int 0, .int 0, .int 0, .int 0])), (q1, .inl (cI, 200, .inl (fun _ => 0)))] := hD
  refine lv_aload_n hx hb (show decode cX4_init 28 = .ok (.aload_n 0, 1) by decide +kernel) rfl (lv_at hl 0 rfl) ?_
  refine lv_iconst (v := 0) hx hb (show decode cX4_init 29 = .ok (.iconst 0, 1) by decide +kernel) (by decide) ?_
  refine va_put (C := RX4) (T := TX4) (N := 7) hx hb hts inX4 tyX4 tyX4_ok nmX4 hown hK hP hD hS 0 rfl rfl 4 (by decide) (hts _ gx_145) (fun _ h9 => h9) rfl (tyX4_ok 4 (by decide)) rfl rfl (Nat.le_of_ble_eq_true rfl) (show decode cX4_init 30 = .ok (.putfield 25, 3) by decide +kernel) (fun H locs hP hD hS => ?_)
  have hP : va_P D clsT [(h0, .inr (4, [.ref q1, .int 0, .int 0, .int 0, .int 0, .int 0, .int 0])), (q1, .inl (cI, 200, .inl (fun _ => 0)))] H := hP
  have hD : va_D A [(h0, .inr (4, [.ref q1, .int 0, .int 0, .int 0, .int 0, .int 0, .int 0])), (q1, .inl (cI, 200, .inl (fun _ => 0)))] := hD
  refine lv_aload_n hx hb (show decode cX4_init 33 = .ok (.aload_n 0, 1) by decide +kernel) rfl (lv_at hl 0 rfl) ?_
  refine lv_iconst (v := 0) hx hb (show decode cX4_init 34 = .ok (.iconst 0, 1) by decide +kernel) (by decide) ?_
  refine va_put (C := RX4) (T := TX4) (N := 7) hx hb hts inX4 tyX4 tyX4_ok nmX4 hown hK hP hD hS 0 rfl rfl 5 (by decide) (hts _ gx_146) (fun _ h9 => h9) rfl (tyX4_ok 5 (by decide)) rfl rfl (Nat.le_of_ble_eq_true rfl) (show decode cX4_init 35 = .ok (.putfield 28, 3) by decide +kernel) (fun H locs hP hD hS => ?_)
  have hP : va_P D clsT [(h0, .inr (4, [.ref q1, .int 0, .int 0, .int 0, .int 0, .int 0, .int 0])), (q1, .inl (cI, 200, .inl (fun _ => 0)))] H := hP
  have hD : va_D A [(h0, .inr (4, [.ref q1, .int 0, .int 0, .int 0, .int 0, .int 0, .int 0])), (q1, .inl (cI, 200, .inl (fun _ => 0)))] := hD
  refine lv_aload_n hx hb (show decode cX4_init 38 = .ok (.aload_n 0, 1) by decide +kernel) rfl (lv_at hl 0 rfl) ?_
  refine lv_iconst (v := (-1)) hx hb (show decode cX4_init 39 = .ok (.iconst (-1), 1) by decide +kernel) (by decide) ?_
  refine va_put (C := RX4) (T := TX4) (N := 7) hx hb hts inX4 tyX4 tyX4_ok nmX4 hown hK hP hD hS 0 rfl rfl 6 (by decide) (hts _ gx_147) (fun _ h9 => h9) rfl (tyX4_ok 6 (by decide)) rfl rfl (Nat.le_of_ble_eq_true rfl) (show decode cX4_init 40 = .ok (.putfield 31, 3) by decide +kernel) (fun H locs hP hD hS => ?_)
  have hP : va_P D clsT [(h0, .inr (4, [.ref q1, .int 0, .int 0, .int 0, .int 0, .int 0, .int (-1)])), (q1, .inl (cI, 200, .inl (fun _ => 0)))] H := hP
  have hD : va_D A [(h0, .inr (4, [.ref q1, .int 0, .int 0, .int 0, .int 0, .int 0, .int (-1)])), (q1, .inl (cI, 200, .inl (fun _ => 0)))] := hD
  refine W.widen (k := 1) (n := 200) (Nat.le_of_ble_eq_true rfl) (Nat.le_of_ble_eq_true rfl) ?_
  exact W.vret hx hb hr (fun t ht hW => ⟨⟨(), rfl, trivial, q1, by rw [ht]; exact hP, hD⟩, hS.F ht⟩) hS.2.2 (show decode cX4_init 43 = .ok (.return_, 1) by decide +kernel)
set_option maxHeartbeats 600000 in
set_option maxRecDepth 100000 in
theorem c_i0 (l : Launch) (D : va_G) (cI : ClassId) (h0 sz : Nat) : Met l yX0_init (Cond.code yX0_init cX0_init 1 none :: lwG) { frames := 1, cells := 1, slots := 30, locals := 12 } (va_Pc [.ref h0] (fun U => U.heap.size = sz ∧ va_P D clsT [(h0, .inr (0, [.null, .int 0, .int 0, .int 0, .int 0, .int 0]))] U.heap ∧ va_K D clsT [(cI, .int)] U ∧ va_D (fun _ => True) [(h0, .inr (0, [.null, .int 0, .int 0, .int 0, .int 0, .int 0]))])) (va_Qv (fun _ : Unit => True) (fun _ t => ∃ q1 : Nat, va_P D clsT [(h0, .inr (0, [.ref q1, .int 0, .int 0, .int 0, .int 0, .int 0])), (q1, .inl (cI, 30, .inl (fun _ => 0)))] t.heap ∧ va_D (va_A [(h0, .inr (0, [.null, .int 0, .int 0, .int 0, .int 0, .int 0]))] sz) [(h0, .inr (0, [.ref q1, .int 0, .int 0, .int 0, .int 0, .int 0])), (q1, .inl (cI, 30, .inl (fun _ => 0)))]) (va_A [(h0, .inr (0, [.null, .int 0, .int 0, .int 0, .int 0, .int 0]))] sz)) 1 30 (va_A [(h0, .inr (0, [.null, .int 0, .int 0, .int 0, .int 0, .int 0]))] sz) := by
  refine Met.ofW (cc := cX0_init) (maxL := 1) (ret := none) (by decide) rfl ?_
  intro p e s m args below meth c s₁ B hml hv
  obtain ⟨rfl, hv⟩ := hv
  have hx := B.exec
  have hb := B.bytes
  have hr := B.returns
  have hts : ∀ x ∈ lwG, x.before _ s = true := fun x hx => atoms_spec (ws := Cond.code yX0_init cX0_init 1 none :: lwG) B.pre x (List.mem_cons_of_mem _ hx)
  have hown : s.vm.findClass RX0 = some m.cls := findClass_of_methodNamed B.named
  have hlocks := B.notSynchronized
  have hin : meth.name = "<init>" := (name_of_methodNamed B.named B.method).1
  obtain ⟨hsz, hP, hK, hD0⟩ := hv
  subst hsz
  have hD := hD0.self (sz := s.heap.size)
  generalize hAe : va_A [(h0, .inr (0, [.null, .int 0, .int 0, .int 0, .int 0, .int 0]))] s.heap.size = A at *
  have hA : ∀ q : Nat, s.heap.size ≤ q → A q := fun q h => by rw [← hAe]; exact Or.inr h
  have hS : va_S A s.heap s.heap [] := va_S.rf
  have hl := lv_entry ([.ref h0]) (n := 1) (Nat.le_of_ble_eq_true rfl)
  rw [lg_entry_eq]
  generalize (lg_sl ([.ref h0]) ++ List.replicate (1 - (lg_sl ([.ref h0])).length) Slot.unset).toArray = ls at hl ⊢
  have hl : lv_has ls 1 [(0, .ref h0)] := hl
  refine lv_aload_n hx hb (show decode cX0_init 0 = .ok (.aload_n 0, 1) by decide +kernel) rfl (lv_at hl 0 rfl) ?_
  refine W.objInit hx hb hown (hts _ gx_172) (hts _ gx_75) (hts _ gx_76) rfl (by rw [hml]; exact hl.1) rfl (show decode cX0_init 1 = .ok (.invokespecial 3, 3) by decide +kernel) (Nat.le_of_ble_eq_true rfl) (Nat.le_of_ble_eq_true rfl) ?_
  refine W.eq (g2 := F0 m 4 ls []) rfl ?_
  refine lv_aload_n hx hb (show decode cX0_init 4 = .ok (.aload_n 0, 1) by decide +kernel) rfl (lv_at hl 0 rfl) ?_
  refine lv_bipush (v := 30) hx hb (show decode cX0_init 5 = .ok (.bipush 30, 2) by decide +kernel) (by decide) ?_
  refine va_newa (atype := .int) (a0 := (30, .inl (fun _ => 0))) (N' := 30) hx hb (hts _ gx_133) rfl hK hP hD hS hA (fun _ => rfl) (by decide) (by decide) (by decide) (Nat.le_of_ble_eq_true rfl) (Nat.le_of_ble_eq_true rfl) (show decode cX0_init 7 = .ok (.newarray .int, 2) by decide +kernel) (fun q1 cA H hK1 hP hD hS => ?_)
  have ec := (kI2 hK1 0 1 rfl rfl).symm
  subst ec
  clear hK1
  have hP : va_P D clsT [(h0, .inr (0, [.null, .int 0, .int 0, .int 0, .int 0, .int 0])), (q1, .inl (cI, 30, .inl (fun _ => 0)))] H := hP
  have hD : va_D A [(h0, .inr (0, [.null, .int 0, .int 0, .int 0, .int 0, .int 0])), (q1, .inl (cI, 30, .inl (fun _ => 0)))] := hD
  refine va_putF (C := RX0) (T := TX0) (N := 6) hx hb hts inX0 tyX0 tyX0_ok nmX0 hown hK hP hD hS 0 rfl rfl 0 (by decide) (hts _ gx_173) (fun _ h9 => h9) rfl hin rfl (tyX0_ok 0 (by decide)) rfl rfl (Nat.le_of_ble_eq_true rfl) (show decode cX0_init 9 = .ok (.putfield 9, 3) by decide +kernel) (fun H locs hP hD hS => ?_)
  have hP : va_P D clsT [(h0, .inr (0, [.ref q1, .int 0, .int 0, .int 0, .int 0, .int 0])), (q1, .inl (cI, 30, .inl (fun _ => 0)))] H := hP
  have hD : va_D A [(h0, .inr (0, [.ref q1, .int 0, .int 0, .int 0, .int 0, .int 0])), (q1, .inl (cI, 30, .inl (fun _ => 0)))] := hD
  refine lv_aload_n hx hb (show decode cX0_init 12 = .ok (.aload_n 0, 1) by decide +kernel) rfl (lv_at hl 0 rfl) ?_
  refine lv_iconst (v := 0) hx hb (show decode cX0_init 13 = .ok (.iconst 0, 1) by decide +kernel) (by decide) ?_
  refine va_put (C := RX0) (T := TX0) (N := 6) hx hb hts inX0 tyX0 tyX0_ok nmX0 hown hK hP hD hS 0 rfl rfl 1 (by decide) (hts _ gx_175) (fun _ h9 => h9) rfl (tyX0_ok 1 (by decide)) rfl rfl (Nat.le_of_ble_eq_true rfl) (show decode cX0_init 14 = .ok (.putfield 15, 3) by decide +kernel) (fun H locs hP hD hS => ?_)
  have hP : va_P D clsT [(h0, .inr (0, [.ref q1, .int 0, .int 0, .int 0, .int 0, .int 0])), (q1, .inl (cI, 30, .inl (fun _ => 0)))] H := hP
  have hD : va_D A [(h0, .inr (0, [.ref q1, .int 0, .int 0, .int 0, .int 0, .int 0])), (q1, .inl (cI, 30, .inl (fun _ => 0)))] := hD
  refine lv_aload_n hx hb (show decode cX0_init 17 = .ok (.aload_n 0, 1) by decide +kernel) rfl (lv_at hl 0 rfl) ?_
  refine lv_iconst (v := 0) hx hb (show decode cX0_init 18 = .ok (.iconst 0, 1) by decide +kernel) (by decide) ?_
  refine va_put (C := RX0) (T := TX0) (N := 6) hx hb hts inX0 tyX0 tyX0_ok nmX0 hown hK hP hD hS 0 rfl rfl 2 (by decide) (hts _ gx_177) (fun _ h9 => h9) rfl (tyX0_ok 2 (by decide)) rfl rfl (Nat.le_of_ble_eq_true rfl) (show decode cX0_init 19 = .ok (.putfield 19, 3) by decide +kernel) (fun H locs hP hD hS => ?_)
  have hP : va_P D clsT [(h0, .inr (0, [.ref q1, .int 0, .int 0, .int 0, .int 0, .int 0])), (q1, .inl (cI, 30, .inl (fun _ => 0)))] H := hP
  have hD : va_D A [(h0, .inr (0, [.ref q1, .int 0, .int 0, .int 0, .int 0, .int 0])), (q1, .inl (cI, 30, .inl (fun _ => 0)))] := hD
  refine lv_aload_n hx hb (show decode cX0_init 22 = .ok (.aload_n 0, 1) by decide +kernel) rfl (lv_at hl 0 rfl) ?_
  refine lv_iconst (v := 0) hx hb (show decode cX0_init 23 = .ok (.iconst 0, 1) by decide +kernel) (by decide) ?_
  refine va_put (C := RX0) (T := TX0) (N := 6) hx hb hts inX0 tyX0 tyX0_ok nmX0 hown hK hP hD hS 0 rfl rfl 3 (by decide) (hts _ gx_178) (fun _ h9 => h9) rfl (tyX0_ok 3 (by decide)) rfl rfl (Nat.le_of_ble_eq_true rfl) (show decode cX0_init 24 = .ok (.putfield 22, 3) by decide +kernel) (fun H locs hP hD hS => ?_)
  have hP : va_P D clsT [(h0, .inr (0, [.ref q1, .int 0, .int 0, .int 0, .int 0, .int 0])), (q1, .inl (cI, 30, .inl (fun _ => 0)))] H := hP
  have hD : va_D A [(h0, .inr (0, [.ref q1, .int 0, .int 0, .int 0, .int 0, .int 0])), (q1, .inl (cI, 30, .inl (fun _ => 0)))] := hD
  refine lv_aload_n hx hb (show decode cX0_init 27 = .ok (.aload_n 0, 1) by decide +kernel) rfl (lv_at hl 0 rfl) ?_
  refine lv_iconst (v := 0) hx hb (show decode cX0_init 28 = .ok (.iconst 0, 1) by decide +kernel) (by decide) ?_
  refine va_put (C := RX0) (T := TX0) (N := 6) hx hb hts inX0 tyX0 tyX0_ok nmX0 hown hK hP hD hS 0 rfl rfl 4 (by decide) (hts _ gx_180) (fun _ h9 => h9) rfl (tyX0_ok 4 (by decide)) rfl rfl (Nat.le_of_ble_eq_true rfl) (show decode cX0_init 29 = .ok (.putfield 25, 3) by decide +kernel) (fun H locs hP hD hS => ?_)
  have hP : va_P D clsT [(h0, .inr (0, [.ref q1, .int 0, .int 0, .int 0, .int 0, .int 0])), (q1, .inl (cI, 30, .inl (fun _ => 0)))] H := hP
  have hD : va_D A [(h0, .inr (0, [.ref q1, .int 0, .int 0, .int 0, .int 0, .int 0])), (q1, .inl (cI, 30, .inl (fun _ => 0)))] := hD
  refine lv_aload_n hx hb (show decode cX0_init 32 = .ok (.aload_n 0, 1) by decide +kernel) rfl (lv_at hl 0 rfl) ?_
  refine lv_iconst (v := 0) hx hb (show decode cX0_init 33 = .ok (.iconst 0, 1) by decide +kernel) (by decide) ?_
  refine va_put (C := RX0) (T := TX0) (N := 6) hx hb hts inX0 tyX0 tyX0_ok nmX0 hown hK hP hD hS 0 rfl rfl 5 (by decide) (hts _ gx_182) (fun _ h9 => h9) rfl (tyX0_ok 5 (by decide)) rfl rfl (Nat.le_of_ble_eq_true rfl) (show decode cX0_init 34 = .ok (.putfield 28, 3) by decide +kernel) (fun H locs hP hD hS => ?_)
  have hP : va_P D clsT [(h0, .inr (0, [.ref q1, .int 0, .int 0, .int 0, .int 0, .int 0])), (q1, .inl (cI, 30, .inl (fun _ => 0)))] H := hP
  have hD : va_D A [(h0, .inr (0, [.ref q1, .int 0, .int 0, .int 0, .int 0, .int 0])), (q1, .inl (cI, 30, .inl (fun _ => 0)))] := hD
  refine W.widen (k := 1) (n := 30) (Nat.le_of_ble_eq_true rfl) (Nat.le_of_ble_eq_true rfl) ?_
  exact W.vret hx hb hr (fun t ht hW => ⟨⟨(), rfl, trivial, q1, by rw [ht]; exact hP, hD⟩, hS.F ht⟩) hS.2.2 (show decode cX0_init 37 = .ok (.return_, 1) by decide +kernel)
