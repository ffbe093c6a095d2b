theorem gx_5 : Cond.selects RX6 yX6_begins yX6_begins ∈ lwG := inG 5 (by decide +kernel) (by decide +kernel)
theorem gx_56 : Cond.initialized RX1 ∈ lwG := inG 56 (by decide +kernel) (by decide +kernel)
theorem gx_58 : Cond.initialized RX4 ∈ lwG := inG 58 (by decide +kernel) (by decide +kernel)
theorem gx_59 : Cond.initialized RX0 ∈ lwG := inG 59 (by decide +kernel) (by decide +kernel)
theorem gx_60 : Cond.initialized RX2 ∈ lwG := inG 60 (by decide +kernel) (by decide +kernel)
theorem gx_61 : Cond.initialized RX3 ∈ lwG := inG 61 (by decide +kernel) (by decide +kernel)
theorem gx_62 : Cond.initialized RX6 ∈ lwG := inG 62 (by decide +kernel) (by decide +kernel)
theorem gx_74 : Cond.methodLink RX5 1 objectInit ∈ lwG := inG 74 (by decide +kernel) (by decide +kernel)
theorem gx_77 : Cond.classLink RX5 7 RX1 ∈ lwG := inG 77 (by decide +kernel) (by decide +kernel)
theorem gx_78 : Cond.instantiable RX1 9 ∈ lwG := inG 78 (by decide +kernel) (by decide +kernel)
theorem gx_79 : Cond.methodLink RX5 9 yX1_init ∈ lwG := inG 79 (by decide +kernel) (by decide +kernel)
theorem gx_80 : Cond.instanceMethod yX1_init ∈ lwG := inG 80 (by decide +kernel) (by decide +kernel)
theorem gx_81 : Cond.code yX1_init cX1_init 1 none ∈ lwG := inG 81 (by decide +kernel) (by decide +kernel)
theorem gx_82 : Cond.methodLink RX1 3 objectInit ∈ lwG := inG 82 (by decide +kernel) (by decide +kernel)
theorem gx_83 : Cond.methodLink RX1 40 yX1_becomeFirst ∈ lwG := inG 83 (by decide +kernel) (by decide +kernel)
theorem gx_84 : Cond.instanceMethod yX1_becomeFirst ∈ lwG := inG 84 (by decide +kernel) (by decide +kernel)
theorem gx_85 : Cond.selects RX1 yX1_becomeFirst yX1_becomeFirst ∈ lwG := inG 85 (by decide +kernel) (by decide +kernel)
theorem gx_86 : Cond.code yX1_becomeFirst cX1_becomeFirst 2 none ∈ lwG := inG 86 (by decide +kernel) (by decide +kernel)
theorem gx_98 : Cond.fieldLink RX1 18 "MannersGaol$Gaol" "kinds" "[I" ∈ lwG := inG 98 (by decide +kernel) (by decide +kernel)
theorem gx_100 : Cond.fieldLink RX1 21 "MannersGaol$Gaol" "graces" "[I" ∈ lwG := inG 100 (by decide +kernel) (by decide +kernel)
theorem gx_102 : Cond.fieldLink RX1 24 "MannersGaol$Gaol" "rooms" "[I" ∈ lwG := inG 102 (by decide +kernel) (by decide +kernel)
theorem gx_104 : Cond.fieldLink RX1 27 "MannersGaol$Gaol" "hosts" "[I" ∈ lwG := inG 104 (by decide +kernel) (by decide +kernel)
theorem gx_112 : Cond.fieldLink RX1 37 "MannersGaol$Gaol" "z" "I" ∈ lwG := inG 112 (by decide +kernel) (by decide +kernel)
theorem gx_134 : Cond.classLink RX5 26 RX4 ∈ lwG := inG 134 (by decide +kernel) (by decide +kernel)
theorem gx_135 : Cond.instantiable RX4 7 ∈ lwG := inG 135 (by decide +kernel) (by decide +kernel)
theorem gx_137 : Cond.instanceMethod yX4_init ∈ lwG := inG 137 (by decide +kernel) (by decide +kernel)
theorem gx_138 : Cond.code yX4_init cX4_init 1 none ∈ lwG := inG 138 (by decide +kernel) (by decide +kernel)
theorem gx_163 : Cond.classLink RX5 41 RX2 ∈ lwG := inG 163 (by decide +kernel) (by decide +kernel)
theorem gx_165 : Cond.classLink RX5 47 RX3 ∈ lwG := inG 165 (by decide +kernel) (by decide +kernel)
theorem gx_167 : Cond.classLink RX5 53 RX0 ∈ lwG := inG 167 (by decide +kernel) (by decide +kernel)
theorem gx_168 : Cond.instantiable RX0 6 ∈ lwG := inG 168 (by decide +kernel) (by decide +kernel)
theorem gx_170 : Cond.instanceMethod yX0_init ∈ lwG := inG 170 (by decide +kernel) (by decide +kernel)
theorem gx_171 : Cond.code yX0_init cX0_init 1 none ∈ lwG := inG 171 (by decide +kernel) (by decide +kernel)
theorem gx_197 : Cond.instantiable RX2 3 ∈ lwG := inG 197 (by decide +kernel) (by decide +kernel)
theorem gx_199 : Cond.instanceMethod yX2_init ∈ lwG := inG 199 (by decide +kernel) (by decide +kernel)
theorem gx_200 : Cond.code yX2_init cX2_init 1 none ∈ lwG := inG 200 (by decide +kernel) (by decide +kernel)
theorem gx_217 : Cond.instantiable RX3 4 ∈ lwG := inG 217 (by decide +kernel) (by decide +kernel)
theorem gx_219 : Cond.instanceMethod yX3_init ∈ lwG := inG 219 (by decide +kernel) (by decide +kernel)
theorem gx_220 : Cond.code yX3_init cX3_init 1 none ∈ lwG := inG 220 (by decide +kernel) (by decide +kernel)
theorem gx_239 : Cond.fieldLink RX5 10 "MannersGaol" "now" "LMannersGaol$Gaol;" ∈ lwG := inG 239 (by decide +kernel) (by decide +kernel)
theorem gx_240 : Cond.fieldLink RX5 16 "MannersGaol" "tried" "LMannersGaol$Gaol;" ∈ lwG := inG 240 (by decide +kernel) (by decide +kernel)
theorem gx_241 : Cond.fieldLink RX5 19 "MannersGaol" "kept" "LMannersGaol$Gaol;" ∈ lwG := inG 241 (by decide +kernel) (by decide +kernel)
theorem gx_242 : Cond.fieldLink RX5 22 "MannersGaol" "isKept" "Z" ∈ lwG := inG 242 (by decide +kernel) (by decide +kernel)
theorem gx_243 : Cond.fieldLink RX5 29 "MannersGaol" "tape" "LMannersGaol$Text;" ∈ lwG := inG 243 (by decide +kernel) (by decide +kernel)
theorem gx_244 : Cond.fieldLink RX5 33 "MannersGaol" "rows" "[I" ∈ lwG := inG 244 (by decide +kernel) (by decide +kernel)
theorem gx_245 : Cond.fieldLink RX5 37 "MannersGaol" "rowCount" "I" ∈ lwG := inG 245 (by decide +kernel) (by decide +kernel)
theorem gx_246 : Cond.fieldLink RX5 43 "MannersGaol" "sheets" "[LMannersGaol$Sheet;" ∈ lwG := inG 246 (by decide +kernel) (by decide +kernel)
theorem gx_247 : Cond.fieldLink RX5 49 "MannersGaol" "shelves" "[LMannersGaol$Shelf;" ∈ lwG := inG 247 (by decide +kernel) (by decide +kernel)
theorem gx_248 : Cond.fieldLink RX5 56 "MannersGaol" "deed" "LMannersGaol$Deed;" ∈ lwG := inG 248 (by decide +kernel) (by decide +kernel)
theorem gx_813 : Cond.methodLink RX6 1 objectInit ∈ lwG := inG 813 (by decide +kernel) (by decide +kernel)
theorem gx_814 : Cond.methodLink RX6 52 yX6_begins ∈ lwG := inG 814 (by decide +kernel) (by decide +kernel)
theorem gx_816 : Cond.instanceMethod yX6_begins ∈ lwG := inG 816 (by decide +kernel) (by decide +kernel)
theorem gx_817 : Cond.code yX6_begins cX6_begins 3 none ∈ lwG := inG 817 (by decide +kernel) (by decide +kernel)
theorem gx_819 : Cond.fieldLink RX6 13 "MannersGaolModel" "held" "[I" ∈ lwG := inG 819 (by decide +kernel) (by decide +kernel)
theorem gx_820 : Cond.fieldLink RX6 16 "MannersGaolModel" "aside" "[I" ∈ lwG := inG 820 (by decide +kernel) (by decide +kernel)
theorem gx_821 : Cond.fieldLink RX6 19 "MannersGaolModel" "before" "[I" ∈ lwG := inG 821 (by decide +kernel) (by decide +kernel)
theorem gx_823 : Cond.fieldLink RX6 22 "MannersGaolModel" "tape" "[I" ∈ lwG := inG 823 (by decide +kernel) (by decide +kernel)
theorem gx_830 : Cond.fieldLink RX6 25 "MannersGaolModel" "hosts" "[I" ∈ lwG := inG 830 (by decide +kernel) (by decide +kernel)
theorem gx_831 : Cond.fieldLink RX6 28 "MannersGaolModel" "rows" "[I" ∈ lwG := inG 831 (by decide +kernel) (by decide +kernel)
theorem gx_833 : Cond.fieldLink RX6 31 "MannersGaolModel" "sortOf" "[I" ∈ lwG := inG 833 (by decide +kernel) (by decide +kernel)
theorem gx_834 : Cond.fieldLink RX6 34 "MannersGaolModel" "sizeOf" "[I" ∈ lwG := inG 834 (by decide +kernel) (by decide +kernel)
theorem gx_835 : Cond.fieldLink RX6 37 "MannersGaolModel" "numbers" "[I" ∈ lwG := inG 835 (by decide +kernel) (by decide +kernel)
theorem gx_836 : Cond.fieldLink RX6 40 "MannersGaolModel" "holdsWhat" "[I" ∈ lwG := inG 836 (by decide +kernel) (by decide +kernel)
theorem gx_837 : Cond.fieldLink RX6 43 "MannersGaolModel" "holdsWhich" "[I" ∈ lwG := inG 837 (by decide +kernel) (by decide +kernel)
theorem gx_838 : Cond.fieldLink RX6 46 "MannersGaolModel" "holdsMany" "[I" ∈ lwG := inG 838 (by decide +kernel) (by decide +kernel)
theorem gx_839 : Cond.fieldLink RX6 49 "MannersGaolModel" "bodies" "[I" ∈ lwG := inG 839 (by decide +kernel) (by decide +kernel)
def G5 (a9 : Nat) (A : Nat → Prop) (U : State) : Prop := Gf a9 A U ∧ (va_Nw (.methodLinkNest RX5 28 yX4_init "MannersGaol") U ∧ va_Nw (.methodLinkNest RX5 55 yX0_init "MannersGaol") U ∧ va_Nw (.methodLinkNest RX5 60 yX2_init "MannersGaol") U ∧ va_Nw (.methodLinkNest RX5 61 yX3_init "MannersGaol") U) ∧ va_AO "MannersGaol$Sheet" U ∧ va_AO "MannersGaol$Shelf" U
theorem G5.to {a9 : Nat} {A A' : Nat → Prop} {s U : State} {H : Heap} {locs : List Loc} (h : G5 a9 A s) (hS : va_S A s.heap H locs) (hF : ∀ q, A' q → A q) (hU : U.heap = H) (hW : s.WarmedH U.vm) : G5 a9 A' U :=
  ⟨h.1.to hS hF hU hW, ⟨va_Nw.warmM hW h.2.1.1, va_Nw.warmM hW h.2.1.2.1, va_Nw.warmM hW h.2.1.2.2.1, va_Nw.warmM hW h.2.1.2.2.2⟩, va_AO.moved hW.alike h.2.2.1, va_AO.moved hW.alike h.2.2.2⟩
theorem G5.blind {a9 : Nat} {A : Nat → Prop} {U : State} {g : JFrame} {mk : _} {a : Array Value} (h : G5 a9 A U) : G5 a9 A (U.calling g mk a) := G5.to (U := U.calling g mk a) h va_S.rf (fun _ z => z) rfl (State.WarmedH.refl U)
set_option maxHeartbeats 600000 in
set_option maxRecDepth 100000 in
theorem c_i1 (l : Launch) (D : va_G) (cI : ClassId) (h0 sz : Nat) (a9 : Nat) : Met l yX1_init (Cond.code yX1_init cX1_init 1 none :: lwG) { frames := 2, cells := 6, slots := 44, locals := 90 } (va_Pc [.ref h0] (fun U => U.heap.size = sz ∧ va_P D clsT [(h0, .inr (1, [.null, .null, .null, .null, .null, .null, .int 0, .int 0, .int 0]))] U.heap ∧ va_K D clsT [(cI, .int)] U ∧ va_D (fun _ => True) [(h0, .inr (1, [.null, .null, .null, .null, .null, .null, .int 0, .int 0, .int 0]))] ∧ Gf a9 (va_A [(h0, .inr (1, [.null, .null, .null, .null, .null, .null, .int 0, .int 0, .int 0]))] sz) U)) (va_Qv (fun _ : Unit => True) (fun _ t => ∃ (q1 q2 q3 q4 q5 q6 : Nat) (g1 g2 : Nat → Int32), (∀ k, k < 4 → g1 k = tbF.getD k 0) ∧ (∀ k, k < 8 → g2 k = 10) ∧ va_P D clsT [(h0, .inr (1, [.ref q1, .ref q2, .ref q3, .ref q4, .ref q5, .ref q6, .int 0, .int 0, .int 1])), (q1, .inl (cI, 4, .inl g1)), (q2, .inl (cI, 8, .inl g2)), (q3, .inl (cI, 8, .inl (fun _ => 0))), (q4, .inl (cI, 8, .inl (fun _ => 0))), (q5, .inl (cI, 8, .inl (fun _ => 0))), (q6, .inl (cI, 8, .inl (fun _ => 0)))] t.heap ∧ va_D (va_A [(h0, .inr (1, [.null, .null, .null, .null, .null, .null, .int 0, .int 0, .int 0]))] sz) [(h0, .inr (1, [.ref q1, .ref q2, .ref q3, .ref q4, .ref q5, .ref q6, .int 0, .int 0, .int 1])), (q1, .inl (cI, 4, .inl g1)), (q2, .inl (cI, 8, .inl g2)), (q3, .inl (cI, 8, .inl (fun _ => 0))), (q4, .inl (cI, 8, .inl (fun _ => 0))), (q5, .inl (cI, 8, .inl (fun _ => 0))), (q6, .inl (cI, 8, .inl (fun _ => 0)))]) (va_A [(h0, .inr (1, [.null, .null, .null, .null, .null, .null, .int 0, .int 0, .int 0]))] sz)) 6 44 (va_A [(h0, .inr (1, [.null, .null, .null, .null, .null, .null, .int 0, .int 0, .int 0]))] sz) := by
  refine Met.ofW (cc := cX1_init) (maxL := 1) (ret := none) (by decide) rfl ?_
  intro p e s m args below meth c s₁ B hml hv
  obtain ⟨rfl, hv⟩ := hv
  have hx := B.exec
  have hb := B.bytes
  have hr := B.returns
  have hts : ∀ x ∈ lwG, x.before _ s = true := fun x hx => atoms_spec (ws := Cond.code yX1_init cX1_init 1 none :: lwG) B.pre x (List.mem_cons_of_mem _ hx)
  have hown : s.vm.findClass RX1 = some m.cls := findClass_of_methodNamed B.named
  have hlocks := B.notSynchronized
  have hin : meth.name = "<init>" := (name_of_methodNamed B.named B.method).1
  obtain ⟨hsz, hP, hK, hD0, hG⟩ := hv
  subst hsz
  have hD := hD0.self (sz := s.heap.size)
  generalize hAe : va_A [(h0, .inr (1, [.null, .null, .null, .null, .null, .null, .int 0, .int 0, .int 0]))] s.heap.size = A at *
  have hA : ∀ q : Nat, s.heap.size ≤ q → A q := fun q h => by rw [← hAe]; exact Or.inr h
  have hS : va_S A s.heap s.heap [] := va_S.rf
  have hl := lv_entry ([.ref h0]) (n := 1) (Nat.le_of_ble_eq_true rfl)
  rw [lg_entry_eq]
  generalize (lg_sl ([.ref h0]) ++ List.replicate (1 - (lg_sl ([.ref h0])).length) Slot.unset).toArray = ls at hl ⊢
  have hl : lv_has ls 1 [(0, .ref h0)] := hl
  refine lv_aload_n hx hb (show decode cX1_init 0 = .ok (.aload_n 0, 1) by decide +kernel) rfl (lv_at hl 0 rfl) ?_
  refine W.objInit hx hb hown (hts _ gx_82) (hts _ gx_75) (hts _ gx_76) rfl (by rw [hml]; exact hl.1) rfl (show decode cX1_init 1 = .ok (.invokespecial 3, 3) by decide +kernel) (Nat.le_of_ble_eq_true rfl) (Nat.le_of_ble_eq_true rfl) ?_
  refine W.eq (g2 := F0 m 4 ls []) rfl ?_
  refine lv_aload_n hx hb (show decode cX1_init 4 = .ok (.aload_n 0, 1) by decide +kernel) rfl (lv_at hl 0 rfl) ?_
  refine lv_iconst (v := 4) hx hb (show decode cX1_init 5 = .ok (.iconst 4, 1) by decide +kernel) (by decide) ?_
  refine va_newa (atype := .int) (a0 := (4, .inl (fun _ => 0))) (N' := 4) hx hb (hts _ gx_133) rfl hK hP hD hS hA (fun _ => rfl) (by decide) (by decide) (by decide) (Nat.le_of_ble_eq_true rfl) (Nat.le_of_ble_eq_true rfl) (show decode cX1_init 6 = .ok (.newarray .int, 2) by decide +kernel) (fun q1 cA H hK1 hP hD hS => ?_)
  have ec := (kI2 hK1 0 1 rfl rfl).symm
  subst ec
  clear hK1
  have hP : va_P D clsT [(h0, .inr (1, [.null, .null, .null, .null, .null, .null, .int 0, .int 0, .int 0])), (q1, .inl (cI, 4, .inl (fun _ => 0)))] H := hP
  have hD : va_D A [(h0, .inr (1, [.null, .null, .null, .null, .null, .null, .int 0, .int 0, .int 0])), (q1, .inl (cI, 4, .inl (fun _ => 0)))] := hD
  refine va_putF (C := RX1) (T := TX1) (N := 9) hx hb hts inX1 tyX1 tyX1_ok nmX1 hown hK hP hD hS 0 rfl rfl 0 (by decide) (hts _ gx_92) (fun _ h9 => h9) rfl hin rfl (tyX1_ok 0 (by decide)) rfl rfl (Nat.le_of_ble_eq_true rfl) (show decode cX1_init 8 = .ok (.putfield 9, 3) by decide +kernel) (fun H locs hP hD hS => ?_)
  have hP : va_P D clsT [(h0, .inr (1, [.ref q1, .null, .null, .null, .null, .null, .int 0, .int 0, .int 0])), (q1, .inl (cI, 4, .inl (fun _ => 0)))] H := hP
  have hD : va_D A [(h0, .inr (1, [.ref q1, .null, .null, .null, .null, .null, .int 0, .int 0, .int 0])), (q1, .inl (cI, 4, .inl (fun _ => 0)))] := hD
  refine lv_aload_n hx hb (show decode cX1_init 11 = .ok (.aload_n 0, 1) by decide +kernel) rfl (lv_at hl 0 rfl) ?_
  refine lv_bipush (v := 8) hx hb (show decode cX1_init 12 = .ok (.bipush 8, 2) by decide +kernel) (by decide) ?_
  refine va_newa (atype := .int) (a0 := (8, .inl (fun _ => 0))) (N' := 8) hx hb (hts _ gx_133) rfl hK hP hD hS hA (fun _ => rfl) (by decide) (by decide) (by decide) (Nat.le_of_ble_eq_true rfl) (Nat.le_of_ble_eq_true rfl) (show decode cX1_init 14 = .ok (.newarray .int, 2) by decide +kernel) (fun q2 cA H hK1 hP hD hS => ?_)
  have ec := (kI2 hK1 0 1 rfl rfl).symm
  subst ec
  clear hK1
  have hP : va_P D clsT [(h0, .inr (1, [.ref q1, .null, .null, .null, .null, .null, .int 0, .int 0, .int 0])), (q1, .inl (cI, 4, .inl (fun _ => 0))), (q2, .inl (cI, 8, .inl (fun _ => 0)))] H := hP
  have hD : va_D A [(h0, .inr (1, [.ref q1, .null, .null, .null, .null, .null, .int 0, .int 0, .int 0])), (q1, .inl (cI, 4, .inl (fun _ => 0))), (q2, .inl (cI, 8, .inl (fun _ => 0)))] := hD
  refine va_putF (C := RX1) (T := TX1) (N := 9) hx hb hts inX1 tyX1 tyX1_ok nmX1 hown hK hP hD hS 0 rfl rfl 1 (by decide) (hts _ gx_95) (fun _ h9 => h9) rfl hin rfl (tyX1_ok 1 (by decide)) rfl rfl (Nat.le_of_ble_eq_true rfl) (show decode cX1_init 16 = .ok (.putfield 15, 3) by decide +kernel) (fun H locs hP hD hS => ?_)
  have hP : va_P D clsT [(h0, .inr (1, [.ref q1, .ref q2, .null, .null, .null, .null, .int 0, .int 0, .int 0])), (q1, .inl (cI, 4, .inl (fun _ => 0))), (q2, .inl (cI, 8, .inl (fun _ => 0)))] H := hP
  have hD : va_D A [(h0, .inr (1, [.ref q1, .ref q2, .null, .null, .null, .null, .int 0, .int 0, .int 0])), (q1, .inl (cI, 4, .inl (fun _ => 0))), (q2, .inl (cI, 8, .inl (fun _ => 0)))] := hD
  refine lv_aload_n hx hb (show decode cX1_init 19 = .ok (.aload_n 0, 1) by decide +kernel) rfl (lv_at hl 0 rfl) ?_
  refine lv_bipush (v := 8) hx hb (show decode cX1_init 20 = .ok (.bipush 8, 2) by decide +kernel) (by decide) ?_
  refine va_newa (atype := .int) (a0 := (8, .inl (fun _ => 0))) (N' := 8) hx hb (hts _ gx_133) rfl hK hP hD hS hA (fun _ => rfl) (by decide) (by decide) (by decide) (Nat.le_of_ble_eq_true rfl) (Nat.le_of_ble_eq_true rfl) (show decode cX1_init 22 = .ok (.newarray .int, 2) by decide +kernel) (fun q3 cA H hK1 hP hD hS => ?_)
  have ec := (kI2 hK1 0 1 rfl rfl).symm
  subst ec
  clear hK1
  have hP : va_P D clsT [(h0, .inr (1, [.ref q1, .ref q2, .null, .null, .null, .null, .int 0, .int 0, .int 0])), (q1, .inl (cI, 4, .inl (fun _ => 0))), (q2, .inl (cI, 8, .inl (fun _ => 0))), (q3, .inl (cI, 8, .inl (fun _ => 0)))] H := hP
  have hD : va_D A [(h0, .inr (1, [.ref q1, .ref q2, .null, .null, .null, .null, .int 0, .int 0, .int 0])), (q1, .inl (cI, 4, .inl (fun _ => 0))), (q2, .inl (cI, 8, .inl (fun _ => 0))), (q3, .inl (cI, 8, .inl (fun _ => 0)))] := hD
  refine va_putF (C := RX1) (T := TX1) (N := 9) hx hb hts inX1 tyX1 tyX1_ok nmX1 hown hK hP hD hS 0 rfl rfl 2 (by decide) (hts _ gx_98) (fun _ h9 => h9) rfl hin rfl (tyX1_ok 2 (by decide)) rfl rfl (Nat.le_of_ble_eq_true rfl) (show decode cX1_init 24 = .ok (.putfield 18, 3) by decide +kernel) (fun H locs hP hD hS => ?_)
  have hP : va_P D clsT [(h0, .inr (1, [.ref q1, .ref q2, .ref q3, .null, .null, .null, .int 0, .int 0, .int 0])), (q1, .inl (cI, 4, .inl (fun _ => 0))), (q2, .inl (cI, 8, .inl (fun _ => 0))), (q3, .inl (cI, 8, .inl (fun _ => 0)))] H := hP
  have hD : va_D A [(h0, .inr (1, [.ref q1, .ref q2, .ref q3, .null, .null, .null, .int 0, .int 0, .int 0])), (q1, .inl (cI, 4, .inl (fun _ => 0))), (q2, .inl (cI, 8, .inl (fun _ => 0))), (q3, .inl (cI, 8, .inl (fun _ => 0)))] := hD
  refine lv_aload_n hx hb (show decode cX1_init 27 = .ok (.aload_n 0, 1) by decide +kernel) rfl (lv_at hl 0 rfl) ?_
  refine lv_bipush (v := 8) hx hb (show decode cX1_init 28 = .ok (.bipush 8, 2) by decide +kernel) (by decide) ?_
  refine va_newa (atype := .int) (a0 := (8, .inl (fun _ => 0))) (N' := 8) hx hb (hts _ gx_133) rfl hK hP hD hS hA (fun _ => rfl) (by decide) (by decide) (by decide) (Nat.le_of_ble_eq_true rfl) (Nat.le_of_ble_eq_true rfl) (show decode cX1_init 30 = .ok (.newarray .int, 2) by decide +kernel) (fun q4 cA H hK1 hP hD hS => ?_)
  have ec := (kI2 hK1 0 1 rfl rfl).symm
  subst ec
  clear hK1
  have hP : va_P D clsT [(h0, .inr (1, [.ref q1, .ref q2, .ref q3, .null, .null, .null, .int 0, .int 0, .int 0])), (q1, .inl (cI, 4, .inl (fun _ => 0))), (q2, .inl (cI, 8, .inl (fun _ => 0))), (q3, .inl (cI, 8, .inl (fun _ => 0))), (q4, .inl (cI, 8, .inl (fun _ => 0)))] H := hP
  have hD : va_D A [(h0, .inr (1, [.ref q1, .ref q2, .ref q3, .null, .null, .null, .int 0, .int 0, .int 0])), (q1, .inl (cI, 4, .inl (fun _ => 0))), (q2, .inl (cI, 8, .inl (fun _ => 0))), (q3, .inl (cI, 8, .inl (fun _ => 0))), (q4, .inl (cI, 8, .inl (fun _ => 0)))] := hD
  refine va_putF (C := RX1) (T := TX1) (N := 9) hx hb hts inX1 tyX1 tyX1_ok nmX1 hown hK hP hD hS 0 rfl rfl 3 (by decide) (hts _ gx_100) (fun _ h9 => h9) rfl hin rfl (tyX1_ok 3 (by decide)) rfl rfl (Nat.le_of_ble_eq_true rfl) (show decode cX1_init 32 = .ok (.putfield 21, 3) by decide +kernel) (fun H locs hP hD hS => ?_)
  have hP : va_P D clsT [(h0, .inr (1, [.ref q1, .ref q2, .ref q3, .ref q4, .null, .null, .int 0, .int 0, .int 0])), (q1, .inl (cI, 4, .inl (fun _ => 0))), (q2, .inl (cI, 8, .inl (fun _ => 0))), (q3, .inl (cI, 8, .inl (fun _ => 0))), (q4, .inl (cI, 8, .inl (fun _ => 0)))] H := hP
  have hD : va_D A [(h0, .inr (1, [.ref q1, .ref q2, .ref q3, .ref q4, .null, .null, .int 0, .int 0, .int 0])), (q1, .inl (cI, 4, .inl (fun _ => 0))), (q2, .inl (cI, 8, .inl (fun _ => 0))), (q3, .inl (cI, 8, .inl (fun _ => 0))), (q4, .inl (cI, 8, .inl (fun _ => 0)))] := hD
  refine lv_aload_n hx hb (show decode cX1_init 35 = .ok (.aload_n 0, 1) by decide +kernel) rfl (lv_at hl 0 rfl) ?_
  refine lv_bipush (v := 8) hx hb (show decode cX1_init 36 = .ok (.bipush 8, 2) by decide +kernel) (by decide) ?_
  refine va_newa (atype := .int) (a0 := (8, .inl (fun _ => 0))) (N' := 8) hx hb (hts _ gx_133) rfl hK hP hD hS hA (fun _ => rfl) (by decide) (by decide) (by decide) (Nat.le_of_ble_eq_true rfl) (Nat.le_of_ble_eq_true rfl) (show decode cX1_init 38 = .ok (.newarray .int, 2) by decide +kernel) (fun q5 cA H hK1 hP hD hS => ?_)
  have ec := (kI2 hK1 0 1 rfl rfl).symm
  subst ec
  clear hK1
  have hP : va_P D clsT [(h0, .inr (1, [.ref q1, .ref q2, .ref q3, .ref q4, .null, .null, .int 0, .int 0, .int 0])), (q1, .inl (cI, 4, .inl (fun _ => 0))), (q2, .inl (cI, 8, .inl (fun _ => 0))), (q3, .inl (cI, 8, .inl (fun _ => 0))), (q4, .inl (cI, 8, .inl (fun _ => 0))), (q5, .inl (cI, 8, .inl (fun _ => 0)))] H := hP
  have hD : va_D A [(h0, .inr (1, [.ref q1, .ref q2, .ref q3, .ref q4, .null, .null, .int 0, .int 0, .int 0])), (q1, .inl (cI, 4, .inl (fun _ => 0))), (q2, .inl (cI, 8, .inl (fun _ => 0))), (q3, .inl (cI, 8, .inl (fun _ => 0))), (q4, .inl (cI, 8, .inl (fun _ => 0))), (q5, .inl (cI, 8, .inl (fun _ => 0)))] := hD
  refine va_putF (C := RX1) (T := TX1) (N := 9) hx hb hts inX1 tyX1 tyX1_ok nmX1 hown hK hP hD hS 0 rfl rfl 4 (by decide) (hts _ gx_102) (fun _ h9 => h9) rfl hin rfl (tyX1_ok 4 (by decide)) rfl rfl (Nat.le_of_ble_eq_true rfl) (show decode cX1_init 40 = .ok (.putfield 24, 3) by decide +kernel) (fun H locs hP hD hS => ?_)
  have hP : va_P D clsT [(h0, .inr (1, [.ref q1, .ref q2, .ref q3, .ref q4, .ref q5, .null, .int 0, .int 0, .int 0])), (q1, .inl (cI, 4, .inl (fun _ => 0))), (q2, .inl (cI, 8, .inl (fun _ => 0))), (q3, .inl (cI, 8, .inl (fun _ => 0))), (q4, .inl (cI, 8, .inl (fun _ => 0))), (q5, .inl (cI, 8, .inl (fun _ => 0)))] H := hP
  have hD : va_D A [(h0, .inr (1, [.ref q1, .ref q2, .ref q3, .ref q4, .ref q5, .null, .int 0, .int 0, .int 0])), (q1, .inl (cI, 4, .inl (fun _ => 0))), (q2, .inl (cI, 8, .inl (fun _ => 0))), (q3, .inl (cI, 8, .inl (fun _ => 0))), (q4, .inl (cI, 8, .inl (fun _ => 0))), (q5, .inl (cI, 8, .inl (fun _ => 0)))] := hD
  refine lv_aload_n hx hb (show decode cX1_init 43 = .ok (.aload_n 0, 1) by decide +kernel) rfl (lv_at hl 0 rfl) ?_
  refine lv_bipush (v := 8) hx hb (show decode cX1_init 44 = .ok (.bipush 8, 2) by decide +kernel) (by decide) ?_
  refine va_newa (atype := .int) (a0 := (8, .inl (fun _ => 0))) (N' := 8) hx hb (hts _ gx_133) rfl hK hP hD hS hA (fun _ => rfl) (by decide) (by decide) (by decide) (Nat.le_of_ble_eq_true rfl) (Nat.le_of_ble_eq_true rfl) (show decode cX1_init 46 = .ok (.newarray .int, 2) by decide +kernel) (fun q6 cA H hK1 hP hD hS => ?_)
  have ec := (kI2 hK1 0 1 rfl rfl).symm
  subst ec
  clear hK1
  have hP : va_P D clsT [(h0, .inr (1, [.ref q1, .ref q2, .ref q3, .ref q4, .ref q5, .null, .int 0, .int 0, .int 0])), (q1, .inl (cI, 4, .inl (fun _ => 0))), (q2, .inl (cI, 8, .inl (fun _ => 0))), (q3, .inl (cI, 8, .inl (fun _ => 0))), (q4, .inl (cI, 8, .inl (fun _ => 0))), (q5, .inl (cI, 8, .inl (fun _ => 0))), (q6, .inl (cI, 8, .inl (fun _ => 0)))] H := hP
  have hD : va_D A [(h0, .inr (1, [.ref q1, .ref q2, .ref q3, .ref q4, .ref q5, .null, .int 0, .int 0, .int 0])), (q1, .inl (cI, 4, .inl (fun _ => 0))), (q2, .inl (cI, 8, .inl (fun _ => 0))), (q3, .inl (cI, 8, .inl (fun _ => 0))), (q4, .inl (cI, 8, .inl (fun _ => 0))), (q5, .inl (cI, 8, .inl (fun _ => 0))), (q6, .inl (cI, 8, .inl (fun _ => 0)))] := hD
  refine va_putF (C := RX1) (T := TX1) (N := 9) hx hb hts inX1 tyX1 tyX1_ok nmX1 hown hK hP hD hS 0 rfl rfl 5 (by decide) (hts _ gx_104) (fun _ h9 => h9) rfl hin rfl (tyX1_ok 5 (by decide)) rfl rfl (Nat.le_of_ble_eq_true rfl) (show decode cX1_init 48 = .ok (.putfield 27, 3) by decide +kernel) (fun H locs hP hD hS => ?_)
  have hP : va_P D clsT [(h0, .inr (1, [.ref q1, .ref q2, .ref q3, .ref q4, .ref q5, .ref q6, .int 0, .int 0, .int 0])), (q1, .inl (cI, 4, .inl (fun _ => 0))), (q2, .inl (cI, 8, .inl (fun _ => 0))), (q3, .inl (cI, 8, .inl (fun _ => 0))), (q4, .inl (cI, 8, .inl (fun _ => 0))), (q5, .inl (cI, 8, .inl (fun _ => 0))), (q6, .inl (cI, 8, .inl (fun _ => 0)))] H := hP
  have hD : va_D A [(h0, .inr (1, [.ref q1, .ref q2, .ref q3, .ref q4, .ref q5, .ref q6, .int 0, .int 0, .int 0])), (q1, .inl (cI, 4, .inl (fun _ => 0))), (q2, .inl (cI, 8, .inl (fun _ => 0))), (q3, .inl (cI, 8, .inl (fun _ => 0))), (q4, .inl (cI, 8, .inl (fun _ => 0))), (q5, .inl (cI, 8, .inl (fun _ => 0))), (q6, .inl (cI, 8, .inl (fun _ => 0)))] := hD
  refine lv_aload_n hx hb (show decode cX1_init 51 = .ok (.aload_n 0, 1) by decide +kernel) rfl (lv_at hl 0 rfl) ?_
  refine lv_iconst (v := 0) hx hb (show decode cX1_init 52 = .ok (.iconst 0, 1) by decide +kernel) (by decide) ?_
  refine va_put (C := RX1) (T := TX1) (N := 9) hx hb hts inX1 tyX1 tyX1_ok nmX1 hown hK hP hD hS 0 rfl rfl 6 (by decide) (hts _ gx_107) (fun _ h9 => h9) rfl (tyX1_ok 6 (by decide)) rfl rfl (Nat.le_of_ble_eq_true rfl) (show decode cX1_init 53 = .ok (.putfield 30, 3) by decide +kernel) (fun H locs hP hD hS => ?_)
  have hP : va_P D clsT [(h0, .inr (1, [.ref q1, .ref q2, .ref q3, .ref q4, .ref q5, .ref q6, .int 0, .int 0, .int 0])), (q1, .inl (cI, 4, .inl (fun _ => 0))), (q2, .inl (cI, 8, .inl (fun _ => 0))), (q3, .inl (cI, 8, .inl (fun _ => 0))), (q4, .inl (cI, 8, .inl (fun _ => 0))), (q5, .inl (cI, 8, .inl (fun _ => 0))), (q6, .inl (cI, 8, .inl (fun _ => 0)))] H := hP
  have hD : va_D A [(h0, .inr (1, [.ref q1, .ref q2, .ref q3, .ref q4, .ref q5, .ref q6, .int 0, .int 0, .int 0])), (q1, .inl (cI, 4, .inl (fun _ => 0))), (q2, .inl (cI, 8, .inl (fun _ => 0))), (q3, .inl (cI, 8, .inl (fun _ => 0))), (q4, .inl (cI, 8, .inl (fun _ => 0))), (q5, .inl (cI, 8, .inl (fun _ => 0))), (q6, .inl (cI, 8, .inl (fun _ => 0)))] := hD
  refine lv_aload_n hx hb (show decode cX1_init 56 = .ok (.aload_n 0, 1) by decide +kernel) rfl (lv_at hl 0 rfl) ?_
  refine lv_iconst (v := 0) hx hb (show decode cX1_init 57 = .ok (.iconst 0, 1) by decide +kernel) (by decide) ?_
  refine va_put (C := RX1) (T := TX1) (N := 9) hx hb hts inX1 tyX1 tyX1_ok nmX1 hown hK hP hD hS 0 rfl rfl 7 (by decide) (hts _ gx_110) (fun _ h9 => h9) rfl (tyX1_ok 7 (by decide)) rfl rfl (Nat.le_of_ble_eq_true rfl) (show decode cX1_init 58 = .ok (.putfield 34, 3) by decide +kernel) (fun H locs hP hD hS => ?_)
  have hP : va_P D clsT [(h0, .inr (1, [.ref q1, .ref q2, .ref q3, .ref q4, .ref q5, .ref q6, .int 0, .int 0, .int 0])), (q1, .inl (cI, 4, .inl (fun _ => 0))), (q2, .inl (cI, 8, .inl (fun _ => 0))), (q3, .inl (cI, 8, .inl (fun _ => 0))), (q4, .inl (cI, 8, .inl (fun _ => 0))), (q5, .inl (cI, 8, .inl (fun _ => 0))), (q6, .inl (cI, 8, .inl (fun _ => 0)))] H := hP
  have hD : va_D A [(h0, .inr (1, [.ref q1, .ref q2, .ref q3, .ref q4, .ref q5, .ref q6, .int 0, .int 0, .int 0])), (q1, .inl (cI, 4, .inl (fun _ => 0))), (q2, .inl (cI, 8, .inl (fun _ => 0))), (q3, .inl (cI, 8, .inl (fun _ => 0))), (q4, .inl (cI, 8, .inl (fun _ => 0))), (q5, .inl (cI, 8, .inl (fun _ => 0))), (q6, .inl (cI, 8, .inl (fun _ => 0)))] := hD
  refine lv_aload_n hx hb (show decode cX1_init 61 = .ok (.aload_n 0, 1) by decide +kernel) rfl (lv_at hl 0 rfl) ?_
  refine lv_iconst (v := 1) hx hb (show decode cX1_init 62 = .ok (.iconst 1, 1) by decide +kernel) (by decide) ?_
  refine va_put (C := RX1) (T := TX1) (N := 9) hx hb hts inX1 tyX1 tyX1_ok nmX1 hown hK hP hD hS 0 rfl rfl 8 (by decide) (hts _ gx_112) (fun _ h9 => h9) rfl (tyX1_ok 8 (by decide)) rfl rfl (Nat.le_of_ble_eq_true rfl) (show decode cX1_init 63 = .ok (.putfield 37, 3) by decide +kernel) (fun H locs hP hD hS => ?_)
  have hP : va_P D clsT [(h0, .inr (1, [.ref q1, .ref q2, .ref q3, .ref q4, .ref q5, .ref q6, .int 0, .int 0, .int 1])), (q1, .inl (cI, 4, .inl (fun _ => 0))), (q2, .inl (cI, 8, .inl (fun _ => 0))), (q3, .inl (cI, 8, .inl (fun _ => 0))), (q4, .inl (cI, 8, .inl (fun _ => 0))), (q5, .inl (cI, 8, .inl (fun _ => 0))), (q6, .inl (cI, 8, .inl (fun _ => 0)))] H := hP
  have hD : va_D A [(h0, .inr (1, [.ref q1, .ref q2, .ref q3, .ref q4, .ref q5, .ref q6, .int 0, .int 0, .int 1])), (q1, .inl (cI, 4, .inl (fun _ => 0))), (q2, .inl (cI, 8, .inl (fun _ => 0))), (q3, .inl (cI, 8, .inl (fun _ => 0))), (q4, .inl (cI, 8, .inl (fun _ => 0))), (q5, .inl (cI, 8, .inl (fun _ => 0))), (q6, .inl (cI, 8, .inl (fun _ => 0)))] := hD
  refine lv_aload_n hx hb (show decode cX1_init 66 = .ok (.aload_n 0, 1) by decide +kernel) rfl (lv_at hl 0 rfl) ?_
  have hPc := hP.sub (ws' := [(h0, .inr (1, [.ref q1, .ref q2, .ref q3, .ref q4, .ref q5, .ref q6, .int 0, .int 0, .int 1])), (q1, .inl (cI, 4, .inl (fun _ => 0))), (q2, .inl (cI, 8, .inl (fun _ => 0)))]) [0, 1, 2] rfl
  have hDc := hD.sub (ws' := [(h0, .inr (1, [.ref q1, .ref q2, .ref q3, .ref q4, .ref q5, .ref q6, .int 0, .int 0, .int 1])), (q1, .inl (cI, 4, .inl (fun _ => 0))), (q2, .inl (cI, 8, .inl (fun _ => 0)))]) [0, 1, 2] (by decide) rfl
  have hKc := hK.sub (tys' := [(cI, .int)]) [0] rfl
  have hFc := va_free (wc := [(h0, .inr (1, [.ref q1, .ref q2, .ref q3, .ref q4, .ref q5, .ref q6, .int 0, .int 0, .int 1])), (q1, .inl (cI, 4, .inl (fun _ => 0))), (q2, .inl (cI, 8, .inl (fun _ => 0)))]) hD hS hA [0, 1, 2] rfl
  refine va_callv (va_runV (Ts := lwG) (As := []) (rest := []) ⟨hx, hb, hml, hown, hts⟩ (c_bf l D cI h0 H.size a9 q1 q2 (.ref q3) (.ref q4) (.ref q5) (.ref q6) 0 0 1 (fun _ => 0) (fun _ => 0)) ⟨callB_of 0 hts (goodC gx_86) rfl rfl rfl (hts _ gx_56) (hts _ gx_83) ⟨by decide, by decide, by decide +kernel⟩ ⟨(Nat.le_of_ble_eq_true rfl), (Nat.le_of_ble_eq_true rfl)⟩, hts _ gx_84, hts _ gx_85⟩ ⟨fun a U g mk q => by obtain ⟨q0, q1, qP, qK, qD, qG⟩ := q; exact ⟨q0, q1, qP, va_K.moved (u := U) (U := U.calling g mk a) (Vm.Alike.refl U.vm) qK, qD, qG.blind⟩, va_recv hKc hPc (ci := 1) (q0 := 0) rfl rfl, fun U hU hW => ⟨rfl, by rw [hU], by rw [hU]; exact hPc, va_K.moved hW.alike hKc, hDc.weaken (fun _ _ _ _ => trivial), hG.to hS hFc hU hW⟩⟩ rfl rfl hl.1 rfl (lv_room (Nat.le_of_ble_eq_true rfl)) (show decode cX1_init 67 = .ok (.invokevirtual 40, 3) by decide +kernel) ⟨(Nat.le_of_ble_eq_true rfl), (Nat.le_of_ble_eq_true rfl)⟩) hS (fun q _ h => hFc q h) hFc (fun u t H1 locs ht hvm hw hB hz1 hk1 hS => ?_)
  obtain ⟨g1, g2, hg1, hg2, hP1, hD1⟩ := hB
  rw [ht] at hP1
  obtain ⟨hP, hD⟩ := va_join (wr := [(q3, .inl (cI, 8, .inl (fun _ => 0))), (q4, .inl (cI, 8, .inl (fun _ => 0))), (q5, .inl (cI, 8, .inl (fun _ => 0))), (q6, .inl (cI, 8, .inl (fun _ => 0)))]) (w1 := [(h0, .inr (1, [.ref q1, .ref q2, .ref q3, .ref q4, .ref q5, .ref q6, .int 0, .int 0, .int 1])), (q1, .inl (cI, 4, .inl g1)), (q2, .inl (cI, 8, .inl g2))]) hP hD [0, 1, 2] [3, 4, 5, 6] rfl rfl (by decide) (by decide) hk1 hFc hP1 hD1
  clear hPc hDc hFc hP1 hD1 hk1 hz1 hw hvm ht
  generalize H1 = H at hP hS ⊢
  have hP : va_P D clsT [(q3, .inl (cI, 8, .inl (fun _ => 0))), (q4, .inl (cI, 8, .inl (fun _ => 0))), (q5, .inl (cI, 8, .inl (fun _ => 0))), (q6, .inl (cI, 8, .inl (fun _ => 0))), (h0, .inr (1, [.ref q1, .ref q2, .ref q3, .ref q4, .ref q5, .ref q6, .int 0, .int 0, .int 1])), (q1, .inl (cI, 4, .inl g1)), (q2, .inl (cI, 8, .inl g2))] H := hP
  have hD : va_D A [(q3, .inl (cI, 8, .inl (fun _ => 0))), (q4, .inl (cI, 8, .inl (fun _ => 0))), (q5, .inl (cI, 8, .inl (fun _ => 0))), (q6, .inl (cI, 8, .inl (fun _ => 0))), (h0, .inr (1, [.ref q1, .ref q2, .ref q3, .ref q4, .ref q5, .ref q6, .int 0, .int 0, .int 1])), (q1, .inl (cI, 4, .inl g1)), (q2, .inl (cI, 8, .inl g2))] := hD
  have hP9 := hP.sub (ws' := [(h0, .inr (1, [.ref q1, .ref q2, .ref q3, .ref q4, .ref q5, .ref q6, .int 0, .int 0, .int 1])), (q1, .inl (cI, 4, .inl g1)), (q2, .inl (cI, 8, .inl g2)), (q3, .inl (cI, 8, .inl (fun _ => 0))), (q4, .inl (cI, 8, .inl (fun _ => 0))), (q5, .inl (cI, 8, .inl (fun _ => 0))), (q6, .inl (cI, 8, .inl (fun _ => 0)))]) [4, 5, 6, 0, 1, 2, 3] rfl
  have hD9 := hD.sub (ws' := [(h0, .inr (1, [.ref q1, .ref q2, .ref q3, .ref q4, .ref q5, .ref q6, .int 0, .int 0, .int 1])), (q1, .inl (cI, 4, .inl g1)), (q2, .inl (cI, 8, .inl g2)), (q3, .inl (cI, 8, .inl (fun _ => 0))), (q4, .inl (cI, 8, .inl (fun _ => 0))), (q5, .inl (cI, 8, .inl (fun _ => 0))), (q6, .inl (cI, 8, .inl (fun _ => 0)))]) [4, 5, 6, 0, 1, 2, 3] (by decide) rfl
  refine W.widen (k := 6) (n := 44) (Nat.le_of_ble_eq_true rfl) (Nat.le_of_ble_eq_true rfl) ?_
  exact W.vret hx hb hr (fun t ht hW => ⟨⟨(), rfl, trivial, q1, q2, q3, q4, q5, q6, g1, g2, hg1, hg2, by rw [ht]; exact hP9, hD9⟩, hS.F ht⟩) hS.2.2 (show decode cX1_init 70 = .ok (.return_, 1) by decide +kernel)
