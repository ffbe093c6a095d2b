theorem gx_57 : Cond.initialized "java/lang/System" ∈ lwG := inG 57 (by decide +kernel) (by decide +kernel)
theorem gx_75 : Cond.instanceMethod objectInit ∈ lwG := inG 75 (by decide +kernel) (by decide +kernel)
theorem gx_76 : Cond.code objectInit ⟨#[0xb1]⟩ 1 none ∈ lwG := inG 76 (by decide +kernel) (by decide +kernel)
theorem gx_89 : Cond.methodLink RX1 46 arraycopyName ∈ lwG := inG 89 (by decide +kernel) (by decide +kernel)
theorem gx_90 : Cond.static arraycopyName ∈ lwG := inG 90 (by decide +kernel) (by decide +kernel)
theorem gx_91 : Cond.native arraycopyName ∈ lwG := inG 91 (by decide +kernel) (by decide +kernel)
theorem gx_92 : Cond.fieldLink RX1 9 "MannersGaol$Gaol" "laws" "[I" ∈ lwG := inG 92 (by decide +kernel) (by decide +kernel)
theorem gx_95 : Cond.fieldLink RX1 15 "MannersGaol$Gaol" "rites" "[I" ∈ lwG := inG 95 (by decide +kernel) (by decide +kernel)
theorem gx_107 : Cond.fieldLink RX1 30 "MannersGaol$Gaol" "count" "I" ∈ lwG := inG 107 (by decide +kernel) (by decide +kernel)
theorem gx_110 : Cond.fieldLink RX1 34 "MannersGaol$Gaol" "occasion" "I" ∈ lwG := inG 110 (by decide +kernel) (by decide +kernel)
theorem gx_133 : Cond.arrayClass .int ∈ lwG := inG 133 (by decide +kernel) (by decide +kernel)
theorem gx_139 : Cond.methodLink RX4 3 objectInit ∈ lwG := inG 139 (by decide +kernel) (by decide +kernel)
theorem gx_140 : Cond.fieldLink RX4 9 "MannersGaol$Text" "bytes" "[I" ∈ lwG := inG 140 (by decide +kernel) (by decide +kernel)
theorem gx_141 : Cond.fieldLink RX4 15 "MannersGaol$Text" "size" "I" ∈ lwG := inG 141 (by decide +kernel) (by decide +kernel)
theorem gx_143 : Cond.fieldLink RX4 19 "MannersGaol$Text" "sort" "I" ∈ lwG := inG 143 (by decide +kernel) (by decide +kernel)
theorem gx_144 : Cond.fieldLink RX4 22 "MannersGaol$Text" "start" "I" ∈ lwG := inG 144 (by decide +kernel) (by decide +kernel)
theorem gx_145 : Cond.fieldLink RX4 25 "MannersGaol$Text" "stop" "I" ∈ lwG := inG 145 (by decide +kernel) (by decide +kernel)
theorem gx_146 : Cond.fieldLink RX4 28 "MannersGaol$Text" "value" "I" ∈ lwG := inG 146 (by decide +kernel) (by decide +kernel)
theorem gx_147 : Cond.fieldLink RX4 31 "MannersGaol$Text" "fault" "I" ∈ lwG := inG 147 (by decide +kernel) (by decide +kernel)
theorem gx_172 : Cond.methodLink RX0 3 objectInit ∈ lwG := inG 172 (by decide +kernel) (by decide +kernel)
theorem gx_173 : Cond.fieldLink RX0 9 "MannersGaol$Deed" "bodies" "[I" ∈ lwG := inG 173 (by decide +kernel) (by decide +kernel)
theorem gx_175 : Cond.fieldLink RX0 15 "MannersGaol$Deed" "ran" "I" ∈ lwG := inG 175 (by decide +kernel) (by decide +kernel)
theorem gx_177 : Cond.fieldLink RX0 19 "MannersGaol$Deed" "kind" "I" ∈ lwG := inG 177 (by decide +kernel) (by decide +kernel)
theorem gx_178 : Cond.fieldLink RX0 22 "MannersGaol$Deed" "n" "I" ∈ lwG := inG 178 (by decide +kernel) (by decide +kernel)
theorem gx_180 : Cond.fieldLink RX0 25 "MannersGaol$Deed" "a" "I" ∈ lwG := inG 180 (by decide +kernel) (by decide +kernel)
theorem gx_182 : Cond.fieldLink RX0 28 "MannersGaol$Deed" "isStuck" "Z" ∈ lwG := inG 182 (by decide +kernel) (by decide +kernel)
theorem gx_201 : Cond.methodLink RX2 3 objectInit ∈ lwG := inG 201 (by decide +kernel) (by decide +kernel)
theorem gx_202 : Cond.fieldLink RX2 9 "MannersGaol$Sheet" "items" "[I" ∈ lwG := inG 202 (by decide +kernel) (by decide +kernel)
theorem gx_204 : Cond.fieldLink RX2 15 "MannersGaol$Sheet" "sort" "I" ∈ lwG := inG 204 (by decide +kernel) (by decide +kernel)
theorem gx_207 : Cond.fieldLink RX2 19 "MannersGaol$Sheet" "size" "I" ∈ lwG := inG 207 (by decide +kernel) (by decide +kernel)
theorem gx_221 : Cond.methodLink RX3 3 objectInit ∈ lwG := inG 221 (by decide +kernel) (by decide +kernel)
theorem gx_222 : Cond.fieldLink RX3 9 "MannersGaol$Shelf" "holds" "I" ∈ lwG := inG 222 (by decide +kernel) (by decide +kernel)
theorem gx_224 : Cond.fieldLink RX3 15 "MannersGaol$Shelf" "inmate" "I" ∈ lwG := inG 224 (by decide +kernel) (by decide +kernel)
theorem gx_226 : Cond.fieldLink RX3 18 "MannersGaol$Shelf" "sort" "I" ∈ lwG := inG 226 (by decide +kernel) (by decide +kernel)
theorem gx_228 : Cond.fieldLink RX3 21 "MannersGaol$Shelf" "size" "I" ∈ lwG := inG 228 (by decide +kernel) (by decide +kernel)
theorem gx_818 : Cond.fieldLink RX6 7 "MannersGaolModel" "s" "[I" ∈ lwG := inG 818 (by decide +kernel) (by decide +kernel)
/-! CONSTRUCTORS -/
theorem kI2 {D : va_G} {cl : List vw_C} {U : State} {tys : List (ClassId × FieldType)} {cI cA : ClassId} (h : va_K D cl tys U) (i j : Nat) (hi : tys[i]? = some (cI, .int)) (hj : tys[j]? = some (cA, .int)) : cA = cI := by
  have a : U.vm.findClass ("[" ++ FieldType.int.toString) = some cI := (h.2 i _ hi).2
  have b : U.vm.findClass ("[" ++ FieldType.int.toString) = some cA := (h.2 j _ hj).2
  exact Option.some.inj (b.symm.trans a)
/-- the table of the first laws, as a method finds it -/
def Gf (a9 : Nat) (A : Nat → Prop) (U : State) : Prop := va_Z "MannersGaol" "FIRST_LAWS" "[I" (.ref a9) A U U.heap ∧ va_X a9 4 (fun i => tbF.getD i 0) U U.heap ∧ a9 < U.heap.size ∧ ¬ A a9 ∧ va_Nw (.fieldLinkNest RX1 43 "MannersGaol" "FIRST_LAWS" "[I" "MannersGaol") U
theorem Gf.to {a9 : Nat} {A A' : Nat → Prop} {s U : State} {H : Heap} {locs : List Loc} (h : Gf a9 A s) (hS : va_S A s.heap H locs) (hF : ∀ q, A' q → A q) (hU : U.heap = H) (hW : s.WarmedH U.vm) : Gf a9 A' U := by
  obtain ⟨h1, h2, h3, h4, h5⟩ := h
  subst hU
  exact ⟨((h1.kept (fun a ha hn => hS.2.1 a ha hn)).narrow hF).moved hW.alike, (h2.kept (hS.2.1 _ h3 h4)).moved hW.alike, Nat.lt_of_lt_of_le h3 hS.1, fun z => h4 (hF _ z), va_Nw.warmF hW h5⟩
theorem Gf.blind {a9 : Nat} {A : Nat → Prop} {U : State} {g : JFrame} {mk : _} {a : Array Value} (h : Gf a9 A U) : Gf a9 A (U.calling g mk a) := Gf.to (U := U.calling g mk a) h va_S.rf (fun _ z => z) rfl (State.WarmedH.refl U)
theorem dfl0 : ∀ j, j < 6 → defaultValue (tyX0 j) = vp_V [.null, .int 0, .int 0, .int 0, .int 0, .int 0] j := by
  intro j hj
  rcases (show j = 0 ∨ j = 1 ∨ j = 2 ∨ j = 3 ∨ j = 4 ∨ j = 5 by omega) with rfl | rfl | rfl | rfl | rfl | rfl <;> rfl
theorem dfl1 : ∀ j, j < 9 → defaultValue (tyX1 j) = vp_V [.null, .null, .null, .null, .null, .null, .int 0, .int 0, .int 0] j := by
  intro j hj
  rcases (show j = 0 ∨ j = 1 ∨ j = 2 ∨ j = 3 ∨ j = 4 ∨ j = 5 ∨ j = 6 ∨ j = 7 ∨ j = 8 by omega) with rfl | rfl | rfl | rfl | rfl | rfl | rfl | rfl | rfl <;> rfl
theorem dfl2 : ∀ j, j < 3 → defaultValue (tyX2 j) = vp_V [.null, .int 0, .int 0] j := by
  intro j hj
  rcases (show j = 0 ∨ j = 1 ∨ j = 2 by omega) with rfl | rfl | rfl <;> rfl
theorem dfl3 : ∀ j, j < 4 → defaultValue (tyX3 j) = vp_V [.int 0, .int 0, .int 0, .int 0] j := by
  intro j hj
  rcases (show j = 0 ∨ j = 1 ∨ j = 2 ∨ j = 3 by omega) with rfl | rfl | rfl | rfl <;> rfl
theorem dfl4 : ∀ j, j < 7 → defaultValue (tyX4 j) = vp_V [.null, .int 0, .int 0, .int 0, .int 0, .int 0, .int 0] j := by
  intro j hj
  rcases (show j = 0 ∨ j = 1 ∨ j = 2 ∨ j = 3 ∨ j = 4 ∨ j = 5 ∨ j = 6 by omega) with rfl | rfl | rfl | rfl | rfl | rfl | rfl <;> rfl
theorem dfl5 : ∀ j, j < 10 → defaultValue (tyX5 j) = vp_V [.null, .null, .null, .int 0, .null, .null, .int 0, .null, .null, .null] j := by
  intro j hj
  rcases (show j = 0 ∨ j = 1 ∨ j = 2 ∨ j = 3 ∨ j = 4 ∨ j = 5 ∨ j = 6 ∨ j = 7 ∨ j = 8 ∨ j = 9 by omega) with rfl | rfl | rfl | rfl | rfl | rfl | rfl | rfl | rfl | rfl <;> rfl
theorem dfl6 : ∀ j, j < 27 → defaultValue (tyX6 j) = vp_V [.null, .null, .null, .null, .int 0, .null, .int 0, .int 0, .int 0, .int 0, .int 0, .int 0, .null, .null, .int 0, .null, .null, .null, .null, .null, .null, .null, .int 0, .int 0, .int 0, .int 0, .int 0] j := by
  intro j hj
  rcases (show j = 0 ∨ j = 1 ∨ j = 2 ∨ j = 3 ∨ j = 4 ∨ j = 5 ∨ j = 6 ∨ j = 7 ∨ j = 8 ∨ j = 9 ∨ j = 10 ∨ j = 11 ∨ j = 12 ∨ j = 13 ∨ j = 14 ∨ j = 15 ∨ j = 16 ∨ j = 17 ∨ j = 18 ∨ j = 19 ∨ j = 20 ∨ j = 21 ∨ j = 22 ∨ j = 23 ∨ j = 24 ∨ j = 25 ∨ j = 26 by omega) with rfl | rfl | rfl | rfl | rfl | rfl | rfl | rfl | rfl | rfl | rfl | rfl | rfl | rfl | rfl | rfl | rfl | rfl | rfl | rfl | rfl | rfl | rfl | rfl | rfl | rfl | rfl <;> rfl
