theorem mt_tbF_a : Cond.arrayOf (.static "MannersGaol" "FIRST_LAWS" "[I") .int ∈ flatC (Jvm.Cond.and given_1 narrow_1) := by decide +kernel
theorem mt_tbF_l : Cond.eq (.length (.static "MannersGaol" "FIRST_LAWS" "[I")) (.int (Int32.ofNat 4)) ∈ flatC (Jvm.Cond.and given_1 narrow_1) := by decide +kernel
theorem mt_tbF_e : ∀ j, j < 4 → Cond.eq (.elem (.static "MannersGaol" "FIRST_LAWS" "[I") (.int (Int32.ofNat j))) (.int (tbF.getD j 0)) ∈ flatC (Jvm.Cond.and given_1 narrow_1) := by decide +kernel
theorem mt_tbT_a : Cond.arrayOf (.static "MannersGaol" "TOP_LAWS" "[I") .int ∈ flatC (Jvm.Cond.and given_1 narrow_1) := by decide +kernel
theorem mt_tbT_l : Cond.eq (.length (.static "MannersGaol" "TOP_LAWS" "[I")) (.int (Int32.ofNat 4)) ∈ flatC (Jvm.Cond.and given_1 narrow_1) := by decide +kernel
theorem mt_tbT_e : ∀ j, j < 4 → Cond.eq (.elem (.static "MannersGaol" "TOP_LAWS" "[I") (.int (Int32.ofNat j))) (.int (tbT.getD j 0)) ∈ flatC (Jvm.Cond.and given_1 narrow_1) := by decide +kernel
theorem mt_tbA_a : Cond.arrayOf (.static "MannersGaol" "ABOVE" "[I") .int ∈ flatC (Jvm.Cond.and given_1 narrow_1) := by decide +kernel
theorem mt_tbA_l : Cond.eq (.length (.static "MannersGaol" "ABOVE" "[I")) (.int (Int32.ofNat 6)) ∈ flatC (Jvm.Cond.and given_1 narrow_1) := by decide +kernel
theorem mt_tbA_e : ∀ j, j < 6 → Cond.eq (.elem (.static "MannersGaol" "ABOVE" "[I") (.int (Int32.ofNat j))) (.int (tbA.getD j 0)) ∈ flatC (Jvm.Cond.and given_1 narrow_1) := by decide +kernel
theorem mt_tbB_a : Cond.arrayOf (.static "MannersGaol" "OWN_BODIES" "[I") .int ∈ flatC (Jvm.Cond.and given_1 narrow_1) := by decide +kernel
theorem mt_tbB_l : Cond.eq (.length (.static "MannersGaol" "OWN_BODIES" "[I")) (.int (Int32.ofNat 24)) ∈ flatC (Jvm.Cond.and given_1 narrow_1) := by decide +kernel
theorem mt_tbB_e : ∀ j, j < 24 → Cond.eq (.elem (.static "MannersGaol" "OWN_BODIES" "[I") (.int (Int32.ofNat j))) (.int (tbB.getD j 0)) ∈ flatC (Jvm.Cond.and given_1 narrow_1) := by decide +kernel
theorem ms_x : ∀ i, i < 16 → Cond.exactly (Term.string "MannersGaol$Text" (strK.getD i (0, "")).1) "java/lang/String" ∈ flatC (Jvm.Cond.and given_1 narrow_1) := by decide +kernel
theorem ms_c : ∀ i, i < 16 → Cond.eq (.field (Term.string "MannersGaol$Text" (strK.getD i (0, "")).1) "java/lang/String" "coder" "B") (.int 0) ∈ flatC (Jvm.Cond.and given_1 narrow_1) := by decide +kernel
theorem ms_a : ∀ i, i < 16 → Cond.arrayOf (.field (Term.string "MannersGaol$Text" (strK.getD i (0, "")).1) "java/lang/String" "value" "[B") .byte ∈ flatC (Jvm.Cond.and given_1 narrow_1) := by decide +kernel
theorem ms_l : ∀ i, i < 16 → Cond.eq (.length (.field (Term.string "MannersGaol$Text" (strK.getD i (0, "")).1) "java/lang/String" "value" "[B")) (.int (Int32.ofNat (lenS.getD i 0))) ∈ flatC (Jvm.Cond.and given_1 narrow_1) := by decide +kernel
theorem ms_e : ∀ i, i < 16 → ∀ j, j < lenS.getD i 0 → Cond.eq (.elem (.field (Term.string "MannersGaol$Text" (strK.getD i (0, "")).1) "java/lang/String" "value" "[B") (.int (Int32.ofNat j))) (.int ((bytS.getD i []).getD j 0)) ∈ flatC (Jvm.Cond.and given_1 narrow_1) := by decide +kernel
def nsI : List (List Nat) := [[0, 94, 107, 119, 129, 142, 157, 171, 185, 203, 218, 237, 256, 295, 274, 316], [94, 0, 108, 120, 130, 143, 158, 172, 186, 204, 219, 238, 257, 296, 275, 317], [107, 108, 0, 121, 131, 144, 159, 173, 187, 205, 220, 239, 258, 297, 276, 318], [119, 120, 121, 0, 132, 145, 160, 174, 188, 206, 221, 240, 259, 298, 277, 319], [129, 130, 131, 132, 0, 146, 161, 175, 189, 207, 222, 241, 260, 299, 278, 320], [142, 143, 144, 145, 146, 0, 162, 176, 190, 208, 223, 242, 261, 300, 279, 321], [157, 158, 159, 160, 161, 162, 0, 177, 191, 209, 224, 243, 262, 301, 280, 322], [171, 172, 173, 174, 175, 176, 177, 0, 192, 210, 225, 244, 263, 302, 281, 323], [185, 186, 187, 188, 189, 190, 191, 192, 0, 211, 226, 245, 264, 303, 282, 324], [203, 204, 205, 206, 207, 208, 209, 210, 211, 0, 227, 246, 265, 304, 283, 325], [218, 219, 220, 221, 222, 223, 224, 225, 226, 227, 0, 247, 266, 305, 284, 326], [237, 238, 239, 240, 241, 242, 243, 244, 245, 246, 247, 0, 267, 306, 285, 327], [256, 257, 258, 259, 260, 261, 262, 263, 264, 265, 266, 267, 0, 307, 286, 328], [295, 296, 297, 298, 299, 300, 301, 302, 303, 304, 305, 306, 307, 0, 308, 330], [274, 275, 276, 277, 278, 279, 280, 281, 282, 283, 284, 285, 286, 308, 0, 329], [316, 317, 318, 319, 320, 321, 322, 323, 324, 325, 326, 327, 328, 330, 329, 0]]
def nsO : List (List Bool) := [[false, true, true, true, true, true, true, true, true, true, true, true, true, true, true, true], [false, false, true, true, true, true, true, true, true, true, true, true, true, true, true, true], [false, false, false, true, true, true, true, true, true, true, true, true, true, true, true, true], [false, false, false, false, true, true, true, true, true, true, true, true, true, true, true, true], [false, false, false, false, false, true, true, true, true, true, true, true, true, true, true, true], [false, false, false, false, false, false, true, true, true, true, true, true, true, true, true, true], [false, false, false, false, false, false, false, true, true, true, true, true, true, true, true, true], [false, false, false, false, false, false, false, false, true, true, true, true, true, true, true, true], [false, false, false, false, false, false, false, false, false, true, true, true, true, true, true, true], [false, false, false, false, false, false, false, false, false, false, true, true, true, true, true, true], [false, false, false, false, false, false, false, false, false, false, false, true, true, true, true, true], [false, false, false, false, false, false, false, false, false, false, false, false, true, true, true, true], [false, false, false, false, false, false, false, false, false, false, false, false, false, true, true, true], [false, false, false, false, false, false, false, false, false, false, false, false, false, false, false, true], [false, false, false, false, false, false, false, false, false, false, false, false, false, true, false, true], [false, false, false, false, false, false, false, false, false, false, false, false, false, false, false, false]]
theorem ms_k : ∀ i, i < 16 → ∀ j, j < 16 → i ≠ j → (flatC (Jvm.Cond.and given_1 narrow_1))[(nsI.getD i []).getD j 0]? = some (if (nsO.getD i []).getD j false = true then Cond.not (Cond.eq (Term.string "MannersGaol$Text" (strK.getD i (0, "")).1) (Term.string "MannersGaol$Text" (strK.getD j (0, "")).1)) else Cond.not (Cond.eq (Term.string "MannersGaol$Text" (strK.getD j (0, "")).1) (Term.string "MannersGaol$Text" (strK.getD i (0, "")).1))) := by decide +kernel
theorem ms_n (i : Nat) (hi : i < 16) (j : Nat) (hj : j < 16) (hij : i ≠ j) : (Cond.not (Cond.eq (Term.string "MannersGaol$Text" (strK.getD i (0, "")).1) (Term.string "MannersGaol$Text" (strK.getD j (0, "")).1)) ∈ flatC (Jvm.Cond.and given_1 narrow_1) ∨ Cond.not (Cond.eq (Term.string "MannersGaol$Text" (strK.getD j (0, "")).1) (Term.string "MannersGaol$Text" (strK.getD i (0, "")).1)) ∈ flatC (Jvm.Cond.and given_1 narrow_1)) := by
  have h := List.mem_of_getElem? (ms_k i hi j hj hij)
  split at h
  · exact Or.inl h
  · exact Or.inr h
theorem ms_s : ∀ i, i < 16 → Cond.stringRef "MannersGaol$Text" (strK.getD i (0, "")).1 (strK.getD i (0, "")).2 ∈ lw_tbl := by decide +kernel
theorem mc_c : Cond.eq (.static "java/lang/String" "COMPACT_STRINGS" "Z") (.int 1) ∈ flatC (Jvm.Cond.and given_1 narrow_1) := by decide +kernel
theorem mc_f : Cond.isRef (.static "jdk/internal/util/Preconditions" "SIOOBE_FORMATTER" "Ljava/util/function/BiFunction;") ∈ flatC (Jvm.Cond.and given_1 narrow_1) := by decide +kernel
theorem wl_tbF : Cond.laysStatic "MannersGaol" "FIRST_LAWS" "[I" ∈ lw_tbl := List.mem_of_getElem? (i := 88) (by decide +kernel)
theorem wl_tbT : Cond.laysStatic "MannersGaol" "TOP_LAWS" "[I" ∈ lw_tbl := List.mem_of_getElem? (i := 404) (by decide +kernel)
theorem wl_tbA : Cond.laysStatic "MannersGaol" "ABOVE" "[I" ∈ lw_tbl := List.mem_of_getElem? (i := 766) (by decide +kernel)
theorem wl_tbB : Cond.laysStatic "MannersGaol" "OWN_BODIES" "[I" ∈ lw_tbl := List.mem_of_getElem? (i := 780) (by decide +kernel)
theorem wl_cs : Cond.laysStatic "java/lang/String" "COMPACT_STRINGS" "Z" ∈ lw_tbl := List.mem_of_getElem? (i := 321) (by decide +kernel)
theorem wl_sf : Cond.laysStatic "jdk/internal/util/Preconditions" "SIOOBE_FORMATTER" "Ljava/util/function/BiFunction;" ∈ lw_tbl := List.mem_of_getElem? (i := 337) (by decide +kernel)
theorem wi_m : Cond.initialized "MannersGaol" ∈ lw_tbl := List.mem_of_getElem? (i := 55) (by decide +kernel)
theorem wi_s : Cond.initialized "java/lang/String" ∈ lw_tbl := List.mem_of_getElem? (i := 63) (by decide +kernel)
theorem wi_p : Cond.initialized "jdk/internal/util/Preconditions" ∈ lw_tbl := List.mem_of_getElem? (i := 65) (by decide +kernel)
theorem wn_1 : Cond.fieldLinkNest "MannersGaol$Gaol" 43 "MannersGaol" "FIRST_LAWS" "[I" "MannersGaol" ∈ lw_tbl := List.mem_of_getElem? (i := 87) (by decide +kernel)
theorem wn_2 : Cond.fieldLinkNest "MannersGaol$Text" 96 "MannersGaol" "TOP_LAWS" "[I" "MannersGaol" ∈ lw_tbl := List.mem_of_getElem? (i := 403) (by decide +kernel)
theorem wn_3 : Cond.fieldLinkNest "MannersGaol$Deed" 32 "MannersGaol" "OWN_BODIES" "[I" "MannersGaol" ∈ lw_tbl := List.mem_of_getElem? (i := 779) (by decide +kernel)
theorem wn_4 : Cond.methodLinkNest RX1 84 yX5_heldGrace "MannersGaol" ∈ lw_tbl := List.mem_of_getElem? (i := 543) (by decide +kernel)
theorem wn_6 : Cond.methodLinkNest RX5 28 yX4_init "MannersGaol" ∈ lw_tbl := List.mem_of_getElem? (i := 136) (by decide +kernel)
theorem wn_7 : Cond.methodLinkNest RX5 55 yX0_init "MannersGaol" ∈ lw_tbl := List.mem_of_getElem? (i := 169) (by decide +kernel)
theorem wn_8 : Cond.methodLinkNest RX5 60 yX2_init "MannersGaol" ∈ lw_tbl := List.mem_of_getElem? (i := 198) (by decide +kernel)
theorem wn_9 : Cond.methodLinkNest RX5 61 yX3_init "MannersGaol" ∈ lw_tbl := List.mem_of_getElem? (i := 218) (by decide +kernel)
theorem wo_1 : Cond.arrayOver (.object "MannersGaol$Sheet") ∈ lw_tbl := List.mem_of_getElem? (i := 164) (by decide +kernel)
theorem wo_2 : Cond.arrayOver (.object "MannersGaol$Shelf") ∈ lw_tbl := List.mem_of_getElem? (i := 166) (by decide +kernel)
theorem tabX {args : Array Value} {s : State} {tm : Term} {N : Nat} {f : Nat → Int32} (hN : N < 2 ^ 31) (harr : (Cond.arrayOf tm .int).before args s = true) (hlen : (Cond.eq (.length tm) (.int (Int32.ofNat N))).before args s = true) (hel : ∀ j : Nat, j < N → (Cond.eq (.elem tm (.int (Int32.ofNat j))) (.int (f j))).before args s = true) : ∃ t : Nat, tm.eval args s none [] s = some (.ref t) ∧ va_X t N f s s.heap ∧ t < s.heap.size := by
  obtain ⟨t, ht, hT⟩ := va_Tof (f := fun j => .int (f j)) (A := fun q => s.heap.size ≤ q) hN harr (va_eqt hlen) (fun j hj => va_eqt (hel j hj)) (fun a ha => Nat.not_le.mpr ha)
  obtain ⟨cell, h1, h2, h3, h4, h5, h6, h7⟩ := hT
  have hv := va_eqt hlen
  obtain ⟨b, cell2, hb, harr2, hv2⟩ := Term.length_spec hv
  have hsz : cell2.slots.size < 2 ^ 31 := by
    simp only [Term.eval, hb, harr2, Option.bind_eq_bind, Option.bind_some] at hv
    by_cases hlt : cell2.slots.size < 2147483648
    · exact hlt
    · simp [hlt] at hv
  have eb : b = t := by
    have := hb.symm.trans ht
    cases this
    rfl
  subst eb
  have ec : cell2 = cell := Option.some.inj ((State.arrayAt?_spec harr2).1.symm.trans h1)
  subst ec
  have es : cell2.slots.size = N := (nI_eq hsz hN).mp h5
  exact ⟨b, ht, ⟨cell2, h1, h2, h3, es, fun j hj => h6 j hj⟩, (Array.getElem?_eq_some_iff.mp h1).1⟩
/-- what the Statement gives of tables and String constants -/
theorem lw_ent {p : Program} {s : State} {m : MethodId} {meth : Method} {c : Code} {b L : Nat} {xs : Nat → Int32} (C0 : lw_At p s m meth c b L xs) : ∃ (t0 t1 t2 t3 t4 : Nat) (adK adV : Nat → Nat) (v0 : Value), ((va_X t0 4 (fun i => tbF.getD i 0) s s.heap ∧ t0 < s.heap.size) ∧ (va_X t1 4 (fun i => tbT.getD i 0) s s.heap ∧ t1 < s.heap.size) ∧ (va_X t2 6 (fun i => tbA.getD i 0) s s.heap ∧ t2 < s.heap.size) ∧ (va_X t3 24 (fun i => tbB.getD i 0) s s.heap ∧ t3 < s.heap.size)) ∧ (va_Z "MannersGaol" "FIRST_LAWS" "[I" (.ref t0) (fun q => s.heap.size ≤ q) s s.heap ∧ va_Z "MannersGaol" "TOP_LAWS" "[I" (.ref t1) (fun q => s.heap.size ≤ q) s s.heap ∧ va_Z "MannersGaol" "ABOVE" "[I" (.ref t2) (fun q => s.heap.size ≤ q) s s.heap ∧ va_Z "MannersGaol" "OWN_BODIES" "[I" (.ref t3) (fun q => s.heap.size ≤ q) s s.heap) ∧ vk_S 16 lenS bytS adK adV (fun q => s.heap.size ≤ q) s s.heap ∧ (∀ (j : Nat) (x : Nat × String), strK[j]? = some x → vk_R RX4 x.1 x.2 (adK j) s) ∧ va_Z "java/lang/String" "COMPACT_STRINGS" "Z" (.int 1) (fun q => s.heap.size ≤ q) s s.heap ∧ ((v0 = .null ∨ v0 = .ref t4) ∧ va_Z "jdk/internal/util/Preconditions" "SIOOBE_FORMATTER" "Ljava/util/function/BiFunction;" v0 (fun q => s.heap.size ≤ q) s s.heap) := by
  obtain ⟨hx, hb, hr, hml, hown, hts, hX, hbl, hlocks, hgv⟩ := C0
  have hs := flat_of_before _ hgv
  have hA : ∀ a : Nat, a < s.heap.size → ¬ (fun q : Nat => s.heap.size ≤ q) a := fun a ha => Nat.not_le.mpr ha
  obtain ⟨t0, e0, x0, l0⟩ := tabX (f := fun j => tbF.getD j 0) (N := 4) (by decide) (hs _ mt_tbF_a) (hs _ mt_tbF_l) (fun j hj => hs _ (mt_tbF_e j hj))
  obtain ⟨t1, e1, x1, l1⟩ := tabX (f := fun j => tbT.getD j 0) (N := 4) (by decide) (hs _ mt_tbT_a) (hs _ mt_tbT_l) (fun j hj => hs _ (mt_tbT_e j hj))
  obtain ⟨t2, e2, x2, l2⟩ := tabX (f := fun j => tbA.getD j 0) (N := 6) (by decide) (hs _ mt_tbA_a) (hs _ mt_tbA_l) (fun j hj => hs _ (mt_tbA_e j hj))
  obtain ⟨t3, e3, x3, l3⟩ := tabX (f := fun j => tbB.getD j 0) (N := 24) (by decide) (hs _ mt_tbB_a) (hs _ mt_tbB_l) (fun j hj => hs _ (mt_tbB_e j hj))
  obtain ⟨adK, adV, hS, hK⟩ := vk_Sof (args := #[Value.ref b]) (s := s) (N := 16) (tm := fun i => Term.string "MannersGaol$Text" (strK.getD i (0, "")).1) (len := lenS) (byt := bytS) (A := fun q => s.heap.size ≤ q) (by decide) (fun i hi => hs _ (ms_x i hi)) (fun i hi => hs _ (ms_c i hi)) (fun i hi => hs _ (ms_a i hi)) (fun i hi => hs _ (ms_l i hi)) (fun i hi j hj => hs _ (ms_e i hi j hj)) (fun i j hi hj hij => by
    rcases ms_n i hi j hj hij with z | z
    · exact Or.inl (hs _ z)
    · exact Or.inr (hs _ z)) hA
  have hR : ∀ (j : Nat) (x : Nat × String), strK[j]? = some x → vk_R RX4 x.1 x.2 (adK j) s := by
    intro j x hx
    have hj : j < 16 := (List.getElem?_eq_some_iff.mp hx).1
    have ex : strK.getD j (0, "") = x := by rw [List.getD_eq_getElem?_getD, hx]; rfl
    have a := hts _ (ms_s j hj)
    have b2 := hK j hj
    rw [ex] at a
    simp only [ex] at b2
    exact vk_R.of a b2
  have hC := va_Zof (hts _ wl_cs) (hts _ wi_s) (va_eqi (hs _ mc_c)) hA
  have hZ : va_Z "MannersGaol" "FIRST_LAWS" "[I" (.ref t0) (fun q => s.heap.size ≤ q) s s.heap ∧ va_Z "MannersGaol" "TOP_LAWS" "[I" (.ref t1) (fun q => s.heap.size ≤ q) s s.heap ∧ va_Z "MannersGaol" "ABOVE" "[I" (.ref t2) (fun q => s.heap.size ≤ q) s s.heap ∧ va_Z "MannersGaol" "OWN_BODIES" "[I" (.ref t3) (fun q => s.heap.size ≤ q) s s.heap := ⟨va_Zof (hts _ wl_tbF) (hts _ wi_m) e0 hA, va_Zof (hts _ wl_tbT) (hts _ wi_m) e1 hA, va_Zof (hts _ wl_tbA) (hts _ wi_m) e2 hA, va_Zof (hts _ wl_tbB) (hts _ wi_m) e3 hA⟩
  rcases va_Zqof (hts _ wl_sf) (hts _ wi_p) (hs _ mc_f) hA with z | ⟨t4, z⟩
  · exact ⟨t0, t1, t2, t3, 0, adK, adV, .null, ⟨⟨x0, l0⟩, ⟨x1, l1⟩, ⟨x2, l2⟩, x3, l3⟩, hZ, hS, hR, hC, Or.inl rfl, z⟩
  · exact ⟨t0, t1, t2, t3, t4, adK, adV, .ref t4, ⟨⟨x0, l0⟩, ⟨x1, l1⟩, ⟨x2, l2⟩, x3, l3⟩, hZ, hS, hR, hC, Or.inr rfl, z⟩
