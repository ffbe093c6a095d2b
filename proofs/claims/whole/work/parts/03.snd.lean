/-! SOUNDNESS of the engine over the machine -/
def lwG : List Cond := lw_tbl.filter goodWord
theorem inG {w : Cond} (i : Nat) (h : lw_tbl[i]? = some w) (hg : goodWord w = true) : w ∈ lwG := List.mem_filter.mpr ⟨List.mem_of_getElem? h, hg⟩
theorem goodG : GoodIn lwG lwG := fun w h => ⟨h, good_of_word (List.mem_filter.mp h).2⟩
abbrev clsT : List vw_C := [(RX0, TX0, 6), (RX1, TX1, 9), (RX2, TX2, 3), (RX3, TX3, 4), (RX4, TX4, 7), (RX5, TX5, 10), (RX6, TX6, 27)]
def nfl : List Nat := [6, 9, 3, 4, 7, 10, 27]
/-- the world's own numbers: classes, slots, array classes, addresses, the cells that may change -/
abbrev WD : Type := (Nat → ClassId) × (Nat → Nat → Nat) × ClassId × ClassId × ClassId × (Nat → Nat) × (Nat → Prop)
abbrev wD (w : WD) : va_G := (w.1, w.2.1)
abbrev wI (w : WD) : ClassId := w.2.2.1
abbrev wS (w : WD) : ClassId := w.2.2.2.1
abbrev wH (w : WD) : ClassId := w.2.2.2.2.1
abbrev wad (w : WD) : Nat → Nat := w.2.2.2.2.2.1
abbrev wA (w : WD) : Nat → Prop := w.2.2.2.2.2.2
abbrev wty (w : WD) : List (ClassId × FieldType) := [(wI w, .int), (wS w, .object "MannersGaol$Sheet"), (wH w, .object "MannersGaol$Shelf")]
def cv (ad : Nat → Nat) : Value → Value
  | .ref p => .ref (ad p)
  | v => v
theorem cv_cat (ad : Nat → Nat) (v : Value) : (cv ad v).category = v.category := by cases v <;> rfl
def en1 (w : WD) (h : Hp) (p : Nat) : va_E := match ocl p with
  | some ci => .inr (ci, (List.range (nfl.getD ci 0)).map (fun k => cv (wad w) (fv p k h)))
  | none => match ral p with
    | some b => .inl (if p = 25 then wS w else wH w, 4, .inr (.inr (.inr (.inr (fun i => some (wad w (b + i)))))))
    | none => .inl (wI w, (alen p).getD 0, .inl (h p))
def wsO (w : WD) (h : Hp) : va_W := (List.range 56).map (fun p => (wad w p, en1 w h p))
theorem ws_at (w : WD) (h : Hp) {p : Nat} (hp : p < 56) : (wsO w h)[p]? = some (wad w p, en1 w h p) := by
  simp [wsO, hp]
theorem ws_len (w : WD) (h : Hp) : (wsO w h).length = 56 := by simp [wsO]
theorem up2_ne {h : Hp} {p k q : Nat} {x : Int32} (hq : q ≠ p) : up2 h p k x q = h q := by
  funext j; simp [up2, hq]
theorem up2_self {h : Hp} {p k : Nat} {x : Int32} : up2 h p k x p = upd (h p) k x := by
  funext j; simp [up2, upd]
theorem upA_ne {h : Hp} {p q : Nat} {f : Nat → Int32} (hq : q ≠ p) : upA h p f q = h q := by
  funext j; simp [upA, hq]
theorem upA_self {h : Hp} {p : Nat} {f : Nat → Int32} : upA h p f p = f := by
  funext j; simp [upA]
theorem en1_cong {w : WD} {h g : Hp} {p : Nat} (e : h p = g p) : en1 w h p = en1 w g p := by
  unfold en1
  cases ocl p with
  | some ci => simp only [fv, e]
  | none => cases ral p <;> simp only [e]
theorem ws_set {w : WD} {h g : Hp} {p : Nat} {E : va_E} (hE : E = en1 w g p) (hne : ∀ q, q ≠ p → g q = h q) : (wsO w h).set p (wad w p, E) = wsO w g := by
  apply List.ext_getElem?
  intro i
  by_cases hi : i < 56
  · by_cases hip : i = p
    · subst hip
      rw [List.getElem?_set_self (by rw [ws_len]; exact hi), ws_at w g hi, hE]
    · rw [List.getElem?_set_ne (Ne.symm hip), ws_at w h hi, ws_at w g hi, en1_cong (hne i hip)]
  · rw [List.getElem?_eq_none (by rw [List.length_set, ws_len]; omega), List.getElem?_eq_none (by rw [ws_len]; omega)]
theorem alen_lt : ∀ p n, alen p = some n → p < 56 := by
  intro p n h
  by_cases hp : p < 56
  · exact hp
  · exfalso
    have : lyA.length = 56 := rfl
    simp only [alen, List.getD_eq_getElem?_getD] at h
    rw [List.getElem?_eq_none (by omega)] at h
    cases h
theorem ocl_lt : ∀ p n, ocl p = some n → p < 56 := by
  intro p n h
  by_cases hp : p < 56
  · exact hp
  · exfalso
    have : lyO.length = 56 := rfl
    simp only [ocl, List.getD_eq_getElem?_getD] at h
    rw [List.getElem?_eq_none (by omega)] at h
    cases h
theorem ral_lt : ∀ p n, ral p = some n → p < 56 := by
  intro p n h
  by_cases hp : p < 56
  · exact hp
  · exfalso
    have : lyR.length = 56 := rfl
    simp only [ral, List.getD_eq_getElem?_getD] at h
    rw [List.getElem?_eq_none (by omega)] at h
    cases h
theorem alen_ok : ∀ p, p < 56 → ∀ n, alen p = some n → ocl p = none ∧ ral p = none ∧ n < 2 ^ 31 := by
  have h : ∀ p, p < 56 → (alen p).all (fun n => decide (ocl p = none ∧ ral p = none ∧ n < 1000)) = true := by decide +kernel
  intro p hp n hn
  have := h p hp
  rw [hn, Option.all_some] at this
  have := of_decide_eq_true this
  exact ⟨this.1, this.2.1, by have := this.2.2; omega⟩
theorem ral_ok : ∀ p b, ral p = some b → ocl p = none ∧ b + 4 ≤ 56 ∧ ((p = 25 ∧ b = 26) ∨ (p = 34 ∧ b = 35)) := by
  have h : ∀ p, p < 56 → (ral p).all (fun b => decide (ocl p = none ∧ b + 4 ≤ 56 ∧ ((p = 25 ∧ b = 26) ∨ (p = 34 ∧ b = 35)))) = true := by decide +kernel
  intro p b hb
  have := h p (ral_lt p b hb)
  rw [hb, Option.all_some] at this
  exact of_decide_eq_true this
theorem ocl_ok : ∀ p ci, ocl p = some ci → ci < 7 ∧ p < 56 := by
  have h : ∀ p, p < 56 → (ocl p).all (fun ci => decide (ci < 7)) = true := by decide +kernel
  intro p ci hb
  have := h p (ocl_lt p ci hb)
  rw [hb, Option.all_some] at this
  exact ⟨of_decide_eq_true this, ocl_lt p ci hb⟩
def strK : List (Nat × String) := [(112, "inmate"), (114, "burglar"), (116, "duellist"), (118, "forger"), (120, "nun"), (122, "child"), (124, "strict"), (126, "ease"), (128, "due"), (130, "sneeze"), (77, "in"), (87, "grace"), (55, "rite"), (64, "wait"), (102, "is"), (107, "for")]
def bytS : List (List Int32) := strs.map (fun t => t.map nI)
def lenS : List Nat := strs.map List.length
/-- the String constants, and the two JDK statics that their members read -/
def Gss (w : WD) (U : State) : Prop :=
  vk_S 16 lenS bytS (fun i => wad w (200 + i)) (fun i => wad w (300 + i)) (wA w) U U.heap ∧ (∀ (j : Nat) (x : Nat × String), strK[j]? = some x → vk_R RX4 x.1 x.2 (wad w (200 + j)) U) ∧
  va_Z "java/lang/String" "COMPACT_STRINGS" "Z" (.int 1) (wA w) U U.heap ∧ ∃ v0, (v0 = Value.null ∨ v0 = Value.ref 400) ∧ va_Z "jdk/internal/util/Preconditions" "SIOOBE_FORMATTER" "Ljava/util/function/BiFunction;" (cv (wad w) v0) (wA w) U U.heap
theorem Gss.go {w : WD} {U V : State} (h : Gss w U) (hW : U.WarmedH V.vm) (hk : ∀ q : Nat, q < U.heap.size → ¬ wA w q → V.heap[q]? = U.heap[q]?) : Gss w V := by
  obtain ⟨h1, h2, h3, v0, h4, h5⟩ := h
  exact ⟨(h1.moved hW.alike).kept hk, fun j x hx => (h2 j x hx).warm hW, (h3.moved hW.alike).kept hk, v0, h4, (h5.moved hW.alike).kept hk⟩
/-- what is so of the tables and of the cells that no method changes -/
def Gst (w : WD) (U : State) : Prop :=
  va_K (wD w) clsT (wty w) U ∧ ((∀ i j, i < 56 → j < 56 → wad w i = wad w j → i = j) ∧ ∀ i, i < 56 → wA w (wad w i)) ∧
  (∀ p t, ext p = some t → va_X (wad w p) t.length (fun i => t.getD i 0) U U.heap ∧ wad w p < U.heap.size ∧ ¬ wA w (wad w p)) ∧
  (va_Z "MannersGaol" "FIRST_LAWS" "[I" (.ref (wad w 90)) (wA w) U U.heap ∧ va_Z "MannersGaol" "TOP_LAWS" "[I" (.ref (wad w 91)) (wA w) U U.heap ∧ va_Z "MannersGaol" "ABOVE" "[I" (.ref (wad w 92)) (wA w) U U.heap ∧ va_Z "MannersGaol" "OWN_BODIES" "[I" (.ref (wad w 93)) (wA w) U U.heap) ∧
  (va_Nw (.fieldLinkNest RX1 43 "MannersGaol" "FIRST_LAWS" "[I" "MannersGaol") U ∧ va_Nw (.fieldLinkNest RX4 96 "MannersGaol" "TOP_LAWS" "[I" "MannersGaol") U ∧ va_Nw (.fieldLinkNest RX0 32 "MannersGaol" "OWN_BODIES" "[I" "MannersGaol") U ∧ va_Nw (.methodLinkNest RX1 84 yX5_heldGrace "MannersGaol") U) ∧ Gss w U
theorem Gst.go {w : WD} {U V : State} (h : Gst w U) (hW : U.WarmedH V.vm) (hsz : U.heap.size ≤ V.heap.size) (hk : ∀ q : Nat, q < U.heap.size → ¬ wA w q → V.heap[q]? = U.heap[q]?) : Gst w V := by
  obtain ⟨h1, h2, h3, ⟨z1, z2, z3, z4⟩, ⟨n1, n2, n3, n4⟩, hs⟩ := h
  refine ⟨va_K.moved hW.alike h1, h2, fun p t ht => ?_, ⟨(z1.moved hW.alike).kept hk, (z2.moved hW.alike).kept hk, (z3.moved hW.alike).kept hk, (z4.moved hW.alike).kept hk⟩, ⟨va_Nw.warmF hW n1, va_Nw.warmF hW n2, va_Nw.warmF hW n3, va_Nw.warmM hW n4⟩, hs.go hW hk⟩
  obtain ⟨a, b, d⟩ := h3 p t ht
  exact ⟨(a.moved hW.alike).kept (hk _ b d), Nat.lt_of_lt_of_le b hsz, d⟩
theorem ws_D {w : WD} {U : State} (h : Gst w U) (g : Hp) : va_D (wA w) (wsO w g) := by
  refine ⟨fun i j a b hi hj hab => ?_, fun k q hk => ?_⟩
  · have li : i < 56 := by have := (List.getElem?_eq_some_iff.mp hi).1; rw [ws_len] at this; exact this
    have lj : j < 56 := by have := (List.getElem?_eq_some_iff.mp hj).1; rw [ws_len] at this; exact this
    rw [ws_at w g li] at hi
    rw [ws_at w g lj] at hj
    cases hi; cases hj
    exact h.2.1.1 i j li lj hab
  · have lk : k < 56 := by have := (List.getElem?_eq_some_iff.mp hk).1; rw [ws_len] at this; exact this
    rw [ws_at w g lk] at hk
    cases hk
    exact h.2.1.2 k lk
/-- the locals -/
def Lok (w : WD) (nL : Nat) (ls : Array Slot) (L : Lo) : Prop := L.length ≤ nL ∧ ls.size = nL ∧ lv_wf ls ∧ ∀ (i : Nat) (v : Value), L[i]? = some (some v) → ls[i]? = some (.val (cv (wad w) v))
def asc (w : WD) (L : Lo) : List (Nat × Value) := (List.range L.length).filterMap (fun j => match L[j]? with | some (some v) => some (j, cv (wad w) v) | _ => none)
theorem asc_mem {w : WD} {L : Lo} {q : Nat × Value} : q ∈ asc w L ↔ ∃ v, L[q.1]? = some (some v) ∧ q.2 = cv (wad w) v := by
  unfold asc
  rw [List.mem_filterMap]
  constructor
  · rintro ⟨j, hj, hq⟩
    split at hq
    · rename_i v hv
      cases hq
      exact ⟨v, hv, rfl⟩
    · cases hq
  · rintro ⟨v, hv, he⟩
    refine ⟨q.1, List.mem_range.mpr (List.getElem?_eq_some_iff.mp hv).1, ?_⟩
    rw [hv]
    obtain ⟨a, b⟩ := q
    simp only at he ⊢
    rw [he]
theorem Lok.has {w : WD} {nL : Nat} {ls : Array Slot} {L : Lo} (h : Lok w nL ls L) : lv_has ls nL (asc w L) := by
  refine ⟨h.2.1, h.2.2.1, fun q hq => ?_⟩
  obtain ⟨v, h1, h2⟩ := asc_mem.mp hq
  rw [h2]
  exact h.2.2.2 q.1 v h1
theorem lck_ok : ∀ (L : Lo) (i : Nat), lck L i = true → i < L.length ∧ ∀ (j : Nat) (v : Value), i = j + 1 → L[j]? = some (some v) → v.category = 1
  | [], i, h => by simp [lck] at h
  | a :: r, 0, _ => ⟨by simp, fun j v h => by omega⟩
  | a :: r, 1, h => by
    simp only [lck, Bool.and_eq_true] at h
    have h2 := (lck_ok r 0 h.2).1
    refine ⟨by simp; exact h2, fun j v e hv => ?_⟩
    have : j = 0 := by omega
    subst this
    simp only [List.getElem?_cons_zero, Option.some.injEq] at hv
    rw [hv] at h
    simpa using h.1
  | a :: r, i + 2, h => by
    have h' : lck r (i + 1) = true := by simpa [lck] using h
    have h2 := lck_ok r (i + 1) h'
    refine ⟨by have := h2.1; simp; omega, fun j v e hv => ?_⟩
    have : j = i + 1 := by omega
    subst this
    rw [List.getElem?_cons_succ] at hv
    exact h2.2 i v rfl hv
theorem Lok.set1 {w : WD} {nL i : Nat} {ls ls' : Array Slot} {L : Lo} {v : Value} (h : Lok w nL ls L) (hc : lck L i = true) (h' : lv_has ls' nL ((i, cv (wad w) v) :: (asc w L).filter (fun q => !(q.1 == i) && !(q.1 + 1 == i && q.2.category == 2)))) : Lok w nL ls' (L.set i (some v)) := by
  obtain ⟨k1, k2⟩ := lck_ok L i hc
  refine ⟨by rw [List.length_set]; exact h.1, h'.1, h'.2.1, fun j u hj => ?_⟩
  by_cases hij : j = i
  · subst hij
    rw [List.getElem?_set_self k1] at hj
    cases hj
    exact h'.2.2 _ List.mem_cons_self
  · rw [List.getElem?_set_ne (Ne.symm hij)] at hj
    refine h'.2.2 (j, cv (wad w) u) (List.mem_cons_of_mem _ (List.mem_filter.mpr ⟨asc_mem.mpr ⟨u, hj, rfl⟩, ?_⟩))
    have hcat : j + 1 = i → u.category = 1 := fun e => k2 j u e.symm hj
    simp only [cv_cat, Bool.and_eq_true, Bool.not_eq_true', beq_eq_false_iff_ne, ne_eq, hij, not_false_eq_true, true_and, Bool.and_eq_false_iff]
    by_cases e : j + 1 = i
    · right; rw [hcat e]; decide
    · left; exact e
theorem Lok.set2 {w : WD} {nL i : Nat} {ls ls' : Array Slot} {L : Lo} {v : Value} (h : Lok w nL ls L) (hc : lck L i = true) (h1 : i + 1 < L.length) (h' : lv_has ls' nL ((i, cv (wad w) v) :: (asc w L).filter (fun q => !(q.1 == i) && (!(q.1 == i + 1) && !(q.1 + 1 == i && q.2.category == 2))))) : Lok w nL ls' ((L.set i (some v)).set (i + 1) none) := by
  obtain ⟨k1, k2⟩ := lck_ok L i hc
  refine ⟨by rw [List.length_set, List.length_set]; exact h.1, h'.1, h'.2.1, fun j u hj => ?_⟩
  by_cases hij1 : j = i + 1
  · subst hij1
    rw [List.getElem?_set_self (by rw [List.length_set]; exact h1)] at hj
    cases hj
  · rw [List.getElem?_set_ne (Ne.symm hij1)] at hj
    by_cases hij : j = i
    · subst hij
      rw [List.getElem?_set_self k1] at hj
      cases hj
      exact h'.2.2 _ List.mem_cons_self
    · rw [List.getElem?_set_ne (Ne.symm hij)] at hj
      refine h'.2.2 (j, cv (wad w) u) (List.mem_cons_of_mem _ (List.mem_filter.mpr ⟨asc_mem.mpr ⟨u, hj, rfl⟩, ?_⟩))
      have hcat : j + 1 = i → u.category = 1 := fun e => k2 j u e.symm hj
      simp only [cv_cat, Bool.and_eq_true, Bool.not_eq_true', beq_eq_false_iff_ne, ne_eq, hij, hij1, not_false_eq_true, true_and, Bool.and_eq_false_iff]
      by_cases e : j + 1 = i
      · right; rw [hcat e]; decide
      · left; exact e

/-- what a walk has at hand -/
def Cxt (p : Program) (m : MethodId) (c : Code) (cc : ByteArray) (nL : Nat) (s : State) (args : Array Value) (own : String) (w : WD) : Prop :=
  p.tables.exec = Jvm.exec ∧ c.code = cc ∧ c.maxLocals = nL ∧ s.vm.findClass own = some m.cls ∧ (∀ x ∈ lwG, x.before args s = true) ∧ Gst w s
def Jd (p : Program) (l : Launch) (e : Env) (R : Room) (s : State) (m : MethodId) (args : Array Value) (below : List Frame) (meth : Method) (c : Code) (nL : Nat) (w : WD) (cells slots : Nat) (Qm : State → Prop) (st : St) : Prop :=
  ∀ (H : Heap) (locs : List Loc) (ls : Array Slot), va_P (wD w) clsT (wsO w st.2.2.2) H → va_S (wA w) s.heap H locs → Lok w nL ls st.2.1 → W p l e R s m args below meth c H locs cells slots Qm (F0 m st.1 ls (st.2.2.1.map (cv (wad w))))
def Sn (J : St → Prop) (pc : Nat) (t : Tr) : Prop := ∀ (k : St → Prop) (L : Lo) (sk : List Value) (h : Hp), t k L sk h → (∀ st, k st → J st) → J (pc, L, sk, h)
theorem Sn_nd {J : St → Prop} {n : Nat} {a b : Nat → Tr} (ha : ∀ pc, Sn J pc (a pc)) (hb : ∀ pc, Sn J pc (b pc)) : ∀ pc, Sn J pc (nd n a b pc) := by
  intro pc
  unfold nd
  split
  · exact ha pc
  · exact hb pc
theorem Sn_lf {J : St → Prop} {n : Nat} {t : Tr} (h : Sn J n t) : ∀ pc, Sn J pc (lf n t pc) := by
  intro pc
  unfold lf
  split
  · rename_i e
    rw [e]
    exact h
  · intro k L sk h ht
    exact ht.elim
theorem Cl_of {J : St → Prop} {T : Nat → Tr} (h : ∀ pc, Sn J pc (T pc)) : Cl T J := fun pc k L s hp ht hk => h pc k L s hp ht hk
section SND
variable {p : Program} {l : Launch} {e : Env} {R : Room} {s : State} {m : MethodId} {args : Array Value} {below : List Frame} {meth : Method} {c : Code} {cc : ByteArray} {nL : Nat} {own : String} {w : WD} {cells slots : Nat} {Qm : State → Prop} {pc q : Nat}
theorem sn_iadd (X : Cxt p m c cc nL s args own w) (hd : decode cc pc = .ok (.iadd, 1)) (hq : pc + 1 = q) : Sn (Jd p l e R s m args below meth c nL w cells slots Qm) pc (i_iadd q) := by
  subst hq
  intro k L sk h ht hk H locs ls hP hS hL
  revert ht
  unfold i_iadd
  split
  · intro ht
    exact lv_iadd X.1 X.2.1 hd (hk _ ht H locs ls hP hS hL)
  · exact False.elim
theorem sn_isub (X : Cxt p m c cc nL s args own w) (hd : decode cc pc = .ok (.isub, 1)) (hq : pc + 1 = q) : Sn (Jd p l e R s m args below meth c nL w cells slots Qm) pc (i_isub q) := by
  subst hq
  intro k L sk h ht hk H locs ls hP hS hL
  revert ht
  unfold i_isub
  split
  · intro ht
    exact lv_isub X.1 X.2.1 hd (hk _ ht H locs ls hP hS hL)
  · exact False.elim
theorem sn_imul (X : Cxt p m c cc nL s args own w) (hd : decode cc pc = .ok (.imul, 1)) (hq : pc + 1 = q) : Sn (Jd p l e R s m args below meth c nL w cells slots Qm) pc (i_imul q) := by
  subst hq
  intro k L sk h ht hk H locs ls hP hS hL
  revert ht
  unfold i_imul
  split
  · intro ht
    exact lv_imul X.1 X.2.1 hd (hk _ ht H locs ls hP hS hL)
  · exact False.elim
theorem sn_iand (X : Cxt p m c cc nL s args own w) (hd : decode cc pc = .ok (.iand, 1)) (hq : pc + 1 = q) : Sn (Jd p l e R s m args below meth c nL w cells slots Qm) pc (i_iand q) := by
  subst hq
  intro k L sk h ht hk H locs ls hP hS hL
  revert ht
  unfold i_iand
  split
  · intro ht
    exact lv_iand X.1 X.2.1 hd (hk _ ht H locs ls hP hS hL)
  · exact False.elim
theorem sn_ior (X : Cxt p m c cc nL s args own w) (hd : decode cc pc = .ok (.ior, 1)) (hq : pc + 1 = q) : Sn (Jd p l e R s m args below meth c nL w cells slots Qm) pc (i_ior q) := by
  subst hq
  intro k L sk h ht hk H locs ls hP hS hL
  revert ht
  unfold i_ior
  split
  · intro ht
    exact lv_ior X.1 X.2.1 hd (hk _ ht H locs ls hP hS hL)
  · exact False.elim
theorem sn_ixor (X : Cxt p m c cc nL s args own w) (hd : decode cc pc = .ok (.ixor, 1)) (hq : pc + 1 = q) : Sn (Jd p l e R s m args below meth c nL w cells slots Qm) pc (i_ixor q) := by
  subst hq
  intro k L sk h ht hk H locs ls hP hS hL
  revert ht
  unfold i_ixor
  split
  · intro ht
    exact lv_ixor X.1 X.2.1 hd (hk _ ht H locs ls hP hS hL)
  · exact False.elim
theorem sn_ishl (X : Cxt p m c cc nL s args own w) (hd : decode cc pc = .ok (.ishl, 1)) (hq : pc + 1 = q) : Sn (Jd p l e R s m args below meth c nL w cells slots Qm) pc (i_ishl q) := by
  subst hq
  intro k L sk h ht hk H locs ls hP hS hL
  revert ht
  unfold i_ishl
  split
  · intro ht
    exact lv_ishl X.1 X.2.1 hd (hk _ ht H locs ls hP hS hL)
  · exact False.elim
theorem sn_ishr (X : Cxt p m c cc nL s args own w) (hd : decode cc pc = .ok (.ishr, 1)) (hq : pc + 1 = q) : Sn (Jd p l e R s m args below meth c nL w cells slots Qm) pc (i_ishr q) := by
  subst hq
  intro k L sk h ht hk H locs ls hP hS hL
  revert ht
  unfold i_ishr
  split
  · intro ht
    exact lv_ishr X.1 X.2.1 hd (hk _ ht H locs ls hP hS hL)
  · exact False.elim
theorem sn_ladd (X : Cxt p m c cc nL s args own w) (hd : decode cc pc = .ok (.ladd, 1)) (hq : pc + 1 = q) : Sn (Jd p l e R s m args below meth c nL w cells slots Qm) pc (i_ladd q) := by
  subst hq
  intro k L sk h ht hk H locs ls hP hS hL
  revert ht
  unfold i_ladd
  split
  · intro ht
    exact lv_ladd X.1 X.2.1 hd (hk _ ht H locs ls hP hS hL)
  · exact False.elim
theorem sn_lmul (X : Cxt p m c cc nL s args own w) (hd : decode cc pc = .ok (.lmul, 1)) (hq : pc + 1 = q) : Sn (Jd p l e R s m args below meth c nL w cells slots Qm) pc (i_lmul q) := by
  subst hq
  intro k L sk h ht hk H locs ls hP hS hL
  revert ht
  unfold i_lmul
  split
  · intro ht
    exact lv_lmul X.1 X.2.1 hd (hk _ ht H locs ls hP hS hL)
  · exact False.elim
theorem sn_land (X : Cxt p m c cc nL s args own w) (hd : decode cc pc = .ok (.land, 1)) (hq : pc + 1 = q) : Sn (Jd p l e R s m args below meth c nL w cells slots Qm) pc (i_land q) := by
  subst hq
  intro k L sk h ht hk H locs ls hP hS hL
  revert ht
  unfold i_land
  split
  · intro ht
    exact lv_land X.1 X.2.1 hd (hk _ ht H locs ls hP hS hL)
  · exact False.elim
theorem sn_lor (X : Cxt p m c cc nL s args own w) (hd : decode cc pc = .ok (.lor, 1)) (hq : pc + 1 = q) : Sn (Jd p l e R s m args below meth c nL w cells slots Qm) pc (i_lor q) := by
  subst hq
  intro k L sk h ht hk H locs ls hP hS hL
  revert ht
  unfold i_lor
  split
  · intro ht
    exact lv_lor X.1 X.2.1 hd (hk _ ht H locs ls hP hS hL)
  · exact False.elim
theorem sn_idiv (X : Cxt p m c cc nL s args own w) (hd : decode cc pc = .ok (.idiv, 1)) (hq : pc + 1 = q) : Sn (Jd p l e R s m args below meth c nL w cells slots Qm) pc (i_idiv q) := by
  subst hq
  intro k L sk h ht hk H locs ls hP hS hL
  revert ht
  unfold i_idiv
  split
  · intro ht
    exact lv_idiv X.1 X.2.1 hd ht.1 (hk _ ht.2 H locs ls hP hS hL)
  · exact False.elim
theorem sn_irem (X : Cxt p m c cc nL s args own w) (hd : decode cc pc = .ok (.irem, 1)) (hq : pc + 1 = q) : Sn (Jd p l e R s m args below meth c nL w cells slots Qm) pc (i_irem q) := by
  subst hq
  intro k L sk h ht hk H locs ls hP hS hL
  revert ht
  unfold i_irem
  split
  · intro ht
    exact lv_irem X.1 X.2.1 hd ht.1 (hk _ ht.2 H locs ls hP hS hL)
  · exact False.elim
theorem sn_ldiv (X : Cxt p m c cc nL s args own w) (hd : decode cc pc = .ok (.ldiv, 1)) (hq : pc + 1 = q) : Sn (Jd p l e R s m args below meth c nL w cells slots Qm) pc (i_ldiv q) := by
  subst hq
  intro k L sk h ht hk H locs ls hP hS hL
  revert ht
  unfold i_ldiv
  split
  · intro ht
    exact lv_ldiv X.1 X.2.1 hd ht.1 (hk _ ht.2 H locs ls hP hS hL)
  · exact False.elim
theorem sn_lrem (X : Cxt p m c cc nL s args own w) (hd : decode cc pc = .ok (.lrem, 1)) (hq : pc + 1 = q) : Sn (Jd p l e R s m args below meth c nL w cells slots Qm) pc (i_lrem q) := by
  subst hq
  intro k L sk h ht hk H locs ls hP hS hL
  revert ht
  unfold i_lrem
  split
  · intro ht
    exact lv_lrem X.1 X.2.1 hd ht.1 (hk _ ht.2 H locs ls hP hS hL)
  · exact False.elim
theorem sn_iushr (X : Cxt p m c cc nL s args own w) (hd : decode cc pc = .ok (.iushr, 1)) (hq : pc + 1 = q) : Sn (Jd p l e R s m args below meth c nL w cells slots Qm) pc (i_iushr q) := by
  subst hq
  intro k L sk h ht hk H locs ls hP hS hL
  revert ht
  unfold i_iushr
  split
  · intro ht
    exact lv_iushr X.1 X.2.1 hd rfl (hk _ ht H locs ls hP hS hL)
  · exact False.elim
theorem sn_lshl (X : Cxt p m c cc nL s args own w) (hd : decode cc pc = .ok (.lshl, 1)) (hq : pc + 1 = q) : Sn (Jd p l e R s m args below meth c nL w cells slots Qm) pc (i_lshl q) := by
  subst hq
  intro k L sk h ht hk H locs ls hP hS hL
  revert ht
  unfold i_lshl
  split
  · intro ht
    exact lv_lshl X.1 X.2.1 hd rfl (hk _ ht H locs ls hP hS hL)
  · exact False.elim
theorem sn_lshr (X : Cxt p m c cc nL s args own w) (hd : decode cc pc = .ok (.lshr, 1)) (hq : pc + 1 = q) : Sn (Jd p l e R s m args below meth c nL w cells slots Qm) pc (i_lshr q) := by
  subst hq
  intro k L sk h ht hk H locs ls hP hS hL
  revert ht
  unfold i_lshr
  split
  · intro ht
    exact lv_lshr X.1 X.2.1 hd rfl (hk _ ht H locs ls hP hS hL)
  · exact False.elim
theorem sn_lushr (X : Cxt p m c cc nL s args own w) (hd : decode cc pc = .ok (.lushr, 1)) (hq : pc + 1 = q) : Sn (Jd p l e R s m args below meth c nL w cells slots Qm) pc (i_lushr q) := by
  subst hq
  intro k L sk h ht hk H locs ls hP hS hL
  revert ht
  unfold i_lushr
  split
  · intro ht
    exact lv_lushr X.1 X.2.1 hd rfl (hk _ ht H locs ls hP hS hL)
  · exact False.elim
theorem sn_i2l (X : Cxt p m c cc nL s args own w) (hd : decode cc pc = .ok (.i2l, 1)) (hq : pc + 1 = q) : Sn (Jd p l e R s m args below meth c nL w cells slots Qm) pc (i_i2l q) := by
  subst hq
  intro k L sk h ht hk H locs ls hP hS hL
  revert ht
  unfold i_i2l
  split
  · intro ht
    exact lv_i2l X.1 X.2.1 hd rfl (hk _ ht H locs ls hP hS hL)
  · exact False.elim
theorem sn_l2i (X : Cxt p m c cc nL s args own w) (hd : decode cc pc = .ok (.l2i, 1)) (hq : pc + 1 = q) : Sn (Jd p l e R s m args below meth c nL w cells slots Qm) pc (i_l2i q) := by
  subst hq
  intro k L sk h ht hk H locs ls hP hS hL
  revert ht
  unfold i_l2i
  split
  · intro ht
    exact lv_l2i X.1 X.2.1 hd rfl (hk _ ht H locs ls hP hS hL)
  · exact False.elim
theorem sn_i2b (X : Cxt p m c cc nL s args own w) (hd : decode cc pc = .ok (.i2b, 1)) (hq : pc + 1 = q) : Sn (Jd p l e R s m args below meth c nL w cells slots Qm) pc (i_i2b q) := by
  subst hq
  intro k L sk h ht hk H locs ls hP hS hL
  revert ht
  unfold i_i2b
  split
  · intro ht
    exact lv_i2b X.1 X.2.1 hd rfl (hk _ ht H locs ls hP hS hL)
  · exact False.elim
theorem sn_i2s (X : Cxt p m c cc nL s args own w) (hd : decode cc pc = .ok (.i2s, 1)) (hq : pc + 1 = q) : Sn (Jd p l e R s m args below meth c nL w cells slots Qm) pc (i_i2s q) := by
  subst hq
  intro k L sk h ht hk H locs ls hP hS hL
  revert ht
  unfold i_i2s
  split
  · intro ht
    exact lv_i2s X.1 X.2.1 hd rfl (hk _ ht H locs ls hP hS hL)
  · exact False.elim
theorem sn_lcmp (X : Cxt p m c cc nL s args own w) (hd : decode cc pc = .ok (.lcmp, 1)) (hq : pc + 1 = q) : Sn (Jd p l e R s m args below meth c nL w cells slots Qm) pc (i_lcmp q) := by
  subst hq
  intro k L sk h ht hk H locs ls hP hS hL
  revert ht
  unfold i_lcmp
  split
  · intro ht
    exact W.lcmp X.1 X.2.1 hd (hk _ ht H locs ls hP hS hL)
  · exact False.elim
theorem sn_dup (X : Cxt p m c cc nL s args own w) (hd : decode cc pc = .ok (.dup, 1)) (hq : pc + 1 = q) : Sn (Jd p l e R s m args below meth c nL w cells slots Qm) pc (i_dup q) := by
  subst hq
  intro k L sk h ht hk H locs ls hP hS hL
  revert ht
  unfold i_dup
  split
  · intro ht
    exact lv_dup X.1 X.2.1 hd rfl (hk _ ht H locs ls hP hS hL)
  · intro ht
    exact lv_dup X.1 X.2.1 hd rfl (hk _ ht H locs ls hP hS hL)
  · exact False.elim
theorem sn_dup2 (X : Cxt p m c cc nL s args own w) (hd : decode cc pc = .ok (.dup2, 1)) (hq : pc + 1 = q) : Sn (Jd p l e R s m args below meth c nL w cells slots Qm) pc (i_dup2 q) := by
  subst hq
  intro k L sk h ht hk H locs ls hP hS hL
  revert ht
  unfold i_dup2
  split
  · intro ht
    exact lv_dup2_11 X.1 X.2.1 hd rfl rfl (hk _ ht H locs ls hP hS hL)
  · exact False.elim
theorem sn_goto (X : Cxt p m c cc nL s args own w) {off : Int} {t : Nat} (hd : decode cc pc = .ok (.goto off, 3)) (ht : (pc : Int) + off = (t : Int)) : Sn (Jd p l e R s m args below meth c nL w cells slots Qm) pc (i_goto t) := by
  intro k L sk h h1 hk H locs ls hP hS hL
  exact lv_goto X.1 X.2.1 hd ht (hk _ h1 H locs ls hP hS hL)
theorem sn_iconst (X : Cxt p m c cc nL s args own w) {n : Int} {v : Int32} (hd : decode cc pc = .ok (.iconst n, 1)) (hv : Int32.ofInt n = v) (hq : pc + 1 = q) : Sn (Jd p l e R s m args below meth c nL w cells slots Qm) pc (i_ic v q) := by
  subst hq
  intro k L sk h h1 hk H locs ls hP hS hL
  exact lv_iconst X.1 X.2.1 hd hv (hk _ h1 H locs ls hP hS hL)
theorem sn_bipush (X : Cxt p m c cc nL s args own w) {n : Int} {v : Int32} (hd : decode cc pc = .ok (.bipush n, 2)) (hv : (Int8.ofInt n).toInt32 = v) (hq : pc + 2 = q) : Sn (Jd p l e R s m args below meth c nL w cells slots Qm) pc (i_ic v q) := by
  subst hq
  intro k L sk h h1 hk H locs ls hP hS hL
  exact lv_bipush X.1 X.2.1 hd hv (hk _ h1 H locs ls hP hS hL)
theorem sn_sipush (X : Cxt p m c cc nL s args own w) {n : Int} {v : Int32} (hd : decode cc pc = .ok (.sipush n, 3)) (hv : (Int16.ofInt n).toInt32 = v) (hq : pc + 3 = q) : Sn (Jd p l e R s m args below meth c nL w cells slots Qm) pc (i_ic v q) := by
  subst hq
  intro k L sk h h1 hk H locs ls hP hS hL
  exact lv_sipush X.1 X.2.1 hd hv (hk _ h1 H locs ls hP hS hL)
theorem sn_lconst (X : Cxt p m c cc nL s args own w) {n : Fin 2} {v : Int64} (hd : decode cc pc = .ok (.lconst n, 1)) (hv : Int64.ofNat (n : Nat) = v) (hq : pc + 1 = q) : Sn (Jd p l e R s m args below meth c nL w cells slots Qm) pc (i_lc v q) := by
  subst hq
  intro k L sk h h1 hk H locs ls hP hS hL
  exact lv_lconst X.1 X.2.1 hd hv (hk _ h1 H locs ls hP hS hL)
theorem sn_ldc (X : Cxt p m c cc nL s args own w) {i : Nat} {v : Int32} (hd : decode cc pc = .ok (.ldc i, 2)) (hv : (Cond.constant own i v) ∈ lwG) (hq : pc + 2 = q) : Sn (Jd p l e R s m args below meth c nL w cells slots Qm) pc (i_ic v q) := by
  subst hq
  intro k L sk h h1 hk H locs ls hP hS hL
  exact lv_ldc X.1 X.2.1 X.2.2.2.1 (X.2.2.2.2.1 _ hv) hd (hk _ h1 H locs ls hP hS hL)
theorem sn_ldcw (X : Cxt p m c cc nL s args own w) {i : Nat} {v : Int32} (hd : decode cc pc = .ok (.ldc_w i, 3)) (hv : (Cond.constant own i v) ∈ lwG) (hq : pc + 3 = q) : Sn (Jd p l e R s m args below meth c nL w cells slots Qm) pc (i_ic v q) := by
  subst hq
  intro k L sk h h1 hk H locs ls hP hS hL
  exact lv_ldcw X.1 X.2.1 X.2.2.2.1 (X.2.2.2.2.1 _ hv) hd (hk _ h1 H locs ls hP hS hL)
theorem sn_ldc2 (X : Cxt p m c cc nL s args own w) {i : Nat} {v : Int64} (hd : decode cc pc = .ok (.ldc2_w i, 3)) (hv : (Cond.constantLong own i v) ∈ lwG) (hq : pc + 3 = q) : Sn (Jd p l e R s m args below meth c nL w cells slots Qm) pc (i_lc v q) := by
  subst hq
  intro k L sk h h1 hk H locs ls hP hS hL
  exact lv_ldc2 X.1 X.2.1 X.2.2.2.1 (X.2.2.2.2.1 _ hv) hd (hk _ h1 H locs ls hP hS hL)
theorem sn_iload_n (X : Cxt p m c cc nL s args own w) {n : Fin 4} {i : Nat} (hd : decode cc pc = .ok (.iload_n n, 1)) (hi : (n : Nat) = i) (hq : pc + 1 = q) : Sn (Jd p l e R s m args below meth c nL w cells slots Qm) pc (i_ild i q) := by
  subst hq
  intro k L sk h ht hk H locs ls hP hS hL
  revert ht
  unfold i_ild
  split
  · rename_i x hx
    intro ht
    exact lv_iload_n X.1 X.2.1 hd hi (hL.2.2.2 i _ hx) (hk _ ht H locs ls hP hS hL)
  · exact False.elim
theorem sn_iload (X : Cxt p m c cc nL s args own w) {i : Nat} (hd : decode cc pc = .ok (.iload i, 2)) (hq : pc + 2 = q) : Sn (Jd p l e R s m args below meth c nL w cells slots Qm) pc (i_ild i q) := by
  subst hq
  intro k L sk h ht hk H locs ls hP hS hL
  revert ht
  unfold i_ild
  split
  · rename_i x hx
    intro ht
    exact lv_iload X.1 X.2.1 hd (hL.2.2.2 i _ hx) (hk _ ht H locs ls hP hS hL)
  · exact False.elim
theorem sn_lload_n (X : Cxt p m c cc nL s args own w) {n : Fin 4} {i : Nat} (hd : decode cc pc = .ok (.lload_n n, 1)) (hi : (n : Nat) = i) (hq : pc + 1 = q) : Sn (Jd p l e R s m args below meth c nL w cells slots Qm) pc (i_lld i q) := by
  subst hq
  intro k L sk h ht hk H locs ls hP hS hL
  revert ht
  unfold i_lld
  split
  · rename_i x hx
    intro ht
    exact lv_lload_n X.1 X.2.1 hd hi (hL.2.2.2 i _ hx) (hk _ ht H locs ls hP hS hL)
  · exact False.elim
theorem sn_lload (X : Cxt p m c cc nL s args own w) {i : Nat} (hd : decode cc pc = .ok (.lload i, 2)) (hq : pc + 2 = q) : Sn (Jd p l e R s m args below meth c nL w cells slots Qm) pc (i_lld i q) := by
  subst hq
  intro k L sk h ht hk H locs ls hP hS hL
  revert ht
  unfold i_lld
  split
  · rename_i x hx
    intro ht
    exact lv_lload X.1 X.2.1 hd (hL.2.2.2 i _ hx) (hk _ ht H locs ls hP hS hL)
  · exact False.elim
theorem sn_aload_n (X : Cxt p m c cc nL s args own w) {n : Fin 4} {i : Nat} (hd : decode cc pc = .ok (.aload_n n, 1)) (hi : (n : Nat) = i) (hq : pc + 1 = q) : Sn (Jd p l e R s m args below meth c nL w cells slots Qm) pc (i_ald i q) := by
  subst hq
  intro k L sk h ht hk H locs ls hP hS hL
  revert ht
  unfold i_ald
  split
  · rename_i x hx
    intro ht
    exact lv_aload_n X.1 X.2.1 hd hi (hL.2.2.2 i _ hx) (hk _ ht H locs ls hP hS hL)
  · exact False.elim
theorem sn_aload (X : Cxt p m c cc nL s args own w) {i : Nat} (hd : decode cc pc = .ok (.aload i, 2)) (hq : pc + 2 = q) : Sn (Jd p l e R s m args below meth c nL w cells slots Qm) pc (i_ald i q) := by
  subst hq
  intro k L sk h ht hk H locs ls hP hS hL
  revert ht
  unfold i_ald
  split
  · rename_i x hx
    intro ht
    exact lv_aload X.1 X.2.1 hd (hL.2.2.2 i _ hx) (hk _ ht H locs ls hP hS hL)
  · exact False.elim
theorem sn_istore_n (X : Cxt p m c cc nL s args own w) {n : Fin 4} {i : Nat} (hd : decode cc pc = .ok (.istore_n n, 1)) (hi : (n : Nat) = i) (hq : pc + 1 = q) : Sn (Jd p l e R s m args below meth c nL w cells slots Qm) pc (i_ist i q) := by
  subst hq
  intro k L sk h ht hk H locs ls hP hS hL
  revert ht
  unfold i_ist
  split
  · intro ht
    exact lv_istore_n X.1 X.2.1 hd hi hL.has (Nat.lt_of_lt_of_le (lck_ok L i ht.1).1 hL.1) rfl (fun ls' h' => hk _ ht.2 H locs ls' hP hS (hL.set1 ht.1 h'))
  · exact False.elim
theorem sn_istore (X : Cxt p m c cc nL s args own w) {i : Nat} (hd : decode cc pc = .ok (.istore i, 2)) (hq : pc + 2 = q) : Sn (Jd p l e R s m args below meth c nL w cells slots Qm) pc (i_ist i q) := by
  subst hq
  intro k L sk h ht hk H locs ls hP hS hL
  revert ht
  unfold i_ist
  split
  · intro ht
    exact lv_istore X.1 X.2.1 hd hL.has (Nat.lt_of_lt_of_le (lck_ok L i ht.1).1 hL.1) rfl (fun ls' h' => hk _ ht.2 H locs ls' hP hS (hL.set1 ht.1 h'))
  · exact False.elim
theorem sn_astore_n (X : Cxt p m c cc nL s args own w) {n : Fin 4} {i : Nat} (hd : decode cc pc = .ok (.astore_n n, 1)) (hi : (n : Nat) = i) (hq : pc + 1 = q) : Sn (Jd p l e R s m args below meth c nL w cells slots Qm) pc (i_ast i q) := by
  subst hq
  intro k L sk h ht hk H locs ls hP hS hL
  revert ht
  unfold i_ast
  split
  · intro ht
    exact lv_astore_n X.1 X.2.1 hd hi hL.has (Nat.lt_of_lt_of_le (lck_ok L i ht.1).1 hL.1) rfl (fun ls' h' => hk _ ht.2 H locs ls' hP hS (hL.set1 ht.1 h'))
  · exact False.elim
theorem sn_astore (X : Cxt p m c cc nL s args own w) {i : Nat} (hd : decode cc pc = .ok (.astore i, 2)) (hq : pc + 2 = q) : Sn (Jd p l e R s m args below meth c nL w cells slots Qm) pc (i_ast i q) := by
  subst hq
  intro k L sk h ht hk H locs ls hP hS hL
  revert ht
  unfold i_ast
  split
  · intro ht
    exact lv_astore X.1 X.2.1 hd hL.has (Nat.lt_of_lt_of_le (lck_ok L i ht.1).1 hL.1) rfl (fun ls' h' => hk _ ht.2 H locs ls' hP hS (hL.set1 ht.1 h'))
  · exact False.elim
theorem sn_lstore_n (X : Cxt p m c cc nL s args own w) {n : Fin 4} {i : Nat} (hd : decode cc pc = .ok (.lstore_n n, 1)) (hi : (n : Nat) = i) (hq : pc + 1 = q) : Sn (Jd p l e R s m args below meth c nL w cells slots Qm) pc (i_lst i q) := by
  subst hq
  intro k L sk h ht hk H locs ls hP hS hL
  revert ht
  unfold i_lst
  split
  · intro ht
    exact lv_lstore_n X.1 X.2.1 hd hi hL.has (Nat.lt_of_lt_of_le ht.1.2 hL.1) rfl (fun ls' h' => hk _ ht.2 H locs ls' hP hS (hL.set2 ht.1.1 ht.1.2 h'))
  · exact False.elim
theorem sn_lstore (X : Cxt p m c cc nL s args own w) {i : Nat} (hd : decode cc pc = .ok (.lstore i, 2)) (hq : pc + 2 = q) : Sn (Jd p l e R s m args below meth c nL w cells slots Qm) pc (i_lst i q) := by
  subst hq
  intro k L sk h ht hk H locs ls hP hS hL
  revert ht
  unfold i_lst
  split
  · intro ht
    exact lv_lstore X.1 X.2.1 hd hL.has (Nat.lt_of_lt_of_le ht.1.2 hL.1) rfl (fun ls' h' => hk _ ht.2 H locs ls' hP hS (hL.set2 ht.1.1 ht.1.2 h'))
  · exact False.elim
theorem sn_iinc (X : Cxt p m c cc nL s args own w) {i : Nat} {n : Int} {v : Int32} (hd : decode cc pc = .ok (.iinc i n, 3)) (hv : Int32.ofInt n = v) (hq : pc + 3 = q) : Sn (Jd p l e R s m args below meth c nL w cells slots Qm) pc (i_inc i v q) := by
  subst hq
  subst hv
  intro k L sk h ht hk H locs ls hP hS hL
  revert ht
  unfold i_inc
  split
  · rename_i x hx
    intro ht
    obtain ⟨j, hj⟩ := List.getElem?_of_mem (asc_mem (w := w) (L := L) (q := (i, .int x)).mpr ⟨_, hx, rfl⟩)
    exact lv_iinc X.1 X.2.1 hd hL.has hj rfl (Nat.lt_of_lt_of_le (lck_ok L i ht.1).1 hL.1) rfl (fun ls' h' => hk _ ht.2 H locs ls' hP hS (hL.set1 ht.1 h'))
  · exact False.elim
theorem sn_if_eq (X : Cxt p m c cc nL s args own w) {off : Int} {t : Nat} (hd : decode cc pc = .ok (.ifCond .eq off, 3)) (ht : (pc : Int) + off = (t : Int)) (hq : pc + 3 = q) : Sn (Jd p l e R s m args below meth c nL w cells slots Qm) pc (i_if_eq t q) := by
  subst hq
  intro k L sk h h1 hk H locs ls hP hS hL
  revert h1
  unfold i_if_eq
  split
  · intro h1
    exact lv_if_eq X.1 X.2.1 hd ht (fun a => hk _ (h1.1 a) H locs ls hP hS hL) (fun a => hk _ (h1.2 a) H locs ls hP hS hL)
  · exact False.elim
theorem sn_icmp_eq (X : Cxt p m c cc nL s args own w) {off : Int} {t : Nat} (hd : decode cc pc = .ok (.if_icmp .eq off, 3)) (ht : (pc : Int) + off = (t : Int)) (hq : pc + 3 = q) : Sn (Jd p l e R s m args below meth c nL w cells slots Qm) pc (i_ic_eq t q) := by
  subst hq
  intro k L sk h h1 hk H locs ls hP hS hL
  revert h1
  unfold i_ic_eq
  split
  · intro h1
    exact lv_icmp_eq X.1 X.2.1 hd ht (fun a => hk _ (h1.1 a) H locs ls hP hS hL) (fun a => hk _ (h1.2 a) H locs ls hP hS hL)
  · exact False.elim
theorem sn_if_ne (X : Cxt p m c cc nL s args own w) {off : Int} {t : Nat} (hd : decode cc pc = .ok (.ifCond .ne off, 3)) (ht : (pc : Int) + off = (t : Int)) (hq : pc + 3 = q) : Sn (Jd p l e R s m args below meth c nL w cells slots Qm) pc (i_if_ne t q) := by
  subst hq
  intro k L sk h h1 hk H locs ls hP hS hL
  revert h1
  unfold i_if_ne
  split
  · intro h1
    exact lv_if_ne X.1 X.2.1 hd ht (fun a => hk _ (h1.1 a) H locs ls hP hS hL) (fun a => hk _ (h1.2 a) H locs ls hP hS hL)
  · exact False.elim
theorem sn_icmp_ne (X : Cxt p m c cc nL s args own w) {off : Int} {t : Nat} (hd : decode cc pc = .ok (.if_icmp .ne off, 3)) (ht : (pc : Int) + off = (t : Int)) (hq : pc + 3 = q) : Sn (Jd p l e R s m args below meth c nL w cells slots Qm) pc (i_ic_ne t q) := by
  subst hq
  intro k L sk h h1 hk H locs ls hP hS hL
  revert h1
  unfold i_ic_ne
  split
  · intro h1
    exact lv_icmp_ne X.1 X.2.1 hd ht (fun a => hk _ (h1.1 a) H locs ls hP hS hL) (fun a => hk _ (h1.2 a) H locs ls hP hS hL)
  · exact False.elim
theorem sn_if_lt (X : Cxt p m c cc nL s args own w) {off : Int} {t : Nat} (hd : decode cc pc = .ok (.ifCond .lt off, 3)) (ht : (pc : Int) + off = (t : Int)) (hq : pc + 3 = q) : Sn (Jd p l e R s m args below meth c nL w cells slots Qm) pc (i_if_lt t q) := by
  subst hq
  intro k L sk h h1 hk H locs ls hP hS hL
  revert h1
  unfold i_if_lt
  split
  · intro h1
    exact lv_if_lt X.1 X.2.1 hd ht (fun a => hk _ (h1.1 a) H locs ls hP hS hL) (fun a => hk _ (h1.2 a) H locs ls hP hS hL)
  · exact False.elim
theorem sn_icmp_lt (X : Cxt p m c cc nL s args own w) {off : Int} {t : Nat} (hd : decode cc pc = .ok (.if_icmp .lt off, 3)) (ht : (pc : Int) + off = (t : Int)) (hq : pc + 3 = q) : Sn (Jd p l e R s m args below meth c nL w cells slots Qm) pc (i_ic_lt t q) := by
  subst hq
  intro k L sk h h1 hk H locs ls hP hS hL
  revert h1
  unfold i_ic_lt
  split
  · intro h1
    exact lv_icmp_lt X.1 X.2.1 hd ht (fun a => hk _ (h1.1 a) H locs ls hP hS hL) (fun a => hk _ (h1.2 a) H locs ls hP hS hL)
  · exact False.elim
theorem sn_if_ge (X : Cxt p m c cc nL s args own w) {off : Int} {t : Nat} (hd : decode cc pc = .ok (.ifCond .ge off, 3)) (ht : (pc : Int) + off = (t : Int)) (hq : pc + 3 = q) : Sn (Jd p l e R s m args below meth c nL w cells slots Qm) pc (i_if_ge t q) := by
  subst hq
  intro k L sk h h1 hk H locs ls hP hS hL
  revert h1
  unfold i_if_ge
  split
  · intro h1
    exact lv_if_ge X.1 X.2.1 hd ht (fun a => hk _ (h1.1 a) H locs ls hP hS hL) (fun a => hk _ (h1.2 a) H locs ls hP hS hL)
  · exact False.elim
theorem sn_icmp_ge (X : Cxt p m c cc nL s args own w) {off : Int} {t : Nat} (hd : decode cc pc = .ok (.if_icmp .ge off, 3)) (ht : (pc : Int) + off = (t : Int)) (hq : pc + 3 = q) : Sn (Jd p l e R s m args below meth c nL w cells slots Qm) pc (i_ic_ge t q) := by
  subst hq
  intro k L sk h h1 hk H locs ls hP hS hL
  revert h1
  unfold i_ic_ge
  split
  · intro h1
    exact lv_icmp_ge X.1 X.2.1 hd ht (fun a => hk _ (h1.1 a) H locs ls hP hS hL) (fun a => hk _ (h1.2 a) H locs ls hP hS hL)
  · exact False.elim
theorem sn_if_gt (X : Cxt p m c cc nL s args own w) {off : Int} {t : Nat} (hd : decode cc pc = .ok (.ifCond .gt off, 3)) (ht : (pc : Int) + off = (t : Int)) (hq : pc + 3 = q) : Sn (Jd p l e R s m args below meth c nL w cells slots Qm) pc (i_if_gt t q) := by
  subst hq
  intro k L sk h h1 hk H locs ls hP hS hL
  revert h1
  unfold i_if_gt
  split
  · intro h1
    exact lv_if_gt X.1 X.2.1 hd ht (fun a => hk _ (h1.1 a) H locs ls hP hS hL) (fun a => hk _ (h1.2 a) H locs ls hP hS hL)
  · exact False.elim
theorem sn_icmp_gt (X : Cxt p m c cc nL s args own w) {off : Int} {t : Nat} (hd : decode cc pc = .ok (.if_icmp .gt off, 3)) (ht : (pc : Int) + off = (t : Int)) (hq : pc + 3 = q) : Sn (Jd p l e R s m args below meth c nL w cells slots Qm) pc (i_ic_gt t q) := by
  subst hq
  intro k L sk h h1 hk H locs ls hP hS hL
  revert h1
  unfold i_ic_gt
  split
  · intro h1
    exact lv_icmp_gt X.1 X.2.1 hd ht (fun a => hk _ (h1.1 a) H locs ls hP hS hL) (fun a => hk _ (h1.2 a) H locs ls hP hS hL)
  · exact False.elim
theorem sn_if_le (X : Cxt p m c cc nL s args own w) {off : Int} {t : Nat} (hd : decode cc pc = .ok (.ifCond .le off, 3)) (ht : (pc : Int) + off = (t : Int)) (hq : pc + 3 = q) : Sn (Jd p l e R s m args below meth c nL w cells slots Qm) pc (i_if_le t q) := by
  subst hq
  intro k L sk h h1 hk H locs ls hP hS hL
  revert h1
  unfold i_if_le
  split
  · intro h1
    exact lv_if_le X.1 X.2.1 hd ht (fun a => hk _ (h1.1 a) H locs ls hP hS hL) (fun a => hk _ (h1.2 a) H locs ls hP hS hL)
  · exact False.elim
theorem sn_icmp_le (X : Cxt p m c cc nL s args own w) {off : Int} {t : Nat} (hd : decode cc pc = .ok (.if_icmp .le off, 3)) (ht : (pc : Int) + off = (t : Int)) (hq : pc + 3 = q) : Sn (Jd p l e R s m args below meth c nL w cells slots Qm) pc (i_ic_le t q) := by
  subst hq
  intro k L sk h h1 hk H locs ls hP hS hL
  revert h1
  unfold i_ic_le
  split
  · intro h1
    exact lv_icmp_le X.1 X.2.1 hd ht (fun a => hk _ (h1.1 a) H locs ls hP hS hL) (fun a => hk _ (h1.2 a) H locs ls hP hS hL)
  · exact False.elim
end SND
