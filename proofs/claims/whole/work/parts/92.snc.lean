/-! calls, returns, contracts -/
def Pcx (w : WD) (av : List Value) (h : Hp) : Array Value → State → Prop := fun v U => v = (av.map (cv (wad w))).toArray ∧ va_P (wD w) clsT (wsO w h) U.heap ∧ Gst w U
def Qcx (w : WD) (Q : Po) : Array Value → State → Outcome → State → Prop := fun _ st oc t => (∃ (v : Option Value) (h1 : Hp), oc = .returned (v.map (cv (wad w))) ∧ Q v h1 ∧ va_P (wD w) clsT (wsO w h1) t.heap) ∧ va_F (wA w) st t
def rmd (d : Nat) : Room := { frames := d, cells := 0, slots := 0, locals := 60 * d }
/-- a method's contract at depth d -/
def Ct (l : Launch) (y : MethodName) (bytes : ByteArray) (maxL : Nat) (ret : Option FieldType) (d : Nat) (S : Sp) : Prop :=
  ∀ (w : WD) (av : List Value) (h : Hp) (Q : Po), S av h Q → Met l y (Cond.code y bytes maxL ret :: lwG) (rmd d) (Pcx w av h) (Qcx w Q) 0 0 (wA w)
theorem Pcx.blind (w : WD) (av : List Value) (h : Hp) : FrameBlind (Pcx w av h) := fun a U g mk q => ⟨q.1, q.2.1, q.2.2.go (V := U.calling g mk a) (State.WarmedH.refl U) (Nat.le_refl _) (fun _ _ _ => rfl)⟩
theorem pops_spec : ∀ (n : Nat) (acc sk av r : List Value), pops n acc sk = some (av, r) → ∃ as, av = as ++ acc ∧ sk = as.reverse ++ r ∧ as.length = n
  | 0, acc, sk, av, r, h => by cases h; exact ⟨[], rfl, rfl, rfl⟩
  | n + 1, acc, [], av, r, h => by simp [pops] at h
  | n + 1, acc, v :: sk, av, r, h => by
    obtain ⟨as, h1, h2, h3⟩ := pops_spec n (v :: acc) sk av r h
    exact ⟨as ++ [v], by rw [h1]; simp, by rw [h2]; simp, by simp [h3]⟩
theorem psh_cv (ad : Nat → Nat) (v : Option Value) (r : List Value) : (psh v r).map (cv ad) = (v.map (cv ad)).toList ++ r.map (cv ad) := by
  cases v <;> rfl
theorem goodC {x : Cond} (g : x ∈ lwG) : GoodIn lwG (x :: lwG) := by
  intro y hy
  rcases List.mem_cons.mp hy with e | e
  · rw [e]
    exact ⟨g, good_of_word (List.mem_filter.mp g).2⟩
  · exact goodG y e
section SNC
variable {p : Program} {l : Launch} {e : Env} {R : Room} {s : State} {m : MethodId} {args : Array Value} {below : List Frame} {meth : Method} {c : Code} {cc : ByteArray} {nL : Nat} {own : String} {w : WD} {cells slots : Nat} {Qm : State → Prop} {pc q : Nat}

/-- behind a call: what came back -/
theorem call_go {av r : List Value} {L : Lo} {sk : List Value} {h : Hp} {Q : Po} {k : St → Prop} (hQ : Q = fun v h1 => k (pc + 3, L, psh v r, h1)) (hk : ∀ st, k st → (Jd p l e R s m args below meth c nL w cells slots Qm) st) {H : Heap} {locs : List Loc} {ls : Array Slot} {a : Array Value} {st0 : List Value} (hS : va_S (wA w) s.heap H locs) (hL : Lok w nL ls L)
    (hr : va_Run p l e R s m args below meth c H locs cells slots 0 0 (F0 m pc ls st0) (r.map (cv (wad w))) (Qcx w Q a) (wA w)) : W p l e R s m args below meth c H locs cells slots Qm (F0 m pc ls st0) := by
  subst hQ
  intro T hT X
  obtain ⟨v, st₀, t, T', L1, h0, X', hL1, e1, e2, ⟨⟨v1, h1, hv, hp, hb⟩, hz, hk1⟩, st⟩ := hr T hT X
  cases hv
  rw [h0] at hz hk1
  have hS1 : va_S (wA w) s.heap T'.heap (locs ++ L1) := ⟨Nat.le_trans hS.1 (by rw [e1]; exact hz), fun q h1 h2 => by rw [e1, hk1 q (Nat.lt_of_lt_of_le h1 hS.1) h2]; exact hS.2.1 q h1 h2, fun q hq => by
      rcases List.mem_append.mp hq with h | h
      · exact hS.2.2 q h
      · exact hL1 q h⟩
  obtain ⟨t2, a1, b1⟩ := hk _ hp T'.heap (locs ++ L1) ls (by rw [e1]; exact hb) hS1 hL T' rfl X'
  exact ⟨t2, st t2 (by rw [psh_cv] at a1; exact a1), b1⟩
theorem pre_at (hG : Gst w s) {H : Heap} {locs : List Loc} (hS : va_S (wA w) s.heap H locs) {U : State} (hU : U.heap = H) (hW : s.WarmedH U.vm) : Gst w U := hG.go hW (by rw [hU]; exact hS.1) (fun q h1 h2 => by rw [hU]; exact hS.2.1 q h1 h2)
theorem sn_cV (X : Cxt p m c cc nL s args own w) {y : MethodName} {bytes : ByteArray} {maxL i n ci d : Nat} {ret : Option FieldType} {S : Sp} {T : u_T} {N : Nat} (hM : Ct l y bytes maxL ret d S) (hT : clsT[ci]? = some (y.cls, T, N))
    (g1 : Cond.methodLink own i y ∈ lwG) (g2 : Cond.instanceMethod y ∈ lwG) (g3 : Cond.selects y.cls y y ∈ lwG) (g4 : Cond.initialized y.cls ∈ lwG) (g5 : Cond.code y bytes maxL ret ∈ lwG)
    (hy : y.cls ≠ "java/lang/invoke/MethodHandle" ∧ y.cls ≠ "java/lang/invoke/VarHandle" ∧ (parseMethodDescriptor y.desc).map (fun d => d.parameters.length) = some n) (hR : d + 1 ≤ R.frames ∧ 8 + (maxL + 11) + 60 * d ≤ R.locals) (hcs : cells ≤ R.cells ∧ slots ≤ R.slots)
    (hd : decode cc pc = .ok (.invokevirtual i, 3)) (hq : pc + 3 = q) : Sn (Jd p l e R s m args below meth c nL w cells slots Qm) pc (i_cV n ci S q) := by
  subst hq
  intro k L sk h ht hk H locs ls hP hS hL
  revert ht
  unfold i_cV
  split
  · rename_i pp as r hpop
    intro ht
    obtain ⟨hx, hb, hml, hown, hts, hG⟩ := X
    obtain ⟨as0, e1, e2, e3⟩ := pops_spec _ _ _ _ _ hpop
    rw [List.append_nil] at e1
    subst e1
    have hp := ocl_lt _ _ ht.1
    have he : (wsO w h)[pp]? = some (wad w pp, .inr (ci, (List.range (nfl.getD ci 0)).map (fun k => cv (wad w) (fv pp k h)))) := by
      rw [ws_at w h hp, en1_obj ht.1]
    have hst : sk.map (cv (wad w)) = (as.map (cv (wad w))).reverse ++ .ref (wad w pp) :: r.map (cv (wad w)) := by
      rw [e2]; simp [cv]
    have hW : 2 * (F0 m pc ls (sk.map (cv (wad w)))).monitorRoom + ((r.map (cv (wad w))).map fun v => v.category).sum ≤ 8 := lv_room (by rw [csum_eq]; exact ht.2.1)
    have cw : CallW R s args own y.cls i y bytes maxL ret (Cond.code y bytes maxL ret :: lwG) (rmd d) 0 0 n :=
      ⟨callB_of n hts (goodC g5) rfl rfl rfl (hts _ g4) (hts _ g1) hy hR, hts _ g2, hts _ g3⟩
    refine call_go (av := .ref pp :: as) (r := r) (L := L) (sk := sk) (h := h) rfl hk hS hL (a := (Value.ref (wad w pp) :: as.map (cv (wad w))).toArray) ?_
    exact va_runV (Ts := lwG) (As := as.map (cv (wad w))) ⟨hx, hb, hml, hown, hts⟩ (hM w (.ref pp :: as) h _ ht.2.2) cw ⟨Pcx.blind w _ h, va_recv hG.1 hP hT he, fun U hU hW => ⟨rfl, by rw [hU]; exact hP, pre_at hG hS hU hW⟩⟩ rfl (by rw [List.length_map]; simpa using e3) hL.2.1 hst hW hd ⟨hcs.1, hcs.2⟩
  · exact False.elim
theorem sn_cS0 (X : Cxt p m c cc nL s args own w) {y : MethodName} {bytes : ByteArray} {maxL i n d : Nat} {ret : Option FieldType} {S : Sp} (hM : Ct l y bytes maxL ret d S)
    (run : ∀ (H : Heap) (locs : List Loc) (ls : Array Slot) (As rest : List Value) (Pc : Array Value → State → Prop) (Qc : Array Value → State → Outcome → State → Prop), Met l y (Cond.code y bytes maxL ret :: lwG) (rmd d) Pc Qc 0 0 (wA w) → PreS s H Pc As → As.length = n → ls.size = nL → 2 * (F0 m pc ls (As.reverse ++ rest)).monitorRoom + (rest.map fun v => v.category).sum ≤ 8 → va_Run p l e R s m args below meth c H locs cells slots 0 0 (F0 m pc ls (As.reverse ++ rest)) rest (Qc As.toArray) (wA w)) (hq : pc + 3 = q) : Sn (Jd p l e R s m args below meth c nL w cells slots Qm) pc (i_cS n S q) := by
  subst hq
  intro k L sk h ht hk H locs ls hP hS hL
  revert ht
  unfold i_cS
  split
  · rename_i av r hpop
    intro ht
    obtain ⟨hx, hb, hml, hown, hts, hG⟩ := X
    obtain ⟨as0, e1, e2, e3⟩ := pops_spec _ _ _ _ _ hpop
    rw [List.append_nil] at e1
    subst e1
    have hst : sk.map (cv (wad w)) = (av.map (cv (wad w))).reverse ++ r.map (cv (wad w)) := by
      rw [e2]; simp
    show W p l e R s m args below meth c H locs cells slots Qm (F0 m pc ls (sk.map (cv (wad w))))
    rw [hst]
    refine call_go (av := av) (r := r) (L := L) (sk := sk) (h := h) rfl hk hS hL (a := (av.map (cv (wad w))).toArray) ?_
    exact run H locs ls (av.map (cv (wad w))) (r.map (cv (wad w))) _ _ (hM w av h _ ht.2) ⟨Pcx.blind w _ h, fun U hU hW => ⟨rfl, by rw [hU]; exact hP, pre_at hG hS hU hW⟩⟩ (by rw [List.length_map]; exact e3) hL.2.1 (lv_room (by rw [csum_eq]; exact ht.1))
  · exact False.elim
theorem sn_cS (X : Cxt p m c cc nL s args own w) {y : MethodName} {bytes : ByteArray} {maxL i n d : Nat} {ret : Option FieldType} {S : Sp} (hM : Ct l y bytes maxL ret d S)
    (g1 : Cond.methodLink own i y ∈ lwG) (g3 : Cond.static y ∈ lwG) (g4 : Cond.initialized y.cls ∈ lwG) (g5 : Cond.code y bytes maxL ret ∈ lwG)
    (hy : y.cls ≠ "java/lang/invoke/MethodHandle" ∧ y.cls ≠ "java/lang/invoke/VarHandle" ∧ (parseMethodDescriptor y.desc).map (fun d => d.parameters.length) = some n) (hR : d + 1 ≤ R.frames ∧ 8 + (maxL + 11) + 60 * d ≤ R.locals) (hcs : cells ≤ R.cells ∧ slots ≤ R.slots)
    (hd : decode cc pc = .ok (.invokestatic i, 3)) (hq : pc + 3 = q) : Sn (Jd p l e R s m args below meth c nL w cells slots Qm) pc (i_cS n S q) := by
  refine sn_cS0 X (i := i) hM (fun H locs ls As rest Pc Qc hMet hp hn hs hW => ?_) hq
  obtain ⟨hx, hb, hml, hown, hts, hG⟩ := X
  exact va_runS (Ts := lwG) ⟨hx, hb, hml, hown, hts⟩ hMet ⟨callB_of n hts (goodC g5) rfl rfl rfl (hts _ g4) (hts _ g1) hy hR, hts _ g3⟩ hp rfl hn hs rfl hW hd ⟨hcs.1, hcs.2⟩
theorem sn_cSN (X : Cxt p m c cc nL s args own w) {y : MethodName} {bytes : ByteArray} {maxL i n d : Nat} {ret : Option FieldType} {S : Sp} {host : String} (hM : Ct l y bytes maxL ret d S)
    (g1 : va_Nw (.methodLinkNest own i y host) s) (g3 : Cond.static y ∈ lwG) (g4 : Cond.initialized y.cls ∈ lwG) (g5 : Cond.code y bytes maxL ret ∈ lwG)
    (hy : y.cls ≠ "java/lang/invoke/MethodHandle" ∧ y.cls ≠ "java/lang/invoke/VarHandle" ∧ (parseMethodDescriptor y.desc).map (fun d => d.parameters.length) = some n) (hR : d + 1 ≤ R.frames ∧ 8 + (maxL + 11) + 60 * d ≤ R.locals) (hcs : cells ≤ R.cells ∧ slots ≤ R.slots)
    (hd : decode cc pc = .ok (.invokestatic i, 3)) (hq : pc + 3 = q) : Sn (Jd p l e R s m args below meth c nL w cells slots Qm) pc (i_cS n S q) := by
  refine sn_cS0 X (i := i) hM (fun H locs ls As rest Pc Qc hMet hp hn hs hW => ?_) hq
  obtain ⟨hx, hb, hml, hown, hts, hG⟩ := X
  exact va_runSN (Ts := lwG) ⟨hx, hb, hml, hown, hts⟩ hMet ⟨va_cnB n hts (goodC g5) rfl rfl rfl g1 (hts _ g4) hy hR, hts _ g3, trivial⟩ hp rfl hn hs rfl hW hd ⟨hcs.1, hcs.2⟩
/-- returns of a method under contract -/
theorem sn_iret (X : Cxt p m c cc nL s args own w) {Q : Po} (hr : meth.sig.returnType = some .int) (hlk : meth.locks = false) (hd : decode cc pc = .ok (.ireturn, 1)) (hQm : Qm = MQ below (Qcx w Q) args s cells slots (wA w)) : Sn (Jd p l e R s m args below meth c nL w cells slots Qm) pc (i_iret Q) := by
  subst hQm
  intro k L sk h ht hk H locs ls hP hS hL
  revert ht
  unfold i_iret
  split
  · rename_i x
    intro ht
    exact W.iret X.1 X.2.1 hr (fun t htt hW => ⟨⟨some (.int x), h, rfl, ht, by rw [htt]; exact hP⟩, hS.F htt⟩) hS.2.2 hd hlk
  · exact False.elim
theorem sn_zret (X : Cxt p m c cc nL s args own w) {Q : Po} (hr : meth.sig.returnType = some .boolean) (hlk : meth.locks = false) (hd : decode cc pc = .ok (.ireturn, 1)) (hQm : Qm = MQ below (Qcx w Q) args s cells slots (wA w)) : Sn (Jd p l e R s m args below meth c nL w cells slots Qm) pc (i_zret Q) := by
  subst hQm
  intro k L sk h ht hk H locs ls hP hS hL
  revert ht
  unfold i_zret
  split
  · rename_i x
    intro ht
    exact W.zret X.1 X.2.1 hr (by rcases ht.1 with e | e <;> rw [e] <;> decide +kernel) (fun t htt hW => ⟨⟨some (.int x), h, rfl, ht.2, by rw [htt]; exact hP⟩, hS.F htt⟩) hS.2.2 hd hlk
  · exact False.elim
theorem sn_lret (X : Cxt p m c cc nL s args own w) {Q : Po} (hr : meth.sig.returnType = some .long) (hlk : meth.locks = false) (hd : decode cc pc = .ok (.lreturn, 1)) (hQm : Qm = MQ below (Qcx w Q) args s cells slots (wA w)) : Sn (Jd p l e R s m args below meth c nL w cells slots Qm) pc (i_lret Q) := by
  subst hQm
  intro k L sk h ht hk H locs ls hP hS hL
  revert ht
  unfold i_lret
  split
  · rename_i x
    intro ht
    exact W.lret X.1 X.2.1 hr (fun t htt hW => ⟨⟨some (.long x), h, rfl, ht, by rw [htt]; exact hP⟩, hS.F htt⟩) hS.2.2 hd hlk
  · exact False.elim
theorem sn_vret (X : Cxt p m c cc nL s args own w) {Q : Po} (hr : meth.sig.returnType = none) (hlk : meth.locks = false) (hd : decode cc pc = .ok (.return_, 1)) (hQm : Qm = MQ below (Qcx w Q) args s cells slots (wA w)) : Sn (Jd p l e R s m args below meth c nL w cells slots Qm) pc (i_vret Q) := by
  subst hQm
  intro k L sk h ht hk H locs ls hP hS hL
  revert ht
  unfold i_vret
  split
  · intro ht
    exact W.vret X.1 X.2.1 hr (fun t htt hW => ⟨⟨none, h, rfl, ht, by rw [htt]; exact hP⟩, hS.F htt⟩) hS.2.2 hd hlk
  · exact False.elim
theorem sn_sw_t (X : Cxt p m c cc nL s args own w) {dflt lo hi : Int} {offs : Array Int} {len : Nat} {cs : List (Int32 × Nat)} {dd : Nat} (hd : decode cc pc = .ok (.tableswitch dflt lo hi offs, len)) (h1 : (pc : Int) + dflt = (dd : Int)) (h2 : offs.size = (hi - lo + 1).toNat)
    (h3 : (List.range offs.size).all (fun j => (offs[j]?).any (fun o => cs.any (fun z => decide (z.1 = Int32.ofInt (lo + j) ∧ (pc : Int) + o = (z.2 : Int))))) = true) (h4 : cs.all (fun z => decide (lo ≤ z.1.toInt ∧ z.1.toInt ≤ hi)) = true) : Sn (Jd p l e R s m args below meth c nL w cells slots Qm) pc (i_sw cs dd) := by
  intro k L sk h ht hk H locs ls hP hS hL
  revert ht
  unfold i_sw
  split
  · rename_i x r
    intro ht
    by_cases hin : x.toInt < lo ∨ hi < x.toInt
    · exact lv_tableOut X.1 X.2.1 hd hin h1 (hk _ (ht.2 (fun z hz e => by have := of_decide_eq_true (List.all_eq_true.mp h4 z hz); rw [← e] at this; omega)) H locs ls hP hS hL)
    · have a1 : ¬ x.toInt < lo := fun e => hin (Or.inl e)
      have a2 : ¬ hi < x.toInt := fun e => hin (Or.inr e)
      have b0 := List.all_eq_true.mp h3 (x.toInt - lo).toNat (List.mem_range.mpr (by rw [h2]; omega))
      rw [Option.any_eq_true] at b0
      obtain ⟨o, b1, b5⟩ := b0
      obtain ⟨z, b2, b6⟩ := List.any_eq_true.mp b5
      obtain ⟨b3, b4⟩ := of_decide_eq_true b6
      have ex : x = z.1 := by
        rw [b3, show lo + ((x.toInt - lo).toNat : Int) = x.toInt by omega]
        simp
      exact lv_tableIn X.1 X.2.1 hd a1 a2 b1 b4 (hk _ (ht.1 z b2 ex) H locs ls hP hS hL)
  · exact False.elim
theorem lsw {pc : Nat} {d : Int} (x : Int32) : ∀ (l : List (Int × Int)) (cs : List (Int32 × Nat)), l.map (fun a => (Int32.ofInt a.1, (pc : Int) + a.2)) = cs.map (fun z => (z.1, (z.2 : Int))) → l.all (fun a => decide ((Int32.ofInt a.1).toInt = a.1)) = true → (∃ z, z ∈ cs ∧ x = z.1 ∧ (pc : Int) + Op.lookupswitch.offset l d x.toInt = (z.2 : Int)) ∨ ((∀ z ∈ cs, ¬ x = z.1) ∧ Op.lookupswitch.offset l d x.toInt = d)
  | [], [], _, _ => Or.inr ⟨fun z hz => absurd hz List.not_mem_nil, rfl⟩
  | [], z :: cs, h, _ => by cases h
  | a :: l, [], h, _ => by cases h
  | a :: l, z :: cs, h, hr => by
    simp only [List.map_cons, List.cons.injEq] at h
    simp only [List.all_cons, Bool.and_eq_true, decide_eq_true_eq] at hr
    obtain ⟨e, h⟩ := h
    have e1 : Int32.ofInt a.1 = z.1 := congrArg Prod.fst e
    have e2 : (pc : Int) + a.2 = (z.2 : Int) := congrArg Prod.snd e
    obtain ⟨a1, a2⟩ := a
    rw [Op.lookupswitch.offset_cons]
    by_cases hx : a1 = x.toInt
    · refine Or.inl ⟨z, List.mem_cons_self, ?_, by rw [if_pos hx]; exact e2⟩
      rw [← e1]
      show x = Int32.ofInt a1
      rw [hx]; simp
    · rw [if_neg hx]
      have hne : ¬ x = z.1 := fun q => hx (by rw [q, ← e1]; exact hr.1.symm)
      rcases lsw x l cs h hr.2 with ⟨y, y1, y2, y3⟩ | ⟨y1, y2⟩
      · exact Or.inl ⟨y, List.mem_cons_of_mem _ y1, y2, y3⟩
      · refine Or.inr ⟨fun y hy => ?_, y2⟩
        rcases List.mem_cons.mp hy with q | q
        · rw [q]; exact hne
        · exact y1 y q
theorem sn_sw_l (X : Cxt p m c cc nL s args own w) {dflt : Int} {ps : Array (Int × Int)} {len : Nat} {cs : List (Int32 × Nat)} {dd : Nat} (hd : decode cc pc = .ok (.lookupswitch dflt ps, len)) (h1 : (pc : Int) + dflt = (dd : Int)) (h0 : (ps.toList.zip (ps.toList.drop 1)).all (fun (a, next) => a.1 < next.1) = true)
    (hm : ps.toList.map (fun a => (Int32.ofInt a.1, (pc : Int) + a.2)) = cs.map (fun z => (z.1, (z.2 : Int)))) (hr : ps.toList.all (fun a => decide ((Int32.ofInt a.1).toInt = a.1)) = true) : Sn (Jd p l e R s m args below meth c nL w cells slots Qm) pc (i_sw cs dd) := by
  intro k L sk h ht hk H locs ls hP hS hL
  revert ht
  unfold i_sw
  split
  · rename_i x r
    intro ht
    rcases lsw (d := dflt) x ps.toList cs hm hr with ⟨z, a1, a2, a4⟩ | ⟨a1, a2⟩
    · exact lv_lookup X.1 X.2.1 hd h0 rfl a4 (hk _ (ht.1 z a1 a2) H locs ls hP hS hL)
    · exact lv_lookup X.1 X.2.1 hd h0 a2 h1 (hk _ (ht.2 a1) H locs ls hP hS hL)
  · exact False.elim
end SNC

theorem lay0_len : ∀ av : List Value, (lay0 av).length = (lg_sl av).length
  | [] => rfl
  | v :: r => by
    have := lay0_len r
    unfold lay0
    simp only [lg_sl, List.flatMap_cons] at this ⊢
    split <;> simp [this]
theorem lg_sl_cv (ad : Nat → Nat) : ∀ av : List Value, (lg_sl (av.map (cv ad))).length = (lg_sl av).length
  | [] => rfl
  | v :: r => by
    have := lg_sl_cv ad r
    simp only [lg_sl, List.map_cons, List.flatMap_cons, cv_cat, List.length_append] at this ⊢
    rw [this]
    split <;> rfl
theorem lay0_in (ad : Nat → Nat) : ∀ (av : List Value) (o i : Nat) (v : Value), (lay0 av)[i]? = some (some v) → (i + o, cv ad v) ∈ lv_args o (av.map (cv ad))
  | [], o, i, v, h => by simp [lay0] at h
  | u :: r, o, i, v, h => by
    simp only [List.map_cons, lv_args, cv_cat]
    unfold lay0 at h
    split at h
    · rename_i hc
      rw [if_pos hc]
      cases i with
      | zero =>
        simp only [List.getElem?_cons_zero, Option.some.injEq] at h
        rw [← h, Nat.zero_add]
        exact List.mem_cons_self
      | succ i =>
        rw [List.getElem?_cons_succ] at h
        cases i with
        | zero => simp at h
        | succ i =>
          rw [List.getElem?_cons_succ] at h
          have := lay0_in ad r (o + 2) i v h
          rw [show i + 1 + 1 + o = i + (o + 2) by omega]
          exact List.mem_cons_of_mem _ this
    · rename_i hc
      rw [if_neg hc]
      cases i with
      | zero =>
        simp only [List.getElem?_cons_zero, Option.some.injEq] at h
        rw [← h, Nat.zero_add]
        exact List.mem_cons_self
      | succ i =>
        rw [List.getElem?_cons_succ] at h
        have := lay0_in ad r (o + 1) i v h
        rw [show i + 1 + o = i + (o + 1) by omega]
        exact List.mem_cons_of_mem _ this
theorem Lok_ent {w : WD} {nL : Nat} {av : List Value} {ls : Array Slot} (hn : (lay0 av).length ≤ nL) (hl : lv_has ls nL (lv_args 0 (av.map (cv (wad w))))) : Lok w nL ls (ent nL av) := by
  refine ⟨by unfold ent; rw [List.length_append, List.length_replicate]; omega, hl.1, hl.2.1, fun i v h => ?_⟩
  unfold ent at h
  by_cases hi : i < (lay0 av).length
  · rw [List.getElem?_append_left hi] at h
    exact hl.2.2 (i, cv (wad w) v) (lay0_in (wad w) av 0 i v h)
  · rw [List.getElem?_append_right (by omega)] at h
    have := List.mem_of_getElem? h
    rw [List.mem_replicate] at this
    cases this.2
/-- a contract out of the pure run and the soundness of the step table -/
theorem Ct_of {l : Launch} {y : MethodName} {bytes : ByteArray} {maxL : Nat} {ret : Option FieldType} {d : Nat} {S : Sp} {T : Po → Nat → Tr} (hy : plainName y.cls = true)
    (hs : ∀ (p : Program) (e : Env) (s : State) (m : MethodId) (args : Array Value) (below : List Frame) (meth : Method) (c : Code) (w : WD) (Q : Po), Cxt p m c bytes maxL s args y.cls w → meth.sig.returnType = ret → meth.locks = false → Cl (T Q) (Jd p l e (rmd d) s m args below meth c maxL w 0 0 (MQ below (Qcx w Q) args s 0 0 (wA w))))
    (hr : ∀ (av : List Value) (h : Hp) (Q : Po), S av h Q → (lay0 av).length ≤ maxL ∧ Rn (T Q) (0, ent maxL av, [], h)) : Ct l y bytes maxL ret d S := by
  intro w av h Q hS
  obtain ⟨hn, hR⟩ := hr av h Q hS
  refine Met.ofW (cc := bytes) (maxL := maxL) (ret := ret) hy rfl ?_
  intro p e s m args below meth c s₁ B hml hv
  obtain ⟨rfl, hP, hG⟩ := hv
  have hts := atoms_spec (ws := Cond.code y bytes maxL ret :: lwG) B.pre
  have X : Cxt p m c bytes maxL s (av.map (cv (wad w))).toArray y.cls w := ⟨B.exec, B.bytes, hml, findClass_of_methodNamed B.named, fun x hx => hts x (List.mem_cons_of_mem _ hx), hG⟩
  have hl := lv_entry (av.map (cv (wad w))) (n := maxL) (by rw [lg_sl_cv, ← lay0_len]; exact hn)
  rw [lg_entry_eq]
  exact hR _ (hs p e s m _ below meth c w Q X B.returns B.notSynchronized) s.heap [] _ hP va_S.rf (Lok_ent hn hl)
