/-! arraycopy, String constants -/
theorem arg_in : arraycopyName.cls = "java/lang/System" := rfl
theorem stc_ok {pp : Nat} {t : List Nat} (h : stc pp = some t) : ∃ j, j < 16 ∧ pp = 200 + j ∧ strs[j]? = some t := by
  unfold stc at h
  split at h
  · cases h
  · refine ⟨pp - 200, ?_, by omega, h⟩
    have := (List.getElem?_eq_some_iff.mp h).1
    exact this
theorem sba_ok {pp : Nat} {t : List Nat} (h : sba pp = some t) : ∃ j, j < 16 ∧ pp = 300 + j ∧ strs[j]? = some t := by
  unfold sba at h
  split at h
  · cases h
  · refine ⟨pp - 300, ?_, by omega, h⟩
    have := (List.getElem?_eq_some_iff.mp h).1
    exact this
theorem lenS_at {j : Nat} {t : List Nat} (h : strs[j]? = some t) : lenS.getD j 0 = t.length := by
  simp [lenS, h]
theorem bytS_at {j : Nat} {t : List Nat} (h : strs[j]? = some t) (i : Nat) : (bytS.getD j []).getD i 0 = nI (t.getD i 0) := by
  simp only [bytS, List.getD_eq_getElem?_getD, List.getElem?_map, h, Option.map_some, Option.getD_some]
  cases t[i]? <;> rfl
section SNS
variable {p : Program} {l : Launch} {e : Env} {R : Room} {s : State} {m : MethodId} {args : Array Value} {below : List Frame} {meth : Method} {c : Code} {cc : ByteArray} {nL : Nat} {own : String} {w : WD} {cells slots : Nat} {Qm : State → Prop} {pc q : Nat}

theorem sn_copy (X : Cxt p m c cc nL s args own w) {i : Nat} (hl : Cond.methodLink own i arraycopyName ∈ lwG) (hn : Cond.native arraycopyName ∈ lwG) (hst : Cond.static arraycopyName ∈ lwG) (hi : Cond.initialized "java/lang/System" ∈ lwG) (hR : 1 ≤ R.frames ∧ 8 + (nativeFrameWords "java/lang/System" "arraycopy" 5 + 11) ≤ R.locals) (hd : decode cc pc = .ok (.invokestatic i, 3)) (hq : pc + 3 = q) : Sn (Jd p l e R s m args below meth c nL w cells slots Qm) pc (i_copy q) := by
  subst hq
  intro k L sk h ht hk H locs ls hP hS hL
  revert ht
  unfold i_copy
  split
  · rename_i n dp dd sp pp r
    split
    · rename_i a mm ha hm
      intro ht
      obtain ⟨hx, hb, hml, hown, hts, hG⟩ := X
      obtain ⟨hc, ⟨b1, b2, b3, b4, b5⟩, hkk⟩ := ht
      have hloc : ((r.map (cv (wad w))).map fun v => v.category).sum + (nativeFrameWords "java/lang/System" "arraycopy" 5 + 11) ≤ R.locals := by
        rw [csum_eq]; omega
      have hd1 : (wsO w h)[dd]? = some (wad w dd, .inl (wI w, mm, .inl (h dd))) := by rw [ws_at w h (alen_lt _ _ hm), en1_arr hm]
      rcases rdA_some ha with ⟨h1, h2⟩ | ⟨t, h1, h2⟩
      · have hs1 : (wsO w h)[pp]? = some (wad w pp, .inl (wI w, a.1, .inl (h pp))) := by rw [ws_at w h (alen_lt _ _ h1), en1_arr h1]
        refine va_copyi hx hb (hml.trans hL.2.1.symm) hown (hts _ hl) (hts _ hn) (hts _ hst) (hts _ hi) hG.1 hP (ws_D hG h) hS pp dd 0 0 hs1 hd1 rfl rfl rfl b1 b2 b3 b4 b5 (fun _ _ => rfl) hR.1 hloc hd (fun H1 locs1 hP1 hD1 hS1 => ?_)
        rw [ws_set (g := upA h dd (va_cpy a.2 (h dd) sp.toNatClampNeg dp.toNatClampNeg n.toNatClampNeg)) (by rw [en1_arr hm, upA_self, h2]) (fun q hq => upA_ne hq)] at hP1
        exact hk _ hkk H1 locs1 ls hP1 hS1 hL
      · subst h2
        obtain ⟨g1, g2, g3⟩ := hG.2.2.1 pp t h1
        refine va_copyx hx hb (hml.trans hL.2.1.symm) hown (hts _ hl) (hts _ hn) (hts _ hst) (hts _ hi) hG.1 hP (ws_D hG h) hS g1 g2 g3 dd 0 hd1 rfl b1 b2 b3 b4 b5 hR.1 hloc hd (fun H1 locs1 hP1 hD1 hS1 => ?_)
        rw [ws_set (g := upA h dd (va_cpy (fun i => t.getD i 0) (h dd) sp.toNatClampNeg dp.toNatClampNeg n.toNatClampNeg)) (by rw [en1_arr hm, upA_self]) (fun q hq => upA_ne hq)] at hP1
        exact hk _ hkk H1 locs1 ls hP1 hS1 hL
    · exact False.elim
  · exact False.elim
theorem sn_ldcS (X : Cxt p m c cc nL s args own w) {i j : Nat} {x : String} (hown4 : own = RX4) (hj : strK[j]? = some (i, x)) (hd : decode cc pc = .ok (.ldc i, 2)) (hq : pc + 2 = q) : Sn (Jd p l e R s m args below meth c nL w cells slots Qm) pc (i_rc (200 + j) q) := by
  subst hq; subst hown4
  intro k L sk h ht hk H locs ls hP hS hL
  exact va_ldcS X.1 X.2.1 X.2.2.2.1 (X.2.2.2.2.2.2.2.2.2.2.2.1 j (i, x) hj) hd (hk _ ht H locs ls hP hS hL)
theorem sn_sgv (X : Cxt p m c cc nL s args own w) {i : Nat} (hl : Cond.fieldLink own i "java/lang/String" "value" "[B" ∈ lwG) (hd : decode cc pc = .ok (.getfield i, 3)) (hq : pc + 3 = q) : Sn (Jd p l e R s m args below meth c nL w cells slots Qm) pc (i_sgv q) := by
  subst hq
  intro k L sk h ht hk H locs ls hP hS hL
  revert ht
  unfold i_sgv
  split
  · rename_i pp r
    split
    · rename_i t hst
      intro ht
      obtain ⟨j, j1, j2, j3⟩ := stc_ok hst
      subst j2
      obtain ⟨hx, hb, hml, hown, hts, hG⟩ := X
      have hV := (hG.2.2.2.2.2.1.1 j j1).2.2.1
      rw [show 200 + j + 100 = 300 + j by omega] at ht
      exact vk_getf hx hb hV hS hown (hts _ hl) (fun _ h9 => h9) hd (hk _ ht H locs ls hP hS hL)
    · exact False.elim
  · exact False.elim
theorem sn_sgc (X : Cxt p m c cc nL s args own w) {i : Nat} (hl : Cond.fieldLink own i "java/lang/String" "coder" "B" ∈ lwG) (hd : decode cc pc = .ok (.getfield i, 3)) (hq : pc + 3 = q) : Sn (Jd p l e R s m args below meth c nL w cells slots Qm) pc (i_sgc q) := by
  subst hq
  intro k L sk h ht hk H locs ls hP hS hL
  revert ht
  unfold i_sgc
  split
  · rename_i pp r
    split
    · rename_i t hst
      intro ht
      obtain ⟨j, j1, j2, j3⟩ := stc_ok hst
      subst j2
      obtain ⟨hx, hb, hml, hown, hts, hG⟩ := X
      have hV := (hG.2.2.2.2.2.1.1 j j1).2.1
      exact vk_getf hx hb hV hS hown (hts _ hl) (fun _ h9 => h9) hd (hk _ ht H locs ls hP hS hL)
    · exact False.elim
  · exact False.elim
theorem sn_gsz (X : Cxt p m c cc nL s args own w) {i : Nat} (hl : Cond.fieldLink own i "java/lang/String" "COMPACT_STRINGS" "Z" ∈ lwG) (hd : decode cc pc = .ok (.getstatic i, 3)) (hq : pc + 3 = q) : Sn (Jd p l e R s m args below meth c nL w cells slots Qm) pc (i_ic 1 q) := by
  subst hq
  intro k L sk h ht hk H locs ls hP hS hL
  obtain ⟨hx, hb, hml, hown, hts, hG⟩ := X
  exact va_gets hx hb hG.2.2.2.2.2.2.2.1 hS hown (hts _ hl) (fun _ h9 => h9) hd (hk _ ht H locs ls hP hS hL)
theorem sn_gsf (X : Cxt p m c cc nL s args own w) {i : Nat} (hl : Cond.fieldLink own i "jdk/internal/util/Preconditions" "SIOOBE_FORMATTER" "Ljava/util/function/BiFunction;" ∈ lwG) (hd : decode cc pc = .ok (.getstatic i, 3)) (hq : pc + 3 = q) : Sn (Jd p l e R s m args below meth c nL w cells slots Qm) pc (i_gsf q) := by
  subst hq
  intro k L sk h ht hk H locs ls hP hS hL
  obtain ⟨hx, hb, hml, hown, hts, hG⟩ := X
  obtain ⟨v0, hv, hZ⟩ := hG.2.2.2.2.2.2.2.2
  rcases hv with e | e
  · subst e
    exact va_gets hx hb hZ hS hown (hts _ hl) (fun _ h9 => h9) hd (hk _ ht.1 H locs ls hP hS hL)
  · subst e
    exact va_gets hx hb hZ hS hown (hts _ hl) (fun _ h9 => h9) hd (hk _ ht.2 H locs ls hP hS hL)
theorem sn_i2c (X : Cxt p m c cc nL s args own w) (hd : decode cc pc = .ok (.i2c, 1)) (hq : pc + 1 = q) : Sn (Jd p l e R s m args below meth c nL w cells slots Qm) pc (i_i2c q) := by
  subst hq
  intro k L sk h ht hk H locs ls hP hS hL
  revert ht
  unfold i_i2c
  split
  · intro ht
    exact lv_i2c X.1 X.2.1 hd rfl (hk _ ht H locs ls hP hS hL)
  · exact False.elim
theorem sn_pop (X : Cxt p m c cc nL s args own w) (hd : decode cc pc = .ok (.pop, 1)) (hq : pc + 1 = q) : Sn (Jd p l e R s m args below meth c nL w cells slots Qm) pc (i_pop q) := by
  subst hq
  intro k L sk h ht hk H locs ls hP hS hL
  revert ht
  unfold i_pop
  split
  · intro ht
    exact lv_pop X.1 X.2.1 hd rfl (hk _ ht H locs ls hP hS hL)
  · exact False.elim
theorem sn_balen (X : Cxt p m c cc nL s args own w) (hd : decode cc pc = .ok (.arraylength, 1)) (hq : pc + 1 = q) : Sn (Jd p l e R s m args below meth c nL w cells slots Qm) pc (i_balen q) := by
  subst hq
  intro k L sk h ht hk H locs ls hP hS hL
  revert ht
  unfold i_balen
  split
  · rename_i pp r
    split
    · rename_i t hst
      intro ht
      obtain ⟨j, j1, j2, j3⟩ := sba_ok hst
      subst j2
      obtain ⟨hx, hb, hml, hown, hts, hG⟩ := X
      obtain ⟨cell, c1, c2, c3, c4, c5, c6, c7⟩ := (hG.2.2.2.2.2.1.1 j j1).2.2.2
      rw [lenS_at j3] at c5
      exact W.alen hx hb (by rw [hS.2.1 _ (Array.getElem?_eq_some_iff.mp c1).1 c7]; exact c1) c2 c5 rfl rfl hd (hk _ ht H locs ls hP hS hL)
    · exact False.elim
  · exact False.elim
theorem sn_bald (X : Cxt p m c cc nL s args own w) (hd : decode cc pc = .ok (.baload, 1)) (hq : pc + 1 = q) : Sn (Jd p l e R s m args below meth c nL w cells slots Qm) pc (i_bald q) := by
  subst hq
  intro k L sk h ht hk H locs ls hP hS hL
  revert ht
  unfold i_bald
  split
  · rename_i i pp r
    split
    · rename_i t hst
      intro ht
      obtain ⟨j, j1, j2, j3⟩ := sba_ok hst
      subst j2
      obtain ⟨hx, hb, hml, hown, hts, hG⟩ := X
      have hT := (hG.2.2.2.2.2.1.1 j j1).2.2.2
      rw [lenS_at j3] at hT
      exact va_tb hx hb hT hS ht.1 (v := .int (nI (t.getD i.toNatClampNeg 0))) (by rw [bytS_at j3]) hd (hk _ ht.2 H locs ls hP hS hL)
    · exact False.elim
  · exact False.elim
theorem sn_cret (X : Cxt p m c cc nL s args own w) {Q : Po} (hr : meth.sig.returnType = some .char) (hlk : meth.locks = false) (hd : decode cc pc = .ok (.ireturn, 1)) (hQm : Qm = MQ below (Qcx w Q) args s cells slots (wA w)) : Sn (Jd p l e R s m args below meth c nL w cells slots Qm) pc (i_cret Q) := by
  subst hQm
  intro k L sk h ht hk H locs ls hP hS hL
  revert ht
  unfold i_cret
  split
  · rename_i x
    intro ht
    obtain ⟨⟨n, n1, n2⟩, hQ⟩ := ht
    exact W.zret X.1 X.2.1 hr (by rw [n2]; exact (pk_charN n1).1) (fun t htt hW => ⟨⟨some (.int x), h, rfl, hQ, by rw [htt]; exact hP⟩, hS.F htt⟩) hS.2.2 hd hlk
  · exact False.elim
theorem sn_bret (X : Cxt p m c cc nL s args own w) {Q : Po} (hr : meth.sig.returnType = some .byte) (hlk : meth.locks = false) (hd : decode cc pc = .ok (.ireturn, 1)) (hQm : Qm = MQ below (Qcx w Q) args s cells slots (wA w)) : Sn (Jd p l e R s m args below meth c nL w cells slots Qm) pc (i_bret Q) := by
  subst hQm
  intro k L sk h ht hk H locs ls hP hS hL
  revert ht
  unfold i_bret
  split
  · rename_i x
    intro ht
    exact W.zret X.1 X.2.1 hr (by rw [ht.1]; decide +kernel) (fun t htt hW => ⟨⟨some (.int x), h, rfl, ht.2, by rw [htt]; exact hP⟩, hS.F htt⟩) hS.2.2 hd hlk
  · exact False.elim
theorem sn_cE (X : Cxt p m c cc nL s args own w) {y : MethodName} {bytes : ByteArray} {maxL i n d : Nat} {ret : Option FieldType} {S : Sp} (hM : Ct l y bytes maxL ret d S) (hT : y.cls = "java/lang/String")
    (g1 : Cond.methodLink own i y ∈ lwG) (g2 : Cond.instanceMethod y ∈ lwG) (g3 : Cond.selects y.cls y y ∈ lwG) (g4 : Cond.initialized y.cls ∈ lwG) (g5 : Cond.code y bytes maxL ret ∈ lwG)
    (hy : y.cls ≠ "java/lang/invoke/MethodHandle" ∧ y.cls ≠ "java/lang/invoke/VarHandle" ∧ (parseMethodDescriptor y.desc).map (fun d => d.parameters.length) = some n) (hR : d + 1 ≤ R.frames ∧ 8 + (maxL + 11) + 60 * d ≤ R.locals) (hcs : cells ≤ R.cells ∧ slots ≤ R.slots)
    (hd : decode cc pc = .ok (.invokevirtual i, 3)) (hq : pc + 3 = q) : Sn (Jd p l e R s m args below meth c nL w cells slots Qm) pc (i_cE n S q) := by
  subst hq
  intro k L sk h ht hk H locs ls hP hS hL
  revert ht
  unfold i_cE
  split
  · rename_i pp as r hpop
    intro ht
    obtain ⟨hx, hb, hml, hown, hts, hG⟩ := X
    obtain ⟨as0, e1, e2, e3⟩ := pops_spec _ _ _ _ _ hpop
    rw [List.append_nil] at e1
    subst e1
    obtain ⟨t, hst0⟩ := ht.1
    obtain ⟨j, j1, j2, j3⟩ := stc_ok hst0
    have hst : sk.map (cv (wad w)) = (as.map (cv (wad w))).reverse ++ .ref (wad w pp) :: r.map (cv (wad w)) := by
      rw [e2]; simp [cv]
    have hW : 2 * (F0 m pc ls (sk.map (cv (wad w)))).monitorRoom + ((r.map (cv (wad w))).map fun v => v.category).sum ≤ 8 := lv_room (by rw [csum_eq]; exact ht.2.1)
    have cw : CallW R s args own y.cls i y bytes maxL ret (Cond.code y bytes maxL ret :: lwG) (rmd d) 0 0 n :=
      ⟨callB_of n hts (goodC g5) rfl rfl rfl (hts _ g4) (hts _ g1) hy hR, hts _ g2, hts _ g3⟩
    refine call_go (av := .ref pp :: as) (r := r) (L := L) (sk := sk) (h := h) rfl hk hS hL (a := (Value.ref (wad w pp) :: as.map (cv (wad w))).toArray) ?_
    exact va_runV (Ts := lwG) (As := as.map (cv (wad w))) ⟨hx, hb, hml, hown, hts⟩ (hM w (.ref pp :: as) h _ ht.2.2) cw ⟨Pcx.blind w _ h, by rw [hT, j2]; exact vk_recv (adK := fun i => wad w (200 + i)) (i := j) hG.2.2.2.2.2.1 j1 hS, fun U hU hW => ⟨rfl, by rw [hU]; exact hP, pre_at hG hS hU hW⟩⟩ rfl (by rw [List.length_map]; simpa using e3) hL.2.1 hst hW hd ⟨hcs.1, hcs.2⟩
  · exact False.elim
end SNS
