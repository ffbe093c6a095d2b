/-! Math.max and Math.min, by the kit's own rows -/
theorem gm_max_l : Cond.methodLink RX5 294 Lib.Math.max.name ∈ lwG := inG 549 (by decide +kernel) (by decide +kernel)
theorem gm_max_s : Cond.static Lib.Math.max.name ∈ lwG := inG 550 (by decide +kernel) (by decide +kernel)
theorem gm_max_c : Cond.code Lib.Math.max.name Lib.Math.max.code 2 (some .int) ∈ lwG := inG 551 (by decide +kernel) (by decide +kernel)
theorem gm_min_l : Cond.methodLink RX5 289 Lib.Math.min.name ∈ lwG := inG 546 (by decide +kernel) (by decide +kernel)
theorem gm_min_s : Cond.static Lib.Math.min.name ∈ lwG := inG 547 (by decide +kernel) (by decide +kernel)
theorem gm_min_c : Cond.code Lib.Math.min.name Lib.Math.min.code 2 (some .int) ∈ lwG := inG 548 (by decide +kernel) (by decide +kernel)
theorem gm_i : Cond.initialized "java/lang/Math" ∈ lwG := inG 68 (by decide +kernel) (by decide +kernel)
section SNM
variable {p : Program} {l : Launch} {e : Env} {R : Room} {s : State} {m : MethodId} {args : Array Value} {below : List Frame} {meth : Method} {c : Code} {cc : ByteArray} {nL : Nat} {own : String} {w : WD} {cells slots : Nat} {Qm : State → Prop} {pc q : Nat}
theorem sn_mmax (X : Cxt p m c cc nL s args own w) {i : Nat} (g1 : Cond.methodLink own i Lib.Math.max.name ∈ lwG) (hR : 1 ≤ R.frames ∧ 8 + 13 ≤ R.locals) (hcs : cells ≤ R.cells ∧ slots ≤ R.slots) (hd : decode cc pc = .ok (.invokestatic i, 3)) (hq : pc + 3 = q) : Sn (Jd p l e R s m args below meth c nL w cells slots Qm) pc (i_cS 2 SJ9_max q) := by
  subst hq
  intro k L sk h ht hk H locs ls hP hS hL
  revert ht
  unfold i_cS
  split
  · rename_i av r hpop
    intro ht
    obtain ⟨hx, hb, hml, hown, hts, hG⟩ := X
    obtain ⟨as0, e1, e2, e3⟩ := pops_spec _ _ _ _ _ hpop
    rw [List.append_nil] at e1
    subst e1
    obtain ⟨t1, t2⟩ := ht
    unfold SJ9_max at t2
    split at t2
    · rename_i x y
      subst e2
      have hl : ((r.map (cv (wad w))).map fun v => v.category).sum + 13 ≤ R.locals := by rw [csum_eq]; omega
      exact va_mmax hx hb (hml.trans hL.2.1.symm) hown (hts _ g1) (hts _ gm_max_s) (hts _ gm_i) (hts _ gm_max_c) hR.1 hl hcs.1 hcs.2 hd (hk _ t2 H locs ls hP hS hL)
    · exact t2.elim
  · exact False.elim
theorem sn_mmin (X : Cxt p m c cc nL s args own w) {i : Nat} (g1 : Cond.methodLink own i Lib.Math.min.name ∈ lwG) (hR : 1 ≤ R.frames ∧ 8 + 13 ≤ R.locals) (hcs : cells ≤ R.cells ∧ slots ≤ R.slots) (hd : decode cc pc = .ok (.invokestatic i, 3)) (hq : pc + 3 = q) : Sn (Jd p l e R s m args below meth c nL w cells slots Qm) pc (i_cS 2 SJ9_min q) := by
  subst hq
  intro k L sk h ht hk H locs ls hP hS hL
  revert ht
  unfold i_cS
  split
  · rename_i av r hpop
    intro ht
    obtain ⟨hx, hb, hml, hown, hts, hG⟩ := X
    obtain ⟨as0, e1, e2, e3⟩ := pops_spec _ _ _ _ _ hpop
    rw [List.append_nil] at e1
    subst e1
    obtain ⟨t1, t2⟩ := ht
    unfold SJ9_min at t2
    split at t2
    · rename_i x y
      subst e2
      have hl : ((r.map (cv (wad w))).map fun v => v.category).sum + 13 ≤ R.locals := by rw [csum_eq]; omega
      exact va_mmin hx hb (hml.trans hL.2.1.symm) hown (hts _ g1) (hts _ gm_min_s) (hts _ gm_i) (hts _ gm_min_c) hR.1 hl hcs.1 hcs.2 hd (hk _ t2 H locs ls hP hS hL)
    · exact t2.elim
  · exact False.elim
end SNM
set_option maxRecDepth 20000 in
theorem clm_heldGrace {l : Launch} : ∀ (p : Program) (e : Env) (s : State) (m : MethodId) (args : Array Value) (below : List Frame) (meth : Method) (c : Code) (w : WD) (Q : Po), Cxt p m c cX5_heldGrace 1 s args yX5_heldGrace.cls w → meth.sig.returnType = (some .int) → meth.locks = false → Cl (T5_heldGrace Q SJ9_min SJ9_max) (Jd p l e (rmd 1) s m args below meth c 1 w 0 0 (MQ below (Qcx w Q) args s 0 0 (wA w))) := by
  intro p e s m args below meth c w Q X hr hlk
  exact Cl_of (Sn_nd (Sn_nd (Sn_lf (sn_iconst X (show decode cX5_heldGrace 0 = .ok (.iconst 0, 1) by decide +kernel) rfl rfl)) (Sn_nd (Sn_lf (sn_bipush X (show decode cX5_heldGrace 1 = .ok (.bipush 99, 2) by decide +kernel) rfl rfl)) (Sn_lf (sn_iload_n X (show decode cX5_heldGrace 3 = .ok (.iload_n 0, 1) by decide +kernel) rfl rfl)))) (Sn_nd (Sn_lf (sn_mmin X gm_min_l ⟨by decide, by decide⟩ ⟨Nat.zero_le _, Nat.zero_le _⟩ (show decode cX5_heldGrace 4 = .ok (.invokestatic 289, 3) by decide +kernel) rfl)) (Sn_nd (Sn_lf (sn_mmax X gm_max_l ⟨by decide, by decide⟩ ⟨Nat.zero_le _, Nat.zero_le _⟩ (show decode cX5_heldGrace 7 = .ok (.invokestatic 294, 3) by decide +kernel) rfl)) (Sn_lf (sn_iret X hr hlk (show decode cX5_heldGrace 10 = .ok (.ireturn, 1) by decide +kernel) rfl)))))
