theorem lgr (a : Int64) : lg_cmp a a = 0 := by
  unfold lg_cmp
  simp
theorem vI {i N : Nat} (k : Nat) (hk : k < 5) (hi : i + 5 ≤ N) (hN : N ≤ 2560) : vp_in (nI i + nI k) N ∧ (nI i + nI k).toNatClampNeg = i + k := by
  rw [nI_add]
  exact ⟨vp_in_nI (by omega) (by omega), nI_clamp (by omega)⟩
theorem lc_0 {xs : Nat → Int32} {N i : Nat} {h : Hp} (r : Rel h) (hi : i + 5 ≤ N) (hN : N ≤ 2560) (hK : ∀ h2, Rel h2 → Rn (TL xs N) (1689, [some (.ref 99), some (.ref 0), some (.ref 41), some (.int (nI i))], [], h2)) : Rn (TL xs N) (236, [some (.ref 99), some (.ref 0), some (.ref 41), some (.int (nI i))], [], h) := by
  obtain ⟨v1, w1⟩ : vp_in (nI i + 1) N ∧ (nI i + 1).toNatClampNeg = i + 1 := vI 1 (by decide) hi hN
  obtain ⟨v2, w2⟩ : vp_in (nI i + 2) N ∧ (nI i + 2).toNatClampNeg = i + 2 := vI 2 (by decide) hi hN
  obtain ⟨v3, w3⟩ : vp_in (nI i + 3) N ∧ (nI i + 3).toNatClampNeg = i + 3 := vI 3 (by decide) hi hN
  obtain ⟨v4, w4⟩ : vp_in (nI i + 4) N ∧ (nI i + 4).toNatClampNeg = i + 4 := vI 4 (by decide) hi hN
  refine Rn_in CL_0 60 ?_
  simp only [kL_0_1689, kL_0_265, kL_0_294, xL_236, xL_237, xL_238, xL_239, xL_240, xL_241, xL_242, xL_243, xL_245, xL_246, xL_247, xL_248, xL_249, xL_250, xL_251, xL_252, xL_255, xL_256, xL_257, xL_258, xL_259, xL_260, xL_261, xL_262, tL_265, xL_266, xL_267, xL_268, xL_269, xL_270, xL_271, xL_272, xL_274, xL_275, xL_276, xL_277, xL_278, xL_279, xL_280, xL_281, xL_284, xL_285, xL_286, xL_287, xL_288, xL_289, xL_290, xL_291, tL_294, xL_297, xL_298, i_ald, i_cV, i_i2l, i_iadd, i_ic, i_ic_eq, i_ild, i_land, i_lc, i_lor, i_lshl, i_no, i_sld, lck_0, lck_i, lck_r, lck_n, lck_l, csum_0, csum_i, csum_r, csum_l, pops_0, pops_s, psh_n, psh_s, List.getElem?_cons_zero, List.getElem?_cons_succ, List.set_cons_zero, List.set_cons_succ, true_and, and_true, Nat.reduceAdd, Nat.reduceLeDiff, oc_0, oc_41, v1, v2, v3, v4, w1, w2, w3, w4]
  refine ⟨_, pr_feed r _ _, fun v h1 hq hv => ?_⟩
  obtain ⟨a, rfl⟩ := hv
  refine Rn_go CL_0 60 ?_
  simp only [kL_0_1689, kL_0_265, kL_0_294, xL_236, xL_237, xL_238, xL_239, xL_240, xL_241, xL_242, xL_243, xL_245, xL_246, xL_247, xL_248, xL_249, xL_250, xL_251, xL_252, xL_255, xL_256, xL_257, xL_258, xL_259, xL_260, xL_261, xL_262, tL_265, xL_266, xL_267, xL_268, xL_269, xL_270, xL_271, xL_272, xL_274, xL_275, xL_276, xL_277, xL_278, xL_279, xL_280, xL_281, xL_284, xL_285, xL_286, xL_287, xL_288, xL_289, xL_290, xL_291, tL_294, xL_297, xL_298, i_ald, i_cV, i_i2l, i_iadd, i_ic, i_ic_eq, i_ild, i_land, i_lc, i_lor, i_lshl, i_no, i_sld, lck_0, lck_i, lck_r, lck_n, lck_l, csum_0, csum_i, csum_r, csum_l, pops_0, pops_s, psh_n, psh_s, List.getElem?_cons_zero, List.getElem?_cons_succ, List.set_cons_zero, List.set_cons_succ, true_and, and_true, Nat.reduceAdd, Nat.reduceLeDiff, oc_0, oc_41, v1, v2, v3, v4, w1, w2, w3, w4]
  refine ⟨_, hq, fun v h2 hq2 hv => ?_⟩
  obtain ⟨e, r2⟩ := hq2
  subst e
  refine Rn_go CL_0 60 ?_
  simp only [kL_0_1689, kL_0_265, kL_0_294, xL_236, xL_237, xL_238, xL_239, xL_240, xL_241, xL_242, xL_243, xL_245, xL_246, xL_247, xL_248, xL_249, xL_250, xL_251, xL_252, xL_255, xL_256, xL_257, xL_258, xL_259, xL_260, xL_261, xL_262, tL_265, xL_266, xL_267, xL_268, xL_269, xL_270, xL_271, xL_272, xL_274, xL_275, xL_276, xL_277, xL_278, xL_279, xL_280, xL_281, xL_284, xL_285, xL_286, xL_287, xL_288, xL_289, xL_290, xL_291, tL_294, xL_297, xL_298, i_ald, i_cV, i_i2l, i_iadd, i_ic, i_ic_eq, i_ild, i_land, i_lc, i_lor, i_lshl, i_no, i_sld, lck_0, lck_i, lck_r, lck_n, lck_l, csum_0, csum_i, csum_r, csum_l, pops_0, pops_s, psh_n, psh_s, List.getElem?_cons_zero, List.getElem?_cons_succ, List.set_cons_zero, List.set_cons_succ, true_and, and_true, Nat.reduceAdd, Nat.reduceLeDiff, oc_0, oc_41, v1, v2, v3, v4, w1, w2, w3, w4]
  exact ⟨fun _ => hK h2 r2, fun z => absurd trivial z⟩
theorem lc_1 {xs : Nat → Int32} {N i : Nat} {h : Hp} (r : Rel h) (hi : i + 5 ≤ N) (hN : N ≤ 2560) (hK : ∀ h2, Rel h2 → Rn (TL xs N) (1689, [some (.ref 99), some (.ref 0), some (.ref 41), some (.int (nI i))], [], h2)) : Rn (TL xs N) (299, [some (.ref 99), some (.ref 0), some (.ref 41), some (.int (nI i))], [], h) := by
  obtain ⟨v1, w1⟩ : vp_in (nI i + 1) N ∧ (nI i + 1).toNatClampNeg = i + 1 := vI 1 (by decide) hi hN
  obtain ⟨v2, w2⟩ : vp_in (nI i + 2) N ∧ (nI i + 2).toNatClampNeg = i + 2 := vI 2 (by decide) hi hN
  obtain ⟨v3, w3⟩ : vp_in (nI i + 3) N ∧ (nI i + 3).toNatClampNeg = i + 3 := vI 3 (by decide) hi hN
  obtain ⟨v4, w4⟩ : vp_in (nI i + 4) N ∧ (nI i + 4).toNatClampNeg = i + 4 := vI 4 (by decide) hi hN
  refine Rn_in CL_1 60 ?_
  simp only [kL_1_1689, kL_1_303, kL_1_307, xL_299, xL_300, tL_303, xL_304, tL_307, xL_310, xL_311, i_ald, i_cV, i_ic, i_ic_eq, i_no, lck_0, lck_i, lck_r, lck_n, lck_l, csum_0, csum_i, csum_r, csum_l, pops_0, pops_s, psh_n, psh_s, List.getElem?_cons_zero, List.getElem?_cons_succ, List.set_cons_zero, List.set_cons_succ, true_and, and_true, Nat.reduceAdd, Nat.reduceLeDiff, oc_0, oc_41, v1, v2, v3, v4, w1, w2, w3, w4]
  refine ⟨_, pr_gaol r, fun v h1 hq hv => ?_⟩
  obtain ⟨a, rfl⟩ := hv
  refine Rn_go CL_1 60 ?_
  simp only [kL_1_1689, kL_1_303, kL_1_307, xL_299, xL_300, tL_303, xL_304, tL_307, xL_310, xL_311, i_ald, i_cV, i_ic, i_ic_eq, i_no, lck_0, lck_i, lck_r, lck_n, lck_l, csum_0, csum_i, csum_r, csum_l, pops_0, pops_s, psh_n, psh_s, List.getElem?_cons_zero, List.getElem?_cons_succ, List.set_cons_zero, List.set_cons_succ, true_and, and_true, Nat.reduceAdd, Nat.reduceLeDiff, oc_0, oc_41, v1, v2, v3, v4, w1, w2, w3, w4]
  refine ⟨_, hq, fun v h2 hq2 hv => ?_⟩
  obtain ⟨e, r2⟩ := hq2
  subst e
  refine Rn_go CL_1 60 ?_
  simp only [kL_1_1689, kL_1_303, kL_1_307, xL_299, xL_300, tL_303, xL_304, tL_307, xL_310, xL_311, i_ald, i_cV, i_ic, i_ic_eq, i_no, lck_0, lck_i, lck_r, lck_n, lck_l, csum_0, csum_i, csum_r, csum_l, pops_0, pops_s, psh_n, psh_s, List.getElem?_cons_zero, List.getElem?_cons_succ, List.set_cons_zero, List.set_cons_succ, true_and, and_true, Nat.reduceAdd, Nat.reduceLeDiff, oc_0, oc_41, v1, v2, v3, v4, w1, w2, w3, w4]
  exact ⟨fun _ => hK h2 r2, fun z => absurd trivial z⟩
theorem lc_2 {xs : Nat → Int32} {N i : Nat} {h : Hp} (r : Rel h) (hi : i + 5 ≤ N) (hN : N ≤ 2560) (hK : ∀ h2, Rel h2 → Rn (TL xs N) (1689, [some (.ref 99), some (.ref 0), some (.ref 41), some (.int (nI i))], [], h2)) : Rn (TL xs N) (312, [some (.ref 99), some (.ref 0), some (.ref 41), some (.int (nI i))], [], h) := by
  obtain ⟨v1, w1⟩ : vp_in (nI i + 1) N ∧ (nI i + 1).toNatClampNeg = i + 1 := vI 1 (by decide) hi hN
  obtain ⟨v2, w2⟩ : vp_in (nI i + 2) N ∧ (nI i + 2).toNatClampNeg = i + 2 := vI 2 (by decide) hi hN
  obtain ⟨v3, w3⟩ : vp_in (nI i + 3) N ∧ (nI i + 3).toNatClampNeg = i + 3 := vI 3 (by decide) hi hN
  obtain ⟨v4, w4⟩ : vp_in (nI i + 4) N ∧ (nI i + 4).toNatClampNeg = i + 4 := vI 4 (by decide) hi hN
  refine Rn_in CL_2 60 ?_
  simp only [kL_2_1689, kL_2_326, kL_2_340, xL_312, xL_313, xL_314, xL_315, xL_316, xL_317, xL_318, xL_319, xL_320, xL_321, xL_322, xL_323, tL_326, xL_327, xL_328, xL_329, xL_330, xL_331, xL_332, xL_333, xL_334, xL_335, xL_336, xL_337, tL_340, xL_343, xL_344, i_ald, i_cV, i_iadd, i_ic, i_ic_eq, i_ild, i_no, i_sld, lck_0, lck_i, lck_r, lck_n, lck_l, csum_0, csum_i, csum_r, csum_l, pops_0, pops_s, psh_n, psh_s, List.getElem?_cons_zero, List.getElem?_cons_succ, List.set_cons_zero, List.set_cons_succ, true_and, and_true, Nat.reduceAdd, Nat.reduceLeDiff, oc_0, oc_41, v1, v2, v3, v4, w1, w2, w3, w4]
  refine ⟨_, pr_set r _ _, fun v h1 hq hv => ?_⟩
  obtain ⟨a, rfl⟩ := hv
  refine Rn_go CL_2 60 ?_
  simp only [kL_2_1689, kL_2_326, kL_2_340, xL_312, xL_313, xL_314, xL_315, xL_316, xL_317, xL_318, xL_319, xL_320, xL_321, xL_322, xL_323, tL_326, xL_327, xL_328, xL_329, xL_330, xL_331, xL_332, xL_333, xL_334, xL_335, xL_336, xL_337, tL_340, xL_343, xL_344, i_ald, i_cV, i_iadd, i_ic, i_ic_eq, i_ild, i_no, i_sld, lck_0, lck_i, lck_r, lck_n, lck_l, csum_0, csum_i, csum_r, csum_l, pops_0, pops_s, psh_n, psh_s, List.getElem?_cons_zero, List.getElem?_cons_succ, List.set_cons_zero, List.set_cons_succ, true_and, and_true, Nat.reduceAdd, Nat.reduceLeDiff, oc_0, oc_41, v1, v2, v3, v4, w1, w2, w3, w4]
  refine ⟨_, hq, fun v h2 hq2 hv => ?_⟩
  obtain ⟨e, r2⟩ := hq2
  subst e
  refine Rn_go CL_2 60 ?_
  simp only [kL_2_1689, kL_2_326, kL_2_340, xL_312, xL_313, xL_314, xL_315, xL_316, xL_317, xL_318, xL_319, xL_320, xL_321, xL_322, xL_323, tL_326, xL_327, xL_328, xL_329, xL_330, xL_331, xL_332, xL_333, xL_334, xL_335, xL_336, xL_337, tL_340, xL_343, xL_344, i_ald, i_cV, i_iadd, i_ic, i_ic_eq, i_ild, i_no, i_sld, lck_0, lck_i, lck_r, lck_n, lck_l, csum_0, csum_i, csum_r, csum_l, pops_0, pops_s, psh_n, psh_s, List.getElem?_cons_zero, List.getElem?_cons_succ, List.set_cons_zero, List.set_cons_succ, true_and, and_true, Nat.reduceAdd, Nat.reduceLeDiff, oc_0, oc_41, v1, v2, v3, v4, w1, w2, w3, w4]
  exact ⟨fun _ => hK h2 r2, fun z => absurd trivial z⟩
theorem lc_3 {xs : Nat → Int32} {N i : Nat} {h : Hp} (r : Rel h) (hi : i + 5 ≤ N) (hN : N ≤ 2560) (hK : ∀ h2, Rel h2 → Rn (TL xs N) (1689, [some (.ref 99), some (.ref 0), some (.ref 41), some (.int (nI i))], [], h2)) : Rn (TL xs N) (345, [some (.ref 99), some (.ref 0), some (.ref 41), some (.int (nI i))], [], h) := by
  obtain ⟨v1, w1⟩ : vp_in (nI i + 1) N ∧ (nI i + 1).toNatClampNeg = i + 1 := vI 1 (by decide) hi hN
  obtain ⟨v2, w2⟩ : vp_in (nI i + 2) N ∧ (nI i + 2).toNatClampNeg = i + 2 := vI 2 (by decide) hi hN
  obtain ⟨v3, w3⟩ : vp_in (nI i + 3) N ∧ (nI i + 3).toNatClampNeg = i + 3 := vI 3 (by decide) hi hN
  obtain ⟨v4, w4⟩ : vp_in (nI i + 4) N ∧ (nI i + 4).toNatClampNeg = i + 4 := vI 4 (by decide) hi hN
  refine Rn_in CL_3 60 ?_
  simp only [kL_3_1689, kL_3_354, kL_3_363, xL_345, xL_346, xL_347, xL_348, xL_349, xL_350, xL_351, tL_354, xL_355, xL_356, xL_357, xL_358, xL_359, xL_360, tL_363, xL_366, xL_367, i_ald, i_cV, i_iadd, i_ic, i_ic_eq, i_ild, i_no, i_sld, lck_0, lck_i, lck_r, lck_n, lck_l, csum_0, csum_i, csum_r, csum_l, pops_0, pops_s, psh_n, psh_s, List.getElem?_cons_zero, List.getElem?_cons_succ, List.set_cons_zero, List.set_cons_succ, true_and, and_true, Nat.reduceAdd, Nat.reduceLeDiff, oc_0, oc_41, v1, v2, v3, v4, w1, w2, w3, w4]
  refine ⟨_, pr_lawOf r _, fun v h1 hq hv => ?_⟩
  obtain ⟨a, rfl⟩ := hv
  refine Rn_go CL_3 60 ?_
  simp only [kL_3_1689, kL_3_354, kL_3_363, xL_345, xL_346, xL_347, xL_348, xL_349, xL_350, xL_351, tL_354, xL_355, xL_356, xL_357, xL_358, xL_359, xL_360, tL_363, xL_366, xL_367, i_ald, i_cV, i_iadd, i_ic, i_ic_eq, i_ild, i_no, i_sld, lck_0, lck_i, lck_r, lck_n, lck_l, csum_0, csum_i, csum_r, csum_l, pops_0, pops_s, psh_n, psh_s, List.getElem?_cons_zero, List.getElem?_cons_succ, List.set_cons_zero, List.set_cons_succ, true_and, and_true, Nat.reduceAdd, Nat.reduceLeDiff, oc_0, oc_41, v1, v2, v3, v4, w1, w2, w3, w4]
  refine ⟨_, hq, fun v h2 hq2 hv => ?_⟩
  obtain ⟨e, r2⟩ := hq2
  subst e
  refine Rn_go CL_3 60 ?_
  simp only [kL_3_1689, kL_3_354, kL_3_363, xL_345, xL_346, xL_347, xL_348, xL_349, xL_350, xL_351, tL_354, xL_355, xL_356, xL_357, xL_358, xL_359, xL_360, tL_363, xL_366, xL_367, i_ald, i_cV, i_iadd, i_ic, i_ic_eq, i_ild, i_no, i_sld, lck_0, lck_i, lck_r, lck_n, lck_l, csum_0, csum_i, csum_r, csum_l, pops_0, pops_s, psh_n, psh_s, List.getElem?_cons_zero, List.getElem?_cons_succ, List.set_cons_zero, List.set_cons_succ, true_and, and_true, Nat.reduceAdd, Nat.reduceLeDiff, oc_0, oc_41, v1, v2, v3, v4, w1, w2, w3, w4]
  exact ⟨fun _ => hK h2 r2, fun z => absurd trivial z⟩
theorem lc_4 {xs : Nat → Int32} {N i : Nat} {h : Hp} (r : Rel h) (hi : i + 5 ≤ N) (hN : N ≤ 2560) (hK : ∀ h2, Rel h2 → Rn (TL xs N) (1689, [some (.ref 99), some (.ref 0), some (.ref 41), some (.int (nI i))], [], h2)) : Rn (TL xs N) (368, [some (.ref 99), some (.ref 0), some (.ref 41), some (.int (nI i))], [], h) := by
  obtain ⟨v1, w1⟩ : vp_in (nI i + 1) N ∧ (nI i + 1).toNatClampNeg = i + 1 := vI 1 (by decide) hi hN
  obtain ⟨v2, w2⟩ : vp_in (nI i + 2) N ∧ (nI i + 2).toNatClampNeg = i + 2 := vI 2 (by decide) hi hN
  obtain ⟨v3, w3⟩ : vp_in (nI i + 3) N ∧ (nI i + 3).toNatClampNeg = i + 3 := vI 3 (by decide) hi hN
  obtain ⟨v4, w4⟩ : vp_in (nI i + 4) N ∧ (nI i + 4).toNatClampNeg = i + 4 := vI 4 (by decide) hi hN
  refine Rn_in CL_4 60 ?_
  simp only [kL_4_1689, kL_4_387, kL_4_406, xL_368, xL_369, xL_370, xL_371, xL_372, xL_373, xL_374, xL_375, xL_376, xL_377, xL_378, xL_379, xL_380, xL_381, xL_382, xL_383, xL_384, tL_387, xL_388, xL_389, xL_390, xL_391, xL_392, xL_393, xL_394, xL_395, xL_396, xL_397, xL_398, xL_399, xL_400, xL_401, xL_402, xL_403, tL_406, xL_409, xL_410, i_ald, i_cV, i_iadd, i_ic, i_ic_eq, i_ild, i_no, i_sld, lck_0, lck_i, lck_r, lck_n, lck_l, csum_0, csum_i, csum_r, csum_l, pops_0, pops_s, psh_n, psh_s, List.getElem?_cons_zero, List.getElem?_cons_succ, List.set_cons_zero, List.set_cons_succ, true_and, and_true, Nat.reduceAdd, Nat.reduceLeDiff, oc_0, oc_41, v1, v2, v3, v4, w1, w2, w3, w4]
  refine ⟨_, pr_inmate r _ _ _, fun v h1 hq hv => ?_⟩
  obtain ⟨a, rfl⟩ := hv
  refine Rn_go CL_4 60 ?_
  simp only [kL_4_1689, kL_4_387, kL_4_406, xL_368, xL_369, xL_370, xL_371, xL_372, xL_373, xL_374, xL_375, xL_376, xL_377, xL_378, xL_379, xL_380, xL_381, xL_382, xL_383, xL_384, tL_387, xL_388, xL_389, xL_390, xL_391, xL_392, xL_393, xL_394, xL_395, xL_396, xL_397, xL_398, xL_399, xL_400, xL_401, xL_402, xL_403, tL_406, xL_409, xL_410, i_ald, i_cV, i_iadd, i_ic, i_ic_eq, i_ild, i_no, i_sld, lck_0, lck_i, lck_r, lck_n, lck_l, csum_0, csum_i, csum_r, csum_l, pops_0, pops_s, psh_n, psh_s, List.getElem?_cons_zero, List.getElem?_cons_succ, List.set_cons_zero, List.set_cons_succ, true_and, and_true, Nat.reduceAdd, Nat.reduceLeDiff, oc_0, oc_41, v1, v2, v3, v4, w1, w2, w3, w4]
  refine ⟨_, hq, fun v h2 hq2 hv => ?_⟩
  obtain ⟨e, r2⟩ := hq2
  subst e
  refine Rn_go CL_4 60 ?_
  simp only [kL_4_1689, kL_4_387, kL_4_406, xL_368, xL_369, xL_370, xL_371, xL_372, xL_373, xL_374, xL_375, xL_376, xL_377, xL_378, xL_379, xL_380, xL_381, xL_382, xL_383, xL_384, tL_387, xL_388, xL_389, xL_390, xL_391, xL_392, xL_393, xL_394, xL_395, xL_396, xL_397, xL_398, xL_399, xL_400, xL_401, xL_402, xL_403, tL_406, xL_409, xL_410, i_ald, i_cV, i_iadd, i_ic, i_ic_eq, i_ild, i_no, i_sld, lck_0, lck_i, lck_r, lck_n, lck_l, csum_0, csum_i, csum_r, csum_l, pops_0, pops_s, psh_n, psh_s, List.getElem?_cons_zero, List.getElem?_cons_succ, List.set_cons_zero, List.set_cons_succ, true_and, and_true, Nat.reduceAdd, Nat.reduceLeDiff, oc_0, oc_41, v1, v2, v3, v4, w1, w2, w3, w4]
  exact ⟨fun _ => hK h2 r2, fun z => absurd trivial z⟩
theorem lc_5 {xs : Nat → Int32} {N i : Nat} {h : Hp} (r : Rel h) (hi : i + 5 ≤ N) (hN : N ≤ 2560) (hK : ∀ h2, Rel h2 → Rn (TL xs N) (1689, [some (.ref 99), some (.ref 0), some (.ref 41), some (.int (nI i))], [], h2)) : Rn (TL xs N) (411, [some (.ref 99), some (.ref 0), some (.ref 41), some (.int (nI i))], [], h) := by
  obtain ⟨v1, w1⟩ : vp_in (nI i + 1) N ∧ (nI i + 1).toNatClampNeg = i + 1 := vI 1 (by decide) hi hN
  obtain ⟨v2, w2⟩ : vp_in (nI i + 2) N ∧ (nI i + 2).toNatClampNeg = i + 2 := vI 2 (by decide) hi hN
  obtain ⟨v3, w3⟩ : vp_in (nI i + 3) N ∧ (nI i + 3).toNatClampNeg = i + 3 := vI 3 (by decide) hi hN
  obtain ⟨v4, w4⟩ : vp_in (nI i + 4) N ∧ (nI i + 4).toNatClampNeg = i + 4 := vI 4 (by decide) hi hN
  refine Rn_in CL_5 60 ?_
  simp only [kL_5_1689, kL_5_425, kL_5_439, xL_411, xL_412, xL_413, xL_414, xL_415, xL_416, xL_417, xL_418, xL_419, xL_420, xL_421, xL_422, tL_425, xL_426, xL_427, xL_428, xL_429, xL_430, xL_431, xL_432, xL_433, xL_434, xL_435, xL_436, tL_439, xL_442, xL_443, i_ald, i_cV, i_iadd, i_ic, i_ic_eq, i_ild, i_no, i_sld, lck_0, lck_i, lck_r, lck_n, lck_l, csum_0, csum_i, csum_r, csum_l, pops_0, pops_s, psh_n, psh_s, List.getElem?_cons_zero, List.getElem?_cons_succ, List.set_cons_zero, List.set_cons_succ, true_and, and_true, Nat.reduceAdd, Nat.reduceLeDiff, oc_0, oc_41, v1, v2, v3, v4, w1, w2, w3, w4]
  refine ⟨_, pr_of r _ _, fun v h1 hq hv => ?_⟩
  obtain ⟨a, rfl⟩ := hv
  refine Rn_go CL_5 60 ?_
  simp only [kL_5_1689, kL_5_425, kL_5_439, xL_411, xL_412, xL_413, xL_414, xL_415, xL_416, xL_417, xL_418, xL_419, xL_420, xL_421, xL_422, tL_425, xL_426, xL_427, xL_428, xL_429, xL_430, xL_431, xL_432, xL_433, xL_434, xL_435, xL_436, tL_439, xL_442, xL_443, i_ald, i_cV, i_iadd, i_ic, i_ic_eq, i_ild, i_no, i_sld, lck_0, lck_i, lck_r, lck_n, lck_l, csum_0, csum_i, csum_r, csum_l, pops_0, pops_s, psh_n, psh_s, List.getElem?_cons_zero, List.getElem?_cons_succ, List.set_cons_zero, List.set_cons_succ, true_and, and_true, Nat.reduceAdd, Nat.reduceLeDiff, oc_0, oc_41, v1, v2, v3, v4, w1, w2, w3, w4]
  refine ⟨_, hq, fun v h2 hq2 hv => ?_⟩
  obtain ⟨e, r2⟩ := hq2
  subst e
  refine Rn_go CL_5 60 ?_
  simp only [kL_5_1689, kL_5_425, kL_5_439, xL_411, xL_412, xL_413, xL_414, xL_415, xL_416, xL_417, xL_418, xL_419, xL_420, xL_421, xL_422, tL_425, xL_426, xL_427, xL_428, xL_429, xL_430, xL_431, xL_432, xL_433, xL_434, xL_435, xL_436, tL_439, xL_442, xL_443, i_ald, i_cV, i_iadd, i_ic, i_ic_eq, i_ild, i_no, i_sld, lck_0, lck_i, lck_r, lck_n, lck_l, csum_0, csum_i, csum_r, csum_l, pops_0, pops_s, psh_n, psh_s, List.getElem?_cons_zero, List.getElem?_cons_succ, List.set_cons_zero, List.set_cons_succ, true_and, and_true, Nat.reduceAdd, Nat.reduceLeDiff, oc_0, oc_41, v1, v2, v3, v4, w1, w2, w3, w4]
  exact ⟨fun _ => hK h2 r2, fun z => absurd trivial z⟩
theorem lc_6 {xs : Nat → Int32} {N i : Nat} {h : Hp} (r : Rel h) (hi : i + 5 ≤ N) (hN : N ≤ 2560) (hK : ∀ h2, Rel h2 → Rn (TL xs N) (1689, [some (.ref 99), some (.ref 0), some (.ref 41), some (.int (nI i))], [], h2)) : Rn (TL xs N) (444, [some (.ref 99), some (.ref 0), some (.ref 41), some (.int (nI i))], [], h) := by
  obtain ⟨v1, w1⟩ : vp_in (nI i + 1) N ∧ (nI i + 1).toNatClampNeg = i + 1 := vI 1 (by decide) hi hN
  obtain ⟨v2, w2⟩ : vp_in (nI i + 2) N ∧ (nI i + 2).toNatClampNeg = i + 2 := vI 2 (by decide) hi hN
  obtain ⟨v3, w3⟩ : vp_in (nI i + 3) N ∧ (nI i + 3).toNatClampNeg = i + 3 := vI 3 (by decide) hi hN
  obtain ⟨v4, w4⟩ : vp_in (nI i + 4) N ∧ (nI i + 4).toNatClampNeg = i + 4 := vI 4 (by decide) hi hN
  refine Rn_in CL_6 60 ?_
  simp only [kL_6_1689, kL_6_458, kL_6_472, xL_444, xL_445, xL_446, xL_447, xL_448, xL_449, xL_450, xL_451, xL_452, xL_453, xL_454, xL_455, tL_458, xL_459, xL_460, xL_461, xL_462, xL_463, xL_464, xL_465, xL_466, xL_467, xL_468, xL_469, tL_472, xL_475, xL_476, i_ald, i_cV, i_iadd, i_ic, i_ic_eq, i_ild, i_no, i_sld, lck_0, lck_i, lck_r, lck_n, lck_l, csum_0, csum_i, csum_r, csum_l, pops_0, pops_s, psh_n, psh_s, List.getElem?_cons_zero, List.getElem?_cons_succ, List.set_cons_zero, List.set_cons_succ, true_and, and_true, Nat.reduceAdd, Nat.reduceLeDiff, oc_0, oc_41, v1, v2, v3, v4, w1, w2, w3, w4]
  refine ⟨_, pr_does r _ _, fun v h1 hq hv => ?_⟩
  obtain ⟨a, rfl⟩ := hv
  refine Rn_go CL_6 60 ?_
  simp only [kL_6_1689, kL_6_458, kL_6_472, xL_444, xL_445, xL_446, xL_447, xL_448, xL_449, xL_450, xL_451, xL_452, xL_453, xL_454, xL_455, tL_458, xL_459, xL_460, xL_461, xL_462, xL_463, xL_464, xL_465, xL_466, xL_467, xL_468, xL_469, tL_472, xL_475, xL_476, i_ald, i_cV, i_iadd, i_ic, i_ic_eq, i_ild, i_no, i_sld, lck_0, lck_i, lck_r, lck_n, lck_l, csum_0, csum_i, csum_r, csum_l, pops_0, pops_s, psh_n, psh_s, List.getElem?_cons_zero, List.getElem?_cons_succ, List.set_cons_zero, List.set_cons_succ, true_and, and_true, Nat.reduceAdd, Nat.reduceLeDiff, oc_0, oc_41, v1, v2, v3, v4, w1, w2, w3, w4]
  refine ⟨_, hq, fun v h2 hq2 hv => ?_⟩
  obtain ⟨e, r2⟩ := hq2
  subst e
  refine Rn_go CL_6 60 ?_
  simp only [kL_6_1689, kL_6_458, kL_6_472, xL_444, xL_445, xL_446, xL_447, xL_448, xL_449, xL_450, xL_451, xL_452, xL_453, xL_454, xL_455, tL_458, xL_459, xL_460, xL_461, xL_462, xL_463, xL_464, xL_465, xL_466, xL_467, xL_468, xL_469, tL_472, xL_475, xL_476, i_ald, i_cV, i_iadd, i_ic, i_ic_eq, i_ild, i_no, i_sld, lck_0, lck_i, lck_r, lck_n, lck_l, csum_0, csum_i, csum_r, csum_l, pops_0, pops_s, psh_n, psh_s, List.getElem?_cons_zero, List.getElem?_cons_succ, List.set_cons_zero, List.set_cons_succ, true_and, and_true, Nat.reduceAdd, Nat.reduceLeDiff, oc_0, oc_41, v1, v2, v3, v4, w1, w2, w3, w4]
  exact ⟨fun _ => hK h2 r2, fun z => absurd trivial z⟩
theorem lc_7 {xs : Nat → Int32} {N i : Nat} {h : Hp} (r : Rel h) (hi : i + 5 ≤ N) (hN : N ≤ 2560) (hK : ∀ h2, Rel h2 → Rn (TL xs N) (1689, [some (.ref 99), some (.ref 0), some (.ref 41), some (.int (nI i))], [], h2)) : Rn (TL xs N) (477, [some (.ref 99), some (.ref 0), some (.ref 41), some (.int (nI i))], [], h) := by
  obtain ⟨v1, w1⟩ : vp_in (nI i + 1) N ∧ (nI i + 1).toNatClampNeg = i + 1 := vI 1 (by decide) hi hN
  obtain ⟨v2, w2⟩ : vp_in (nI i + 2) N ∧ (nI i + 2).toNatClampNeg = i + 2 := vI 2 (by decide) hi hN
  obtain ⟨v3, w3⟩ : vp_in (nI i + 3) N ∧ (nI i + 3).toNatClampNeg = i + 3 := vI 3 (by decide) hi hN
  obtain ⟨v4, w4⟩ : vp_in (nI i + 4) N ∧ (nI i + 4).toNatClampNeg = i + 4 := vI 4 (by decide) hi hN
  refine Rn_in CL_7 60 ?_
  simp only [kL_7_1689, kL_7_491, kL_7_505, xL_477, xL_478, xL_479, xL_480, xL_481, xL_482, xL_483, xL_484, xL_485, xL_486, xL_487, xL_488, tL_491, xL_492, xL_493, xL_494, xL_495, xL_496, xL_497, xL_498, xL_499, xL_500, xL_501, xL_502, tL_505, xL_508, xL_509, i_ald, i_cV, i_iadd, i_ic, i_ic_eq, i_ild, i_no, i_sld, lck_0, lck_i, lck_r, lck_n, lck_l, csum_0, csum_i, csum_r, csum_l, pops_0, pops_s, psh_n, psh_s, List.getElem?_cons_zero, List.getElem?_cons_succ, List.set_cons_zero, List.set_cons_succ, true_and, and_true, Nat.reduceAdd, Nat.reduceLeDiff, oc_0, oc_41, v1, v2, v3, v4, w1, w2, w3, w4]
  refine ⟨_, pr_mind r _ _, fun v h1 hq hv => ?_⟩
  obtain ⟨a, rfl⟩ := hv
  refine Rn_go CL_7 60 ?_
  simp only [kL_7_1689, kL_7_491, kL_7_505, xL_477, xL_478, xL_479, xL_480, xL_481, xL_482, xL_483, xL_484, xL_485, xL_486, xL_487, xL_488, tL_491, xL_492, xL_493, xL_494, xL_495, xL_496, xL_497, xL_498, xL_499, xL_500, xL_501, xL_502, tL_505, xL_508, xL_509, i_ald, i_cV, i_iadd, i_ic, i_ic_eq, i_ild, i_no, i_sld, lck_0, lck_i, lck_r, lck_n, lck_l, csum_0, csum_i, csum_r, csum_l, pops_0, pops_s, psh_n, psh_s, List.getElem?_cons_zero, List.getElem?_cons_succ, List.set_cons_zero, List.set_cons_succ, true_and, and_true, Nat.reduceAdd, Nat.reduceLeDiff, oc_0, oc_41, v1, v2, v3, v4, w1, w2, w3, w4]
  refine ⟨_, hq, fun v h2 hq2 hv => ?_⟩
  obtain ⟨e, r2⟩ := hq2
  subst e
  refine Rn_go CL_7 60 ?_
  simp only [kL_7_1689, kL_7_491, kL_7_505, xL_477, xL_478, xL_479, xL_480, xL_481, xL_482, xL_483, xL_484, xL_485, xL_486, xL_487, xL_488, tL_491, xL_492, xL_493, xL_494, xL_495, xL_496, xL_497, xL_498, xL_499, xL_500, xL_501, xL_502, tL_505, xL_508, xL_509, i_ald, i_cV, i_iadd, i_ic, i_ic_eq, i_ild, i_no, i_sld, lck_0, lck_i, lck_r, lck_n, lck_l, csum_0, csum_i, csum_r, csum_l, pops_0, pops_s, psh_n, psh_s, List.getElem?_cons_zero, List.getElem?_cons_succ, List.set_cons_zero, List.set_cons_succ, true_and, and_true, Nat.reduceAdd, Nat.reduceLeDiff, oc_0, oc_41, v1, v2, v3, v4, w1, w2, w3, w4]
  exact ⟨fun _ => hK h2 r2, fun z => absurd trivial z⟩
theorem lc_8 {xs : Nat → Int32} {N i : Nat} {h : Hp} (r : Rel h) (hi : i + 5 ≤ N) (hN : N ≤ 2560) (hK : ∀ h2, Rel h2 → Rn (TL xs N) (1689, [some (.ref 99), some (.ref 0), some (.ref 41), some (.int (nI i))], [], h2)) : Rn (TL xs N) (510, [some (.ref 99), some (.ref 0), some (.ref 41), some (.int (nI i))], [], h) := by
  obtain ⟨v1, w1⟩ : vp_in (nI i + 1) N ∧ (nI i + 1).toNatClampNeg = i + 1 := vI 1 (by decide) hi hN
  obtain ⟨v2, w2⟩ : vp_in (nI i + 2) N ∧ (nI i + 2).toNatClampNeg = i + 2 := vI 2 (by decide) hi hN
  obtain ⟨v3, w3⟩ : vp_in (nI i + 3) N ∧ (nI i + 3).toNatClampNeg = i + 3 := vI 3 (by decide) hi hN
  obtain ⟨v4, w4⟩ : vp_in (nI i + 4) N ∧ (nI i + 4).toNatClampNeg = i + 4 := vI 4 (by decide) hi hN
  refine Rn_in CL_8 60 ?_
  simp only [kL_8_1689, kL_8_524, kL_8_538, xL_510, xL_511, xL_512, xL_513, xL_514, xL_515, xL_516, xL_517, xL_518, xL_519, xL_520, xL_521, tL_524, xL_525, xL_526, xL_527, xL_528, xL_529, xL_530, xL_531, xL_532, xL_533, xL_534, xL_535, tL_538, xL_541, xL_542, i_ald, i_cV, i_iadd, i_ic, i_ic_eq, i_ild, i_no, i_sld, lck_0, lck_i, lck_r, lck_n, lck_l, csum_0, csum_i, csum_r, csum_l, pops_0, pops_s, psh_n, psh_s, List.getElem?_cons_zero, List.getElem?_cons_succ, List.set_cons_zero, List.set_cons_succ, true_and, and_true, Nat.reduceAdd, Nat.reduceLeDiff, oc_0, oc_41, v1, v2, v3, v4, w1, w2, w3, w4]
  refine ⟨_, pr_grace r _ _, fun v h1 hq hv => ?_⟩
  obtain ⟨a, rfl⟩ := hv
  refine Rn_go CL_8 60 ?_
  simp only [kL_8_1689, kL_8_524, kL_8_538, xL_510, xL_511, xL_512, xL_513, xL_514, xL_515, xL_516, xL_517, xL_518, xL_519, xL_520, xL_521, tL_524, xL_525, xL_526, xL_527, xL_528, xL_529, xL_530, xL_531, xL_532, xL_533, xL_534, xL_535, tL_538, xL_541, xL_542, i_ald, i_cV, i_iadd, i_ic, i_ic_eq, i_ild, i_no, i_sld, lck_0, lck_i, lck_r, lck_n, lck_l, csum_0, csum_i, csum_r, csum_l, pops_0, pops_s, psh_n, psh_s, List.getElem?_cons_zero, List.getElem?_cons_succ, List.set_cons_zero, List.set_cons_succ, true_and, and_true, Nat.reduceAdd, Nat.reduceLeDiff, oc_0, oc_41, v1, v2, v3, v4, w1, w2, w3, w4]
  refine ⟨_, hq, fun v h2 hq2 hv => ?_⟩
  obtain ⟨e, r2⟩ := hq2
  subst e
  refine Rn_go CL_8 60 ?_
  simp only [kL_8_1689, kL_8_524, kL_8_538, xL_510, xL_511, xL_512, xL_513, xL_514, xL_515, xL_516, xL_517, xL_518, xL_519, xL_520, xL_521, tL_524, xL_525, xL_526, xL_527, xL_528, xL_529, xL_530, xL_531, xL_532, xL_533, xL_534, xL_535, tL_538, xL_541, xL_542, i_ald, i_cV, i_iadd, i_ic, i_ic_eq, i_ild, i_no, i_sld, lck_0, lck_i, lck_r, lck_n, lck_l, csum_0, csum_i, csum_r, csum_l, pops_0, pops_s, psh_n, psh_s, List.getElem?_cons_zero, List.getElem?_cons_succ, List.set_cons_zero, List.set_cons_succ, true_and, and_true, Nat.reduceAdd, Nat.reduceLeDiff, oc_0, oc_41, v1, v2, v3, v4, w1, w2, w3, w4]
  exact ⟨fun _ => hK h2 r2, fun z => absurd trivial z⟩
theorem lc_9 {xs : Nat → Int32} {N i : Nat} {h : Hp} (r : Rel h) (hi : i + 5 ≤ N) (hN : N ≤ 2560) (hK : ∀ h2, Rel h2 → Rn (TL xs N) (1689, [some (.ref 99), some (.ref 0), some (.ref 41), some (.int (nI i))], [], h2)) : Rn (TL xs N) (543, [some (.ref 99), some (.ref 0), some (.ref 41), some (.int (nI i))], [], h) := by
  obtain ⟨v1, w1⟩ : vp_in (nI i + 1) N ∧ (nI i + 1).toNatClampNeg = i + 1 := vI 1 (by decide) hi hN
  obtain ⟨v2, w2⟩ : vp_in (nI i + 2) N ∧ (nI i + 2).toNatClampNeg = i + 2 := vI 2 (by decide) hi hN
  obtain ⟨v3, w3⟩ : vp_in (nI i + 3) N ∧ (nI i + 3).toNatClampNeg = i + 3 := vI 3 (by decide) hi hN
  obtain ⟨v4, w4⟩ : vp_in (nI i + 4) N ∧ (nI i + 4).toNatClampNeg = i + 4 := vI 4 (by decide) hi hN
  refine Rn_in CL_9 60 ?_
  simp only [kL_9_1689, kL_9_557, kL_9_571, xL_543, xL_544, xL_545, xL_546, xL_547, xL_548, xL_549, xL_550, xL_551, xL_552, xL_553, xL_554, tL_557, xL_558, xL_559, xL_560, xL_561, xL_562, xL_563, xL_564, xL_565, xL_566, xL_567, xL_568, tL_571, xL_574, xL_575, i_ald, i_cV, i_iadd, i_ic, i_ic_eq, i_ild, i_no, i_sld, lck_0, lck_i, lck_r, lck_n, lck_l, csum_0, csum_i, csum_r, csum_l, pops_0, pops_s, psh_n, psh_s, List.getElem?_cons_zero, List.getElem?_cons_succ, List.set_cons_zero, List.set_cons_succ, true_and, and_true, Nat.reduceAdd, Nat.reduceLeDiff, oc_0, oc_41, v1, v2, v3, v4, w1, w2, w3, w4]
  refine ⟨_, pr_bring r _ _, fun v h1 hq hv => ?_⟩
  obtain ⟨a, rfl⟩ := hv
  refine Rn_go CL_9 60 ?_
  simp only [kL_9_1689, kL_9_557, kL_9_571, xL_543, xL_544, xL_545, xL_546, xL_547, xL_548, xL_549, xL_550, xL_551, xL_552, xL_553, xL_554, tL_557, xL_558, xL_559, xL_560, xL_561, xL_562, xL_563, xL_564, xL_565, xL_566, xL_567, xL_568, tL_571, xL_574, xL_575, i_ald, i_cV, i_iadd, i_ic, i_ic_eq, i_ild, i_no, i_sld, lck_0, lck_i, lck_r, lck_n, lck_l, csum_0, csum_i, csum_r, csum_l, pops_0, pops_s, psh_n, psh_s, List.getElem?_cons_zero, List.getElem?_cons_succ, List.set_cons_zero, List.set_cons_succ, true_and, and_true, Nat.reduceAdd, Nat.reduceLeDiff, oc_0, oc_41, v1, v2, v3, v4, w1, w2, w3, w4]
  refine ⟨_, hq, fun v h2 hq2 hv => ?_⟩
  obtain ⟨e, r2⟩ := hq2
  subst e
  refine Rn_go CL_9 60 ?_
  simp only [kL_9_1689, kL_9_557, kL_9_571, xL_543, xL_544, xL_545, xL_546, xL_547, xL_548, xL_549, xL_550, xL_551, xL_552, xL_553, xL_554, tL_557, xL_558, xL_559, xL_560, xL_561, xL_562, xL_563, xL_564, xL_565, xL_566, xL_567, xL_568, tL_571, xL_574, xL_575, i_ald, i_cV, i_iadd, i_ic, i_ic_eq, i_ild, i_no, i_sld, lck_0, lck_i, lck_r, lck_n, lck_l, csum_0, csum_i, csum_r, csum_l, pops_0, pops_s, psh_n, psh_s, List.getElem?_cons_zero, List.getElem?_cons_succ, List.set_cons_zero, List.set_cons_succ, true_and, and_true, Nat.reduceAdd, Nat.reduceLeDiff, oc_0, oc_41, v1, v2, v3, v4, w1, w2, w3, w4]
  exact ⟨fun _ => hK h2 r2, fun z => absurd trivial z⟩
theorem lc_10 {xs : Nat → Int32} {N i : Nat} {h : Hp} (r : Rel h) (hi : i + 5 ≤ N) (hN : N ≤ 2560) (hK : ∀ h2, Rel h2 → Rn (TL xs N) (1689, [some (.ref 99), some (.ref 0), some (.ref 41), some (.int (nI i))], [], h2)) : Rn (TL xs N) (576, [some (.ref 99), some (.ref 0), some (.ref 41), some (.int (nI i))], [], h) := by
  obtain ⟨v1, w1⟩ : vp_in (nI i + 1) N ∧ (nI i + 1).toNatClampNeg = i + 1 := vI 1 (by decide) hi hN
  obtain ⟨v2, w2⟩ : vp_in (nI i + 2) N ∧ (nI i + 2).toNatClampNeg = i + 2 := vI 2 (by decide) hi hN
  obtain ⟨v3, w3⟩ : vp_in (nI i + 3) N ∧ (nI i + 3).toNatClampNeg = i + 3 := vI 3 (by decide) hi hN
  obtain ⟨v4, w4⟩ : vp_in (nI i + 4) N ∧ (nI i + 4).toNatClampNeg = i + 4 := vI 4 (by decide) hi hN
  refine Rn_in CL_10 60 ?_
  simp only [kL_10_1689, kL_10_590, kL_10_604, xL_576, xL_577, xL_578, xL_579, xL_580, xL_581, xL_582, xL_583, xL_584, xL_585, xL_586, xL_587, tL_590, xL_591, xL_592, xL_593, xL_594, xL_595, xL_596, xL_597, xL_598, xL_599, xL_600, xL_601, tL_604, xL_607, xL_608, i_ald, i_cV, i_iadd, i_ic, i_ic_eq, i_ild, i_no, i_sld, lck_0, lck_i, lck_r, lck_n, lck_l, csum_0, csum_i, csum_r, csum_l, pops_0, pops_s, psh_n, psh_s, List.getElem?_cons_zero, List.getElem?_cons_succ, List.set_cons_zero, List.set_cons_succ, true_and, and_true, Nat.reduceAdd, Nat.reduceLeDiff, oc_0, oc_41, v1, v2, v3, v4, w1, w2, w3, w4]
  refine ⟨_, pr_await r _ _, fun v h1 hq hv => ?_⟩
  obtain ⟨a, rfl⟩ := hv
  refine Rn_go CL_10 60 ?_
  simp only [kL_10_1689, kL_10_590, kL_10_604, xL_576, xL_577, xL_578, xL_579, xL_580, xL_581, xL_582, xL_583, xL_584, xL_585, xL_586, xL_587, tL_590, xL_591, xL_592, xL_593, xL_594, xL_595, xL_596, xL_597, xL_598, xL_599, xL_600, xL_601, tL_604, xL_607, xL_608, i_ald, i_cV, i_iadd, i_ic, i_ic_eq, i_ild, i_no, i_sld, lck_0, lck_i, lck_r, lck_n, lck_l, csum_0, csum_i, csum_r, csum_l, pops_0, pops_s, psh_n, psh_s, List.getElem?_cons_zero, List.getElem?_cons_succ, List.set_cons_zero, List.set_cons_succ, true_and, and_true, Nat.reduceAdd, Nat.reduceLeDiff, oc_0, oc_41, v1, v2, v3, v4, w1, w2, w3, w4]
  refine ⟨_, hq, fun v h2 hq2 hv => ?_⟩
  obtain ⟨e, r2⟩ := hq2
  subst e
  refine Rn_go CL_10 60 ?_
  simp only [kL_10_1689, kL_10_590, kL_10_604, xL_576, xL_577, xL_578, xL_579, xL_580, xL_581, xL_582, xL_583, xL_584, xL_585, xL_586, xL_587, tL_590, xL_591, xL_592, xL_593, xL_594, xL_595, xL_596, xL_597, xL_598, xL_599, xL_600, xL_601, tL_604, xL_607, xL_608, i_ald, i_cV, i_iadd, i_ic, i_ic_eq, i_ild, i_no, i_sld, lck_0, lck_i, lck_r, lck_n, lck_l, csum_0, csum_i, csum_r, csum_l, pops_0, pops_s, psh_n, psh_s, List.getElem?_cons_zero, List.getElem?_cons_succ, List.set_cons_zero, List.set_cons_succ, true_and, and_true, Nat.reduceAdd, Nat.reduceLeDiff, oc_0, oc_41, v1, v2, v3, v4, w1, w2, w3, w4]
  exact ⟨fun _ => hK h2 r2, fun z => absurd trivial z⟩
theorem lc_11 {xs : Nat → Int32} {N i : Nat} {h : Hp} (r : Rel h) (hi : i + 5 ≤ N) (hN : N ≤ 2560) (hK : ∀ h2, Rel h2 → Rn (TL xs N) (1689, [some (.ref 99), some (.ref 0), some (.ref 41), some (.int (nI i))], [], h2)) : Rn (TL xs N) (609, [some (.ref 99), some (.ref 0), some (.ref 41), some (.int (nI i))], [], h) := by
  obtain ⟨v1, w1⟩ : vp_in (nI i + 1) N ∧ (nI i + 1).toNatClampNeg = i + 1 := vI 1 (by decide) hi hN
  obtain ⟨v2, w2⟩ : vp_in (nI i + 2) N ∧ (nI i + 2).toNatClampNeg = i + 2 := vI 2 (by decide) hi hN
  obtain ⟨v3, w3⟩ : vp_in (nI i + 3) N ∧ (nI i + 3).toNatClampNeg = i + 3 := vI 3 (by decide) hi hN
  obtain ⟨v4, w4⟩ : vp_in (nI i + 4) N ∧ (nI i + 4).toNatClampNeg = i + 4 := vI 4 (by decide) hi hN
  refine Rn_in CL_11 60 ?_
  simp only [kL_11_1689, kL_11_618, kL_11_627, xL_609, xL_610, xL_611, xL_612, xL_613, xL_614, xL_615, tL_618, xL_619, xL_620, xL_621, xL_622, xL_623, xL_624, tL_627, xL_630, xL_631, i_ald, i_cV, i_iadd, i_ic, i_ic_eq, i_ild, i_no, i_sld, lck_0, lck_i, lck_r, lck_n, lck_l, csum_0, csum_i, csum_r, csum_l, pops_0, pops_s, psh_n, psh_s, List.getElem?_cons_zero, List.getElem?_cons_succ, List.set_cons_zero, List.set_cons_succ, true_and, and_true, Nat.reduceAdd, Nat.reduceLeDiff, oc_0, oc_41, v1, v2, v3, v4, w1, w2, w3, w4]
  refine ⟨_, pr_excuse r _, fun v h1 hq hv => ?_⟩
  obtain ⟨a, rfl⟩ := hv
  refine Rn_go CL_11 60 ?_
  simp only [kL_11_1689, kL_11_618, kL_11_627, xL_609, xL_610, xL_611, xL_612, xL_613, xL_614, xL_615, tL_618, xL_619, xL_620, xL_621, xL_622, xL_623, xL_624, tL_627, xL_630, xL_631, i_ald, i_cV, i_iadd, i_ic, i_ic_eq, i_ild, i_no, i_sld, lck_0, lck_i, lck_r, lck_n, lck_l, csum_0, csum_i, csum_r, csum_l, pops_0, pops_s, psh_n, psh_s, List.getElem?_cons_zero, List.getElem?_cons_succ, List.set_cons_zero, List.set_cons_succ, true_and, and_true, Nat.reduceAdd, Nat.reduceLeDiff, oc_0, oc_41, v1, v2, v3, v4, w1, w2, w3, w4]
  refine ⟨_, hq, fun v h2 hq2 hv => ?_⟩
  obtain ⟨e, r2⟩ := hq2
  subst e
  refine Rn_go CL_11 60 ?_
  simp only [kL_11_1689, kL_11_618, kL_11_627, xL_609, xL_610, xL_611, xL_612, xL_613, xL_614, xL_615, tL_618, xL_619, xL_620, xL_621, xL_622, xL_623, xL_624, tL_627, xL_630, xL_631, i_ald, i_cV, i_iadd, i_ic, i_ic_eq, i_ild, i_no, i_sld, lck_0, lck_i, lck_r, lck_n, lck_l, csum_0, csum_i, csum_r, csum_l, pops_0, pops_s, psh_n, psh_s, List.getElem?_cons_zero, List.getElem?_cons_succ, List.set_cons_zero, List.set_cons_succ, true_and, and_true, Nat.reduceAdd, Nat.reduceLeDiff, oc_0, oc_41, v1, v2, v3, v4, w1, w2, w3, w4]
  exact ⟨fun _ => hK h2 r2, fun z => absurd trivial z⟩
theorem lc_12 {xs : Nat → Int32} {N i : Nat} {h : Hp} (r : Rel h) (hi : i + 5 ≤ N) (hN : N ≤ 2560) (hK : ∀ h2, Rel h2 → Rn (TL xs N) (1689, [some (.ref 99), some (.ref 0), some (.ref 41), some (.int (nI i))], [], h2)) : Rn (TL xs N) (632, [some (.ref 99), some (.ref 0), some (.ref 41), some (.int (nI i))], [], h) := by
  obtain ⟨v1, w1⟩ : vp_in (nI i + 1) N ∧ (nI i + 1).toNatClampNeg = i + 1 := vI 1 (by decide) hi hN
  obtain ⟨v2, w2⟩ : vp_in (nI i + 2) N ∧ (nI i + 2).toNatClampNeg = i + 2 := vI 2 (by decide) hi hN
  obtain ⟨v3, w3⟩ : vp_in (nI i + 3) N ∧ (nI i + 3).toNatClampNeg = i + 3 := vI 3 (by decide) hi hN
  obtain ⟨v4, w4⟩ : vp_in (nI i + 4) N ∧ (nI i + 4).toNatClampNeg = i + 4 := vI 4 (by decide) hi hN
  refine Rn_in CL_12 60 ?_
  simp only [kL_12_1689, kL_12_646, kL_12_660, xL_632, xL_633, xL_634, xL_635, xL_636, xL_637, xL_638, xL_639, xL_640, xL_641, xL_642, xL_643, tL_646, xL_647, xL_648, xL_649, xL_650, xL_651, xL_652, xL_653, xL_654, xL_655, xL_656, xL_657, tL_660, xL_663, xL_664, i_ald, i_cV, i_iadd, i_ic, i_ic_eq, i_ild, i_no, i_sld, lck_0, lck_i, lck_r, lck_n, lck_l, csum_0, csum_i, csum_r, csum_l, pops_0, pops_s, psh_n, psh_s, List.getElem?_cons_zero, List.getElem?_cons_succ, List.set_cons_zero, List.set_cons_succ, true_and, and_true, Nat.reduceAdd, Nat.reduceLeDiff, oc_0, oc_41, v1, v2, v3, v4, w1, w2, w3, w4]
  refine ⟨_, pr_rite r _ _, fun v h1 hq hv => ?_⟩
  obtain ⟨a, rfl⟩ := hv
  refine Rn_go CL_12 60 ?_
  simp only [kL_12_1689, kL_12_646, kL_12_660, xL_632, xL_633, xL_634, xL_635, xL_636, xL_637, xL_638, xL_639, xL_640, xL_641, xL_642, xL_643, tL_646, xL_647, xL_648, xL_649, xL_650, xL_651, xL_652, xL_653, xL_654, xL_655, xL_656, xL_657, tL_660, xL_663, xL_664, i_ald, i_cV, i_iadd, i_ic, i_ic_eq, i_ild, i_no, i_sld, lck_0, lck_i, lck_r, lck_n, lck_l, csum_0, csum_i, csum_r, csum_l, pops_0, pops_s, psh_n, psh_s, List.getElem?_cons_zero, List.getElem?_cons_succ, List.set_cons_zero, List.set_cons_succ, true_and, and_true, Nat.reduceAdd, Nat.reduceLeDiff, oc_0, oc_41, v1, v2, v3, v4, w1, w2, w3, w4]
  refine ⟨_, hq, fun v h2 hq2 hv => ?_⟩
  obtain ⟨e, r2⟩ := hq2
  subst e
  refine Rn_go CL_12 60 ?_
  simp only [kL_12_1689, kL_12_646, kL_12_660, xL_632, xL_633, xL_634, xL_635, xL_636, xL_637, xL_638, xL_639, xL_640, xL_641, xL_642, xL_643, tL_646, xL_647, xL_648, xL_649, xL_650, xL_651, xL_652, xL_653, xL_654, xL_655, xL_656, xL_657, tL_660, xL_663, xL_664, i_ald, i_cV, i_iadd, i_ic, i_ic_eq, i_ild, i_no, i_sld, lck_0, lck_i, lck_r, lck_n, lck_l, csum_0, csum_i, csum_r, csum_l, pops_0, pops_s, psh_n, psh_s, List.getElem?_cons_zero, List.getElem?_cons_succ, List.set_cons_zero, List.set_cons_succ, true_and, and_true, Nat.reduceAdd, Nat.reduceLeDiff, oc_0, oc_41, v1, v2, v3, v4, w1, w2, w3, w4]
  exact ⟨fun _ => hK h2 r2, fun z => absurd trivial z⟩
theorem lc_13 {xs : Nat → Int32} {N i : Nat} {h : Hp} (r : Rel h) (hi : i + 5 ≤ N) (hN : N ≤ 2560) (hK : ∀ h2, Rel h2 → Rn (TL xs N) (1689, [some (.ref 99), some (.ref 0), some (.ref 41), some (.int (nI i))], [], h2)) : Rn (TL xs N) (665, [some (.ref 99), some (.ref 0), some (.ref 41), some (.int (nI i))], [], h) := by
  obtain ⟨v1, w1⟩ : vp_in (nI i + 1) N ∧ (nI i + 1).toNatClampNeg = i + 1 := vI 1 (by decide) hi hN
  obtain ⟨v2, w2⟩ : vp_in (nI i + 2) N ∧ (nI i + 2).toNatClampNeg = i + 2 := vI 2 (by decide) hi hN
  obtain ⟨v3, w3⟩ : vp_in (nI i + 3) N ∧ (nI i + 3).toNatClampNeg = i + 3 := vI 3 (by decide) hi hN
  obtain ⟨v4, w4⟩ : vp_in (nI i + 4) N ∧ (nI i + 4).toNatClampNeg = i + 4 := vI 4 (by decide) hi hN
  refine Rn_in CL_13 60 ?_
  simp only [kL_13_1689, kL_13_679, kL_13_693, xL_665, xL_666, xL_667, xL_668, xL_669, xL_670, xL_671, xL_672, xL_673, xL_674, xL_675, xL_676, tL_679, xL_680, xL_681, xL_682, xL_683, xL_684, xL_685, xL_686, xL_687, xL_688, xL_689, xL_690, tL_693, xL_696, xL_697, i_ald, i_cV, i_iadd, i_ic, i_ic_eq, i_ild, i_no, i_sld, lck_0, lck_i, lck_r, lck_n, lck_l, csum_0, csum_i, csum_r, csum_l, pops_0, pops_s, psh_n, psh_s, List.getElem?_cons_zero, List.getElem?_cons_succ, List.set_cons_zero, List.set_cons_succ, true_and, and_true, Nat.reduceAdd, Nat.reduceLeDiff, oc_0, oc_41, v1, v2, v3, v4, w1, w2, w3, w4]
  refine ⟨_, pr_room r _ _, fun v h1 hq hv => ?_⟩
  obtain ⟨a, rfl⟩ := hv
  refine Rn_go CL_13 60 ?_
  simp only [kL_13_1689, kL_13_679, kL_13_693, xL_665, xL_666, xL_667, xL_668, xL_669, xL_670, xL_671, xL_672, xL_673, xL_674, xL_675, xL_676, tL_679, xL_680, xL_681, xL_682, xL_683, xL_684, xL_685, xL_686, xL_687, xL_688, xL_689, xL_690, tL_693, xL_696, xL_697, i_ald, i_cV, i_iadd, i_ic, i_ic_eq, i_ild, i_no, i_sld, lck_0, lck_i, lck_r, lck_n, lck_l, csum_0, csum_i, csum_r, csum_l, pops_0, pops_s, psh_n, psh_s, List.getElem?_cons_zero, List.getElem?_cons_succ, List.set_cons_zero, List.set_cons_succ, true_and, and_true, Nat.reduceAdd, Nat.reduceLeDiff, oc_0, oc_41, v1, v2, v3, v4, w1, w2, w3, w4]
  refine ⟨_, hq, fun v h2 hq2 hv => ?_⟩
  obtain ⟨e, r2⟩ := hq2
  subst e
  refine Rn_go CL_13 60 ?_
  simp only [kL_13_1689, kL_13_679, kL_13_693, xL_665, xL_666, xL_667, xL_668, xL_669, xL_670, xL_671, xL_672, xL_673, xL_674, xL_675, xL_676, tL_679, xL_680, xL_681, xL_682, xL_683, xL_684, xL_685, xL_686, xL_687, xL_688, xL_689, xL_690, tL_693, xL_696, xL_697, i_ald, i_cV, i_iadd, i_ic, i_ic_eq, i_ild, i_no, i_sld, lck_0, lck_i, lck_r, lck_n, lck_l, csum_0, csum_i, csum_r, csum_l, pops_0, pops_s, psh_n, psh_s, List.getElem?_cons_zero, List.getElem?_cons_succ, List.set_cons_zero, List.set_cons_succ, true_and, and_true, Nat.reduceAdd, Nat.reduceLeDiff, oc_0, oc_41, v1, v2, v3, v4, w1, w2, w3, w4]
  exact ⟨fun _ => hK h2 r2, fun z => absurd trivial z⟩
theorem lc_14 {xs : Nat → Int32} {N i : Nat} {h : Hp} (r : Rel h) (hi : i + 5 ≤ N) (hN : N ≤ 2560) (hK : ∀ h2, Rel h2 → Rn (TL xs N) (1689, [some (.ref 99), some (.ref 0), some (.ref 41), some (.int (nI i))], [], h2)) : Rn (TL xs N) (698, [some (.ref 99), some (.ref 0), some (.ref 41), some (.int (nI i))], [], h) := by
  obtain ⟨v1, w1⟩ : vp_in (nI i + 1) N ∧ (nI i + 1).toNatClampNeg = i + 1 := vI 1 (by decide) hi hN
  obtain ⟨v2, w2⟩ : vp_in (nI i + 2) N ∧ (nI i + 2).toNatClampNeg = i + 2 := vI 2 (by decide) hi hN
  obtain ⟨v3, w3⟩ : vp_in (nI i + 3) N ∧ (nI i + 3).toNatClampNeg = i + 3 := vI 3 (by decide) hi hN
  obtain ⟨v4, w4⟩ : vp_in (nI i + 4) N ∧ (nI i + 4).toNatClampNeg = i + 4 := vI 4 (by decide) hi hN
  refine Rn_in CL_14 60 ?_
  simp only [kL_14_1689, kL_14_707, kL_14_716, xL_698, xL_699, xL_700, xL_701, xL_702, xL_703, xL_704, tL_707, xL_708, xL_709, xL_710, xL_711, xL_712, xL_713, tL_716, xL_719, xL_720, i_ald, i_cV, i_iadd, i_ic, i_ic_eq, i_ild, i_no, i_sld, lck_0, lck_i, lck_r, lck_n, lck_l, csum_0, csum_i, csum_r, csum_l, pops_0, pops_s, psh_n, psh_s, List.getElem?_cons_zero, List.getElem?_cons_succ, List.set_cons_zero, List.set_cons_succ, true_and, and_true, Nat.reduceAdd, Nat.reduceLeDiff, oc_0, oc_41, v1, v2, v3, v4, w1, w2, w3, w4]
  refine ⟨_, pr_occasions r _, fun v h1 hq hv => ?_⟩
  obtain ⟨a, rfl⟩ := hv
  refine Rn_go CL_14 60 ?_
  simp only [kL_14_1689, kL_14_707, kL_14_716, xL_698, xL_699, xL_700, xL_701, xL_702, xL_703, xL_704, tL_707, xL_708, xL_709, xL_710, xL_711, xL_712, xL_713, tL_716, xL_719, xL_720, i_ald, i_cV, i_iadd, i_ic, i_ic_eq, i_ild, i_no, i_sld, lck_0, lck_i, lck_r, lck_n, lck_l, csum_0, csum_i, csum_r, csum_l, pops_0, pops_s, psh_n, psh_s, List.getElem?_cons_zero, List.getElem?_cons_succ, List.set_cons_zero, List.set_cons_succ, true_and, and_true, Nat.reduceAdd, Nat.reduceLeDiff, oc_0, oc_41, v1, v2, v3, v4, w1, w2, w3, w4]
  refine ⟨_, hq, fun v h2 hq2 hv => ?_⟩
  obtain ⟨e, r2⟩ := hq2
  subst e
  refine Rn_go CL_14 60 ?_
  simp only [kL_14_1689, kL_14_707, kL_14_716, xL_698, xL_699, xL_700, xL_701, xL_702, xL_703, xL_704, tL_707, xL_708, xL_709, xL_710, xL_711, xL_712, xL_713, tL_716, xL_719, xL_720, i_ald, i_cV, i_iadd, i_ic, i_ic_eq, i_ild, i_no, i_sld, lck_0, lck_i, lck_r, lck_n, lck_l, csum_0, csum_i, csum_r, csum_l, pops_0, pops_s, psh_n, psh_s, List.getElem?_cons_zero, List.getElem?_cons_succ, List.set_cons_zero, List.set_cons_succ, true_and, and_true, Nat.reduceAdd, Nat.reduceLeDiff, oc_0, oc_41, v1, v2, v3, v4, w1, w2, w3, w4]
  exact ⟨fun _ => hK h2 r2, fun z => absurd trivial z⟩
theorem lc_15 {xs : Nat → Int32} {N i : Nat} {h : Hp} (r : Rel h) (hi : i + 5 ≤ N) (hN : N ≤ 2560) (hK : ∀ h2, Rel h2 → Rn (TL xs N) (1689, [some (.ref 99), some (.ref 0), some (.ref 41), some (.int (nI i))], [], h2)) : Rn (TL xs N) (721, [some (.ref 99), some (.ref 0), some (.ref 41), some (.int (nI i))], [], h) := by
  obtain ⟨v1, w1⟩ : vp_in (nI i + 1) N ∧ (nI i + 1).toNatClampNeg = i + 1 := vI 1 (by decide) hi hN
  obtain ⟨v2, w2⟩ : vp_in (nI i + 2) N ∧ (nI i + 2).toNatClampNeg = i + 2 := vI 2 (by decide) hi hN
  obtain ⟨v3, w3⟩ : vp_in (nI i + 3) N ∧ (nI i + 3).toNatClampNeg = i + 3 := vI 3 (by decide) hi hN
  obtain ⟨v4, w4⟩ : vp_in (nI i + 4) N ∧ (nI i + 4).toNatClampNeg = i + 4 := vI 4 (by decide) hi hN
  refine Rn_in CL_15 60 ?_
  simp only [kL_15_1689, kL_15_730, kL_15_739, xL_721, xL_722, xL_723, xL_724, xL_725, xL_726, xL_727, tL_730, xL_731, xL_732, xL_733, xL_734, xL_735, xL_736, tL_739, xL_742, xL_743, i_ald, i_cV, i_iadd, i_ic, i_ic_eq, i_ild, i_no, i_sld, lck_0, lck_i, lck_r, lck_n, lck_l, csum_0, csum_i, csum_r, csum_l, pops_0, pops_s, psh_n, psh_s, List.getElem?_cons_zero, List.getElem?_cons_succ, List.set_cons_zero, List.set_cons_succ, true_and, and_true, Nat.reduceAdd, Nat.reduceLeDiff, oc_0, oc_41, v1, v2, v3, v4, w1, w2, w3, w4]
  refine ⟨_, pr_seed r _, fun v h1 hq hv => ?_⟩
  obtain ⟨a, rfl⟩ := hv
  refine Rn_go CL_15 60 ?_
  simp only [kL_15_1689, kL_15_730, kL_15_739, xL_721, xL_722, xL_723, xL_724, xL_725, xL_726, xL_727, tL_730, xL_731, xL_732, xL_733, xL_734, xL_735, xL_736, tL_739, xL_742, xL_743, i_ald, i_cV, i_iadd, i_ic, i_ic_eq, i_ild, i_no, i_sld, lck_0, lck_i, lck_r, lck_n, lck_l, csum_0, csum_i, csum_r, csum_l, pops_0, pops_s, psh_n, psh_s, List.getElem?_cons_zero, List.getElem?_cons_succ, List.set_cons_zero, List.set_cons_succ, true_and, and_true, Nat.reduceAdd, Nat.reduceLeDiff, oc_0, oc_41, v1, v2, v3, v4, w1, w2, w3, w4]
  refine ⟨_, hq, fun v h2 hq2 hv => ?_⟩
  obtain ⟨e, r2⟩ := hq2
  subst e
  refine Rn_go CL_15 60 ?_
  simp only [kL_15_1689, kL_15_730, kL_15_739, xL_721, xL_722, xL_723, xL_724, xL_725, xL_726, xL_727, tL_730, xL_731, xL_732, xL_733, xL_734, xL_735, xL_736, tL_739, xL_742, xL_743, i_ald, i_cV, i_iadd, i_ic, i_ic_eq, i_ild, i_no, i_sld, lck_0, lck_i, lck_r, lck_n, lck_l, csum_0, csum_i, csum_r, csum_l, pops_0, pops_s, psh_n, psh_s, List.getElem?_cons_zero, List.getElem?_cons_succ, List.set_cons_zero, List.set_cons_succ, true_and, and_true, Nat.reduceAdd, Nat.reduceLeDiff, oc_0, oc_41, v1, v2, v3, v4, w1, w2, w3, w4]
  exact ⟨fun _ => hK h2 r2, fun z => absurd trivial z⟩
theorem lc_16 {xs : Nat → Int32} {N i : Nat} {h : Hp} (r : Rel h) (hi : i + 5 ≤ N) (hN : N ≤ 2560) (hK : ∀ h2, Rel h2 → Rn (TL xs N) (1689, [some (.ref 99), some (.ref 0), some (.ref 41), some (.int (nI i))], [], h2)) : Rn (TL xs N) (744, [some (.ref 99), some (.ref 0), some (.ref 41), some (.int (nI i))], [], h) := by
  obtain ⟨v1, w1⟩ : vp_in (nI i + 1) N ∧ (nI i + 1).toNatClampNeg = i + 1 := vI 1 (by decide) hi hN
  obtain ⟨v2, w2⟩ : vp_in (nI i + 2) N ∧ (nI i + 2).toNatClampNeg = i + 2 := vI 2 (by decide) hi hN
  obtain ⟨v3, w3⟩ : vp_in (nI i + 3) N ∧ (nI i + 3).toNatClampNeg = i + 3 := vI 3 (by decide) hi hN
  obtain ⟨v4, w4⟩ : vp_in (nI i + 4) N ∧ (nI i + 4).toNatClampNeg = i + 4 := vI 4 (by decide) hi hN
  refine Rn_in CL_16 60 ?_
  simp only [kL_16_1689, kL_16_748, kL_16_752, xL_744, xL_745, tL_748, xL_749, tL_752, xL_755, xL_756, i_ald, i_cV, i_ic, i_ic_eq, i_no, lck_0, lck_i, lck_r, lck_n, lck_l, csum_0, csum_i, csum_r, csum_l, pops_0, pops_s, psh_n, psh_s, List.getElem?_cons_zero, List.getElem?_cons_succ, List.set_cons_zero, List.set_cons_succ, true_and, and_true, Nat.reduceAdd, Nat.reduceLeDiff, oc_0, oc_41, v1, v2, v3, v4, w1, w2, w3, w4]
  refine ⟨_, pr_occasion r, fun v h1 hq hv => ?_⟩
  obtain ⟨a, rfl⟩ := hv
  refine Rn_go CL_16 60 ?_
  simp only [kL_16_1689, kL_16_748, kL_16_752, xL_744, xL_745, tL_748, xL_749, tL_752, xL_755, xL_756, i_ald, i_cV, i_ic, i_ic_eq, i_no, lck_0, lck_i, lck_r, lck_n, lck_l, csum_0, csum_i, csum_r, csum_l, pops_0, pops_s, psh_n, psh_s, List.getElem?_cons_zero, List.getElem?_cons_succ, List.set_cons_zero, List.set_cons_succ, true_and, and_true, Nat.reduceAdd, Nat.reduceLeDiff, oc_0, oc_41, v1, v2, v3, v4, w1, w2, w3, w4]
  refine ⟨_, hq, fun v h2 hq2 hv => ?_⟩
  obtain ⟨e, r2⟩ := hq2
  subst e
  refine Rn_go CL_16 60 ?_
  simp only [kL_16_1689, kL_16_748, kL_16_752, xL_744, xL_745, tL_748, xL_749, tL_752, xL_755, xL_756, i_ald, i_cV, i_ic, i_ic_eq, i_no, lck_0, lck_i, lck_r, lck_n, lck_l, csum_0, csum_i, csum_r, csum_l, pops_0, pops_s, psh_n, psh_s, List.getElem?_cons_zero, List.getElem?_cons_succ, List.set_cons_zero, List.set_cons_succ, true_and, and_true, Nat.reduceAdd, Nat.reduceLeDiff, oc_0, oc_41, v1, v2, v3, v4, w1, w2, w3, w4]
  exact ⟨fun _ => hK h2 r2, fun z => absurd trivial z⟩
theorem lc_17 {xs : Nat → Int32} {N i : Nat} {h : Hp} (r : Rel h) (hi : i + 5 ≤ N) (hN : N ≤ 2560) (hK : ∀ h2, Rel h2 → Rn (TL xs N) (1689, [some (.ref 99), some (.ref 0), some (.ref 41), some (.int (nI i))], [], h2)) : Rn (TL xs N) (757, [some (.ref 99), some (.ref 0), some (.ref 41), some (.int (nI i))], [], h) := by
  obtain ⟨v1, w1⟩ : vp_in (nI i + 1) N ∧ (nI i + 1).toNatClampNeg = i + 1 := vI 1 (by decide) hi hN
  obtain ⟨v2, w2⟩ : vp_in (nI i + 2) N ∧ (nI i + 2).toNatClampNeg = i + 2 := vI 2 (by decide) hi hN
  obtain ⟨v3, w3⟩ : vp_in (nI i + 3) N ∧ (nI i + 3).toNatClampNeg = i + 3 := vI 3 (by decide) hi hN
  obtain ⟨v4, w4⟩ : vp_in (nI i + 4) N ∧ (nI i + 4).toNatClampNeg = i + 4 := vI 4 (by decide) hi hN
  refine Rn_in CL_17 60 ?_
  simp only [kL_17_1689, kL_17_766, kL_17_775, xL_757, xL_758, xL_759, xL_760, xL_761, xL_762, xL_763, tL_766, xL_767, xL_768, xL_769, xL_770, xL_771, xL_772, tL_775, xL_778, xL_779, i_ald, i_cV, i_iadd, i_ic, i_ic_eq, i_ild, i_no, i_sld, lck_0, lck_i, lck_r, lck_n, lck_l, csum_0, csum_i, csum_r, csum_l, pops_0, pops_s, psh_n, psh_s, List.getElem?_cons_zero, List.getElem?_cons_succ, List.set_cons_zero, List.set_cons_succ, true_and, and_true, Nat.reduceAdd, Nat.reduceLeDiff, oc_0, oc_41, v1, v2, v3, v4, w1, w2, w3, w4]
  refine ⟨_, pr_luck r _, fun v h1 hq hv => ?_⟩
  obtain ⟨a, rfl⟩ := hv
  refine Rn_go CL_17 60 ?_
  simp only [kL_17_1689, kL_17_766, kL_17_775, xL_757, xL_758, xL_759, xL_760, xL_761, xL_762, xL_763, tL_766, xL_767, xL_768, xL_769, xL_770, xL_771, xL_772, tL_775, xL_778, xL_779, i_ald, i_cV, i_iadd, i_ic, i_ic_eq, i_ild, i_no, i_sld, lck_0, lck_i, lck_r, lck_n, lck_l, csum_0, csum_i, csum_r, csum_l, pops_0, pops_s, psh_n, psh_s, List.getElem?_cons_zero, List.getElem?_cons_succ, List.set_cons_zero, List.set_cons_succ, true_and, and_true, Nat.reduceAdd, Nat.reduceLeDiff, oc_0, oc_41, v1, v2, v3, v4, w1, w2, w3, w4]
  refine ⟨_, hq, fun v h2 hq2 hv => ?_⟩
  obtain ⟨e, r2⟩ := hq2
  subst e
  refine Rn_go CL_17 60 ?_
  simp only [kL_17_1689, kL_17_766, kL_17_775, xL_757, xL_758, xL_759, xL_760, xL_761, xL_762, xL_763, tL_766, xL_767, xL_768, xL_769, xL_770, xL_771, xL_772, tL_775, xL_778, xL_779, i_ald, i_cV, i_iadd, i_ic, i_ic_eq, i_ild, i_no, i_sld, lck_0, lck_i, lck_r, lck_n, lck_l, csum_0, csum_i, csum_r, csum_l, pops_0, pops_s, psh_n, psh_s, List.getElem?_cons_zero, List.getElem?_cons_succ, List.set_cons_zero, List.set_cons_succ, true_and, and_true, Nat.reduceAdd, Nat.reduceLeDiff, oc_0, oc_41, v1, v2, v3, v4, w1, w2, w3, w4]
  exact ⟨fun _ => hK h2 r2, fun z => absurd trivial z⟩
theorem lc_18 {xs : Nat → Int32} {N i : Nat} {h : Hp} (r : Rel h) (hi : i + 5 ≤ N) (hN : N ≤ 2560) (hK : ∀ h2, Rel h2 → Rn (TL xs N) (1689, [some (.ref 99), some (.ref 0), some (.ref 41), some (.int (nI i))], [], h2)) : Rn (TL xs N) (780, [some (.ref 99), some (.ref 0), some (.ref 41), some (.int (nI i))], [], h) := by
  obtain ⟨v1, w1⟩ : vp_in (nI i + 1) N ∧ (nI i + 1).toNatClampNeg = i + 1 := vI 1 (by decide) hi hN
  obtain ⟨v2, w2⟩ : vp_in (nI i + 2) N ∧ (nI i + 2).toNatClampNeg = i + 2 := vI 2 (by decide) hi hN
  obtain ⟨v3, w3⟩ : vp_in (nI i + 3) N ∧ (nI i + 3).toNatClampNeg = i + 3 := vI 3 (by decide) hi hN
  obtain ⟨v4, w4⟩ : vp_in (nI i + 4) N ∧ (nI i + 4).toNatClampNeg = i + 4 := vI 4 (by decide) hi hN
  refine Rn_in CL_18 60 ?_
  simp only [kL_18_1689, kL_18_789, kL_18_798, xL_780, xL_781, xL_782, xL_783, xL_784, xL_785, xL_786, tL_789, xL_790, xL_791, xL_792, xL_793, xL_794, xL_795, tL_798, xL_801, xL_802, i_ald, i_cV, i_iadd, i_ic, i_ic_eq, i_ild, i_no, i_sld, lck_0, lck_i, lck_r, lck_n, lck_l, csum_0, csum_i, csum_r, csum_l, pops_0, pops_s, psh_n, psh_s, List.getElem?_cons_zero, List.getElem?_cons_succ, List.set_cons_zero, List.set_cons_succ, true_and, and_true, Nat.reduceAdd, Nat.reduceLeDiff, oc_0, oc_41, v1, v2, v3, v4, w1, w2, w3, w4]
  refine ⟨_, pr_state r _, fun v h1 hq hv => ?_⟩
  obtain ⟨a, rfl⟩ := hv
  refine Rn_go CL_18 60 ?_
  simp only [kL_18_1689, kL_18_789, kL_18_798, xL_780, xL_781, xL_782, xL_783, xL_784, xL_785, xL_786, tL_789, xL_790, xL_791, xL_792, xL_793, xL_794, xL_795, tL_798, xL_801, xL_802, i_ald, i_cV, i_iadd, i_ic, i_ic_eq, i_ild, i_no, i_sld, lck_0, lck_i, lck_r, lck_n, lck_l, csum_0, csum_i, csum_r, csum_l, pops_0, pops_s, psh_n, psh_s, List.getElem?_cons_zero, List.getElem?_cons_succ, List.set_cons_zero, List.set_cons_succ, true_and, and_true, Nat.reduceAdd, Nat.reduceLeDiff, oc_0, oc_41, v1, v2, v3, v4, w1, w2, w3, w4]
  refine ⟨_, hq, fun v h2 hq2 hv => ?_⟩
  obtain ⟨e, r2⟩ := hq2
  subst e
  refine Rn_go CL_18 60 ?_
  simp only [kL_18_1689, kL_18_789, kL_18_798, xL_780, xL_781, xL_782, xL_783, xL_784, xL_785, xL_786, tL_789, xL_790, xL_791, xL_792, xL_793, xL_794, xL_795, tL_798, xL_801, xL_802, i_ald, i_cV, i_iadd, i_ic, i_ic_eq, i_ild, i_no, i_sld, lck_0, lck_i, lck_r, lck_n, lck_l, csum_0, csum_i, csum_r, csum_l, pops_0, pops_s, psh_n, psh_s, List.getElem?_cons_zero, List.getElem?_cons_succ, List.set_cons_zero, List.set_cons_succ, true_and, and_true, Nat.reduceAdd, Nat.reduceLeDiff, oc_0, oc_41, v1, v2, v3, v4, w1, w2, w3, w4]
  exact ⟨fun _ => hK h2 r2, fun z => absurd trivial z⟩
theorem lc_19 {xs : Nat → Int32} {N i : Nat} {h : Hp} (r : Rel h) (hi : i + 5 ≤ N) (hN : N ≤ 2560) (hK : ∀ h2, Rel h2 → Rn (TL xs N) (1689, [some (.ref 99), some (.ref 0), some (.ref 41), some (.int (nI i))], [], h2)) : Rn (TL xs N) (803, [some (.ref 99), some (.ref 0), some (.ref 41), some (.int (nI i))], [], h) := by
  obtain ⟨v1, w1⟩ : vp_in (nI i + 1) N ∧ (nI i + 1).toNatClampNeg = i + 1 := vI 1 (by decide) hi hN
  obtain ⟨v2, w2⟩ : vp_in (nI i + 2) N ∧ (nI i + 2).toNatClampNeg = i + 2 := vI 2 (by decide) hi hN
  obtain ⟨v3, w3⟩ : vp_in (nI i + 3) N ∧ (nI i + 3).toNatClampNeg = i + 3 := vI 3 (by decide) hi hN
  obtain ⟨v4, w4⟩ : vp_in (nI i + 4) N ∧ (nI i + 4).toNatClampNeg = i + 4 := vI 4 (by decide) hi hN
  refine Rn_in CL_19 60 ?_
  simp only [kL_19_1689, kL_19_817, kL_19_831, xL_803, xL_804, xL_805, xL_806, xL_807, xL_808, xL_809, xL_810, xL_811, xL_812, xL_813, xL_814, tL_817, xL_818, xL_819, xL_820, xL_821, xL_822, xL_823, xL_824, xL_825, xL_826, xL_827, xL_828, tL_831, xL_834, xL_835, i_ald, i_cV, i_iadd, i_ic, i_ic_eq, i_ild, i_no, i_sld, lck_0, lck_i, lck_r, lck_n, lck_l, csum_0, csum_i, csum_r, csum_l, pops_0, pops_s, psh_n, psh_s, List.getElem?_cons_zero, List.getElem?_cons_succ, List.set_cons_zero, List.set_cons_succ, true_and, and_true, Nat.reduceAdd, Nat.reduceLeDiff, oc_0, oc_41, v1, v2, v3, v4, w1, w2, w3, w4]
  refine ⟨_, pr_where r _ _, fun v h1 hq hv => ?_⟩
  obtain ⟨a, rfl⟩ := hv
  refine Rn_go CL_19 60 ?_
  simp only [kL_19_1689, kL_19_817, kL_19_831, xL_803, xL_804, xL_805, xL_806, xL_807, xL_808, xL_809, xL_810, xL_811, xL_812, xL_813, xL_814, tL_817, xL_818, xL_819, xL_820, xL_821, xL_822, xL_823, xL_824, xL_825, xL_826, xL_827, xL_828, tL_831, xL_834, xL_835, i_ald, i_cV, i_iadd, i_ic, i_ic_eq, i_ild, i_no, i_sld, lck_0, lck_i, lck_r, lck_n, lck_l, csum_0, csum_i, csum_r, csum_l, pops_0, pops_s, psh_n, psh_s, List.getElem?_cons_zero, List.getElem?_cons_succ, List.set_cons_zero, List.set_cons_succ, true_and, and_true, Nat.reduceAdd, Nat.reduceLeDiff, oc_0, oc_41, v1, v2, v3, v4, w1, w2, w3, w4]
  refine ⟨_, hq, fun v h2 hq2 hv => ?_⟩
  obtain ⟨e, r2⟩ := hq2
  subst e
  refine Rn_go CL_19 60 ?_
  simp only [kL_19_1689, kL_19_817, kL_19_831, xL_803, xL_804, xL_805, xL_806, xL_807, xL_808, xL_809, xL_810, xL_811, xL_812, xL_813, xL_814, tL_817, xL_818, xL_819, xL_820, xL_821, xL_822, xL_823, xL_824, xL_825, xL_826, xL_827, xL_828, tL_831, xL_834, xL_835, i_ald, i_cV, i_iadd, i_ic, i_ic_eq, i_ild, i_no, i_sld, lck_0, lck_i, lck_r, lck_n, lck_l, csum_0, csum_i, csum_r, csum_l, pops_0, pops_s, psh_n, psh_s, List.getElem?_cons_zero, List.getElem?_cons_succ, List.set_cons_zero, List.set_cons_succ, true_and, and_true, Nat.reduceAdd, Nat.reduceLeDiff, oc_0, oc_41, v1, v2, v3, v4, w1, w2, w3, w4]
  exact ⟨fun _ => hK h2 r2, fun z => absurd trivial z⟩
theorem lc_20 {xs : Nat → Int32} {N i : Nat} {h : Hp} (r : Rel h) (hi : i + 5 ≤ N) (hN : N ≤ 2560) (hK : ∀ h2, Rel h2 → Rn (TL xs N) (1689, [some (.ref 99), some (.ref 0), some (.ref 41), some (.int (nI i))], [], h2)) : Rn (TL xs N) (836, [some (.ref 99), some (.ref 0), some (.ref 41), some (.int (nI i))], [], h) := by
  obtain ⟨v1, w1⟩ : vp_in (nI i + 1) N ∧ (nI i + 1).toNatClampNeg = i + 1 := vI 1 (by decide) hi hN
  obtain ⟨v2, w2⟩ : vp_in (nI i + 2) N ∧ (nI i + 2).toNatClampNeg = i + 2 := vI 2 (by decide) hi hN
  obtain ⟨v3, w3⟩ : vp_in (nI i + 3) N ∧ (nI i + 3).toNatClampNeg = i + 3 := vI 3 (by decide) hi hN
  obtain ⟨v4, w4⟩ : vp_in (nI i + 4) N ∧ (nI i + 4).toNatClampNeg = i + 4 := vI 4 (by decide) hi hN
  refine Rn_in CL_20 60 ?_
  simp only [kL_20_1689, kL_20_845, kL_20_854, xL_836, xL_837, xL_838, xL_839, xL_840, xL_841, xL_842, tL_845, xL_846, xL_847, xL_848, xL_849, xL_850, xL_851, tL_854, xL_857, xL_858, i_ald, i_cV, i_iadd, i_ic, i_ic_eq, i_ild, i_no, i_sld, lck_0, lck_i, lck_r, lck_n, lck_l, csum_0, csum_i, csum_r, csum_l, pops_0, pops_s, psh_n, psh_s, List.getElem?_cons_zero, List.getElem?_cons_succ, List.set_cons_zero, List.set_cons_succ, true_and, and_true, Nat.reduceAdd, Nat.reduceLeDiff, oc_0, oc_41, v1, v2, v3, v4, w1, w2, w3, w4]
  refine ⟨_, pr_leaves r _, fun v h1 hq hv => ?_⟩
  obtain ⟨a, rfl⟩ := hv
  refine Rn_go CL_20 60 ?_
  simp only [kL_20_1689, kL_20_845, kL_20_854, xL_836, xL_837, xL_838, xL_839, xL_840, xL_841, xL_842, tL_845, xL_846, xL_847, xL_848, xL_849, xL_850, xL_851, tL_854, xL_857, xL_858, i_ald, i_cV, i_iadd, i_ic, i_ic_eq, i_ild, i_no, i_sld, lck_0, lck_i, lck_r, lck_n, lck_l, csum_0, csum_i, csum_r, csum_l, pops_0, pops_s, psh_n, psh_s, List.getElem?_cons_zero, List.getElem?_cons_succ, List.set_cons_zero, List.set_cons_succ, true_and, and_true, Nat.reduceAdd, Nat.reduceLeDiff, oc_0, oc_41, v1, v2, v3, v4, w1, w2, w3, w4]
  refine ⟨_, hq, fun v h2 hq2 hv => ?_⟩
  obtain ⟨e, r2⟩ := hq2
  subst e
  refine Rn_go CL_20 60 ?_
  simp only [kL_20_1689, kL_20_845, kL_20_854, xL_836, xL_837, xL_838, xL_839, xL_840, xL_841, xL_842, tL_845, xL_846, xL_847, xL_848, xL_849, xL_850, xL_851, tL_854, xL_857, xL_858, i_ald, i_cV, i_iadd, i_ic, i_ic_eq, i_ild, i_no, i_sld, lck_0, lck_i, lck_r, lck_n, lck_l, csum_0, csum_i, csum_r, csum_l, pops_0, pops_s, psh_n, psh_s, List.getElem?_cons_zero, List.getElem?_cons_succ, List.set_cons_zero, List.set_cons_succ, true_and, and_true, Nat.reduceAdd, Nat.reduceLeDiff, oc_0, oc_41, v1, v2, v3, v4, w1, w2, w3, w4]
  exact ⟨fun _ => hK h2 r2, fun z => absurd trivial z⟩
theorem lc_21 {xs : Nat → Int32} {N i : Nat} {h : Hp} (r : Rel h) (hi : i + 5 ≤ N) (hN : N ≤ 2560) (hK : ∀ h2, Rel h2 → Rn (TL xs N) (1689, [some (.ref 99), some (.ref 0), some (.ref 41), some (.int (nI i))], [], h2)) : Rn (TL xs N) (859, [some (.ref 99), some (.ref 0), some (.ref 41), some (.int (nI i))], [], h) := by
  obtain ⟨v1, w1⟩ : vp_in (nI i + 1) N ∧ (nI i + 1).toNatClampNeg = i + 1 := vI 1 (by decide) hi hN
  obtain ⟨v2, w2⟩ : vp_in (nI i + 2) N ∧ (nI i + 2).toNatClampNeg = i + 2 := vI 2 (by decide) hi hN
  obtain ⟨v3, w3⟩ : vp_in (nI i + 3) N ∧ (nI i + 3).toNatClampNeg = i + 3 := vI 3 (by decide) hi hN
  obtain ⟨v4, w4⟩ : vp_in (nI i + 4) N ∧ (nI i + 4).toNatClampNeg = i + 4 := vI 4 (by decide) hi hN
  refine Rn_in CL_21 60 ?_
  simp only [kL_21_1689, kL_21_863, kL_21_867, xL_859, xL_860, tL_863, xL_864, tL_867, xL_870, xL_871, i_ald, i_cV, i_ic, i_ic_eq, i_no, lck_0, lck_i, lck_r, lck_n, lck_l, csum_0, csum_i, csum_r, csum_l, pops_0, pops_s, psh_n, psh_s, List.getElem?_cons_zero, List.getElem?_cons_succ, List.set_cons_zero, List.set_cons_succ, true_and, and_true, Nat.reduceAdd, Nat.reduceLeDiff, oc_0, oc_41, v1, v2, v3, v4, w1, w2, w3, w4]
  refine ⟨_, pr_empty r, fun v h1 hq hv => ?_⟩
  obtain ⟨a, rfl⟩ := hv
  refine Rn_go CL_21 60 ?_
  simp only [kL_21_1689, kL_21_863, kL_21_867, xL_859, xL_860, tL_863, xL_864, tL_867, xL_870, xL_871, i_ald, i_cV, i_ic, i_ic_eq, i_no, lck_0, lck_i, lck_r, lck_n, lck_l, csum_0, csum_i, csum_r, csum_l, pops_0, pops_s, psh_n, psh_s, List.getElem?_cons_zero, List.getElem?_cons_succ, List.set_cons_zero, List.set_cons_succ, true_and, and_true, Nat.reduceAdd, Nat.reduceLeDiff, oc_0, oc_41, v1, v2, v3, v4, w1, w2, w3, w4]
  refine ⟨_, hq, fun v h2 hq2 hv => ?_⟩
  obtain ⟨e, r2⟩ := hq2
  subst e
  refine Rn_go CL_21 60 ?_
  simp only [kL_21_1689, kL_21_863, kL_21_867, xL_859, xL_860, tL_863, xL_864, tL_867, xL_870, xL_871, i_ald, i_cV, i_ic, i_ic_eq, i_no, lck_0, lck_i, lck_r, lck_n, lck_l, csum_0, csum_i, csum_r, csum_l, pops_0, pops_s, psh_n, psh_s, List.getElem?_cons_zero, List.getElem?_cons_succ, List.set_cons_zero, List.set_cons_succ, true_and, and_true, Nat.reduceAdd, Nat.reduceLeDiff, oc_0, oc_41, v1, v2, v3, v4, w1, w2, w3, w4]
  exact ⟨fun _ => hK h2 r2, fun z => absurd trivial z⟩
theorem lc_22 {xs : Nat → Int32} {N i : Nat} {h : Hp} (r : Rel h) (hi : i + 5 ≤ N) (hN : N ≤ 2560) (hK : ∀ h2, Rel h2 → Rn (TL xs N) (1689, [some (.ref 99), some (.ref 0), some (.ref 41), some (.int (nI i))], [], h2)) : Rn (TL xs N) (872, [some (.ref 99), some (.ref 0), some (.ref 41), some (.int (nI i))], [], h) := by
  obtain ⟨v1, w1⟩ : vp_in (nI i + 1) N ∧ (nI i + 1).toNatClampNeg = i + 1 := vI 1 (by decide) hi hN
  obtain ⟨v2, w2⟩ : vp_in (nI i + 2) N ∧ (nI i + 2).toNatClampNeg = i + 2 := vI 2 (by decide) hi hN
  obtain ⟨v3, w3⟩ : vp_in (nI i + 3) N ∧ (nI i + 3).toNatClampNeg = i + 3 := vI 3 (by decide) hi hN
  obtain ⟨v4, w4⟩ : vp_in (nI i + 4) N ∧ (nI i + 4).toNatClampNeg = i + 4 := vI 4 (by decide) hi hN
  refine Rn_in CL_22 60 ?_
  simp only [kL_22_1689, kL_22_886, kL_22_900, xL_872, xL_873, xL_874, xL_875, xL_876, xL_877, xL_878, xL_879, xL_880, xL_881, xL_882, xL_883, tL_886, xL_887, xL_888, xL_889, xL_890, xL_891, xL_892, xL_893, xL_894, xL_895, xL_896, xL_897, tL_900, xL_903, xL_904, i_ald, i_cV, i_iadd, i_ic, i_ic_eq, i_ild, i_no, i_sld, lck_0, lck_i, lck_r, lck_n, lck_l, csum_0, csum_i, csum_r, csum_l, pops_0, pops_s, psh_n, psh_s, List.getElem?_cons_zero, List.getElem?_cons_succ, List.set_cons_zero, List.set_cons_succ, true_and, and_true, Nat.reduceAdd, Nat.reduceLeDiff, oc_0, oc_41, v1, v2, v3, v4, w1, w2, w3, w4]
  refine ⟨_, pr_passes r _ _, fun v h1 hq hv => ?_⟩
  obtain ⟨a, rfl⟩ := hv
  refine Rn_go CL_22 60 ?_
  simp only [kL_22_1689, kL_22_886, kL_22_900, xL_872, xL_873, xL_874, xL_875, xL_876, xL_877, xL_878, xL_879, xL_880, xL_881, xL_882, xL_883, tL_886, xL_887, xL_888, xL_889, xL_890, xL_891, xL_892, xL_893, xL_894, xL_895, xL_896, xL_897, tL_900, xL_903, xL_904, i_ald, i_cV, i_iadd, i_ic, i_ic_eq, i_ild, i_no, i_sld, lck_0, lck_i, lck_r, lck_n, lck_l, csum_0, csum_i, csum_r, csum_l, pops_0, pops_s, psh_n, psh_s, List.getElem?_cons_zero, List.getElem?_cons_succ, List.set_cons_zero, List.set_cons_succ, true_and, and_true, Nat.reduceAdd, Nat.reduceLeDiff, oc_0, oc_41, v1, v2, v3, v4, w1, w2, w3, w4]
  refine ⟨_, hq, fun v h2 hq2 hv => ?_⟩
  obtain ⟨e, r2⟩ := hq2
  subst e
  refine Rn_go CL_22 60 ?_
  simp only [kL_22_1689, kL_22_886, kL_22_900, xL_872, xL_873, xL_874, xL_875, xL_876, xL_877, xL_878, xL_879, xL_880, xL_881, xL_882, xL_883, tL_886, xL_887, xL_888, xL_889, xL_890, xL_891, xL_892, xL_893, xL_894, xL_895, xL_896, xL_897, tL_900, xL_903, xL_904, i_ald, i_cV, i_iadd, i_ic, i_ic_eq, i_ild, i_no, i_sld, lck_0, lck_i, lck_r, lck_n, lck_l, csum_0, csum_i, csum_r, csum_l, pops_0, pops_s, psh_n, psh_s, List.getElem?_cons_zero, List.getElem?_cons_succ, List.set_cons_zero, List.set_cons_succ, true_and, and_true, Nat.reduceAdd, Nat.reduceLeDiff, oc_0, oc_41, v1, v2, v3, v4, w1, w2, w3, w4]
  exact ⟨fun _ => hK h2 r2, fun z => absurd trivial z⟩
theorem lc_23 {xs : Nat → Int32} {N i : Nat} {h : Hp} (r : Rel h) (hi : i + 5 ≤ N) (hN : N ≤ 2560) (hK : ∀ h2, Rel h2 → Rn (TL xs N) (1689, [some (.ref 99), some (.ref 0), some (.ref 41), some (.int (nI i))], [], h2)) : Rn (TL xs N) (905, [some (.ref 99), some (.ref 0), some (.ref 41), some (.int (nI i))], [], h) := by
  obtain ⟨v1, w1⟩ : vp_in (nI i + 1) N ∧ (nI i + 1).toNatClampNeg = i + 1 := vI 1 (by decide) hi hN
  obtain ⟨v2, w2⟩ : vp_in (nI i + 2) N ∧ (nI i + 2).toNatClampNeg = i + 2 := vI 2 (by decide) hi hN
  obtain ⟨v3, w3⟩ : vp_in (nI i + 3) N ∧ (nI i + 3).toNatClampNeg = i + 3 := vI 3 (by decide) hi hN
  obtain ⟨v4, w4⟩ : vp_in (nI i + 4) N ∧ (nI i + 4).toNatClampNeg = i + 4 := vI 4 (by decide) hi hN
  refine Rn_in CL_23 60 ?_
  simp only [kL_23_1689, kL_23_914, kL_23_923, xL_905, xL_906, xL_907, xL_908, xL_909, xL_910, xL_911, tL_914, xL_915, xL_916, xL_917, xL_918, xL_919, xL_920, tL_923, xL_926, xL_927, i_ald, i_cV, i_iadd, i_ic, i_ic_eq, i_ild, i_no, i_sld, lck_0, lck_i, lck_r, lck_n, lck_l, csum_0, csum_i, csum_r, csum_l, pops_0, pops_s, psh_n, psh_s, List.getElem?_cons_zero, List.getElem?_cons_succ, List.set_cons_zero, List.set_cons_succ, true_and, and_true, Nat.reduceAdd, Nat.reduceLeDiff, oc_0, oc_41, v1, v2, v3, v4, w1, w2, w3, w4]
  refine ⟨_, pr_knot r _, fun v h1 hq hv => ?_⟩
  obtain ⟨a, rfl⟩ := hv
  refine Rn_go CL_23 60 ?_
  simp only [kL_23_1689, kL_23_914, kL_23_923, xL_905, xL_906, xL_907, xL_908, xL_909, xL_910, xL_911, tL_914, xL_915, xL_916, xL_917, xL_918, xL_919, xL_920, tL_923, xL_926, xL_927, i_ald, i_cV, i_iadd, i_ic, i_ic_eq, i_ild, i_no, i_sld, lck_0, lck_i, lck_r, lck_n, lck_l, csum_0, csum_i, csum_r, csum_l, pops_0, pops_s, psh_n, psh_s, List.getElem?_cons_zero, List.getElem?_cons_succ, List.set_cons_zero, List.set_cons_succ, true_and, and_true, Nat.reduceAdd, Nat.reduceLeDiff, oc_0, oc_41, v1, v2, v3, v4, w1, w2, w3, w4]
  refine ⟨_, hq, fun v h2 hq2 hv => ?_⟩
  obtain ⟨e, r2⟩ := hq2
  subst e
  refine Rn_go CL_23 60 ?_
  simp only [kL_23_1689, kL_23_914, kL_23_923, xL_905, xL_906, xL_907, xL_908, xL_909, xL_910, xL_911, tL_914, xL_915, xL_916, xL_917, xL_918, xL_919, xL_920, tL_923, xL_926, xL_927, i_ald, i_cV, i_iadd, i_ic, i_ic_eq, i_ild, i_no, i_sld, lck_0, lck_i, lck_r, lck_n, lck_l, csum_0, csum_i, csum_r, csum_l, pops_0, pops_s, psh_n, psh_s, List.getElem?_cons_zero, List.getElem?_cons_succ, List.set_cons_zero, List.set_cons_succ, true_and, and_true, Nat.reduceAdd, Nat.reduceLeDiff, oc_0, oc_41, v1, v2, v3, v4, w1, w2, w3, w4]
  exact ⟨fun _ => hK h2 r2, fun z => absurd trivial z⟩
theorem lc_24 {xs : Nat → Int32} {N i : Nat} {h : Hp} (r : Rel h) (hi : i + 5 ≤ N) (hN : N ≤ 2560) (hK : ∀ h2, Rel h2 → Rn (TL xs N) (1689, [some (.ref 99), some (.ref 0), some (.ref 41), some (.int (nI i))], [], h2)) : Rn (TL xs N) (928, [some (.ref 99), some (.ref 0), some (.ref 41), some (.int (nI i))], [], h) := by
  obtain ⟨v1, w1⟩ : vp_in (nI i + 1) N ∧ (nI i + 1).toNatClampNeg = i + 1 := vI 1 (by decide) hi hN
  obtain ⟨v2, w2⟩ : vp_in (nI i + 2) N ∧ (nI i + 2).toNatClampNeg = i + 2 := vI 2 (by decide) hi hN
  obtain ⟨v3, w3⟩ : vp_in (nI i + 3) N ∧ (nI i + 3).toNatClampNeg = i + 3 := vI 3 (by decide) hi hN
  obtain ⟨v4, w4⟩ : vp_in (nI i + 4) N ∧ (nI i + 4).toNatClampNeg = i + 4 := vI 4 (by decide) hi hN
  refine Rn_in CL_24 60 ?_
  simp only [kL_24_1689, kL_24_942, kL_24_956, xL_928, xL_929, xL_930, xL_931, xL_932, xL_933, xL_934, xL_935, xL_936, xL_937, xL_938, xL_939, tL_942, xL_943, xL_944, xL_945, xL_946, xL_947, xL_948, xL_949, xL_950, xL_951, xL_952, xL_953, tL_956, xL_959, xL_960, i_ald, i_cV, i_iadd, i_ic, i_ic_eq, i_ild, i_no, i_sld, lck_0, lck_i, lck_r, lck_n, lck_l, csum_0, csum_i, csum_r, csum_l, pops_0, pops_s, psh_n, psh_s, List.getElem?_cons_zero, List.getElem?_cons_succ, List.set_cons_zero, List.set_cons_succ, true_and, and_true, Nat.reduceAdd, Nat.reduceLeDiff, oc_0, oc_41, v1, v2, v3, v4, w1, w2, w3, w4]
  refine ⟨_, pr_rudeFor r _ _, fun v h1 hq hv => ?_⟩
  obtain ⟨a, rfl⟩ := hv
  refine Rn_go CL_24 60 ?_
  simp only [kL_24_1689, kL_24_942, kL_24_956, xL_928, xL_929, xL_930, xL_931, xL_932, xL_933, xL_934, xL_935, xL_936, xL_937, xL_938, xL_939, tL_942, xL_943, xL_944, xL_945, xL_946, xL_947, xL_948, xL_949, xL_950, xL_951, xL_952, xL_953, tL_956, xL_959, xL_960, i_ald, i_cV, i_iadd, i_ic, i_ic_eq, i_ild, i_no, i_sld, lck_0, lck_i, lck_r, lck_n, lck_l, csum_0, csum_i, csum_r, csum_l, pops_0, pops_s, psh_n, psh_s, List.getElem?_cons_zero, List.getElem?_cons_succ, List.set_cons_zero, List.set_cons_succ, true_and, and_true, Nat.reduceAdd, Nat.reduceLeDiff, oc_0, oc_41, v1, v2, v3, v4, w1, w2, w3, w4]
  refine ⟨_, hq, fun v h2 hq2 hv => ?_⟩
  obtain ⟨e, r2⟩ := hq2
  subst e
  refine Rn_go CL_24 60 ?_
  simp only [kL_24_1689, kL_24_942, kL_24_956, xL_928, xL_929, xL_930, xL_931, xL_932, xL_933, xL_934, xL_935, xL_936, xL_937, xL_938, xL_939, tL_942, xL_943, xL_944, xL_945, xL_946, xL_947, xL_948, xL_949, xL_950, xL_951, xL_952, xL_953, tL_956, xL_959, xL_960, i_ald, i_cV, i_iadd, i_ic, i_ic_eq, i_ild, i_no, i_sld, lck_0, lck_i, lck_r, lck_n, lck_l, csum_0, csum_i, csum_r, csum_l, pops_0, pops_s, psh_n, psh_s, List.getElem?_cons_zero, List.getElem?_cons_succ, List.set_cons_zero, List.set_cons_succ, true_and, and_true, Nat.reduceAdd, Nat.reduceLeDiff, oc_0, oc_41, v1, v2, v3, v4, w1, w2, w3, w4]
  exact ⟨fun _ => hK h2 r2, fun z => absurd trivial z⟩
theorem lc_25 {xs : Nat → Int32} {N i : Nat} {h : Hp} (r : Rel h) (hi : i + 5 ≤ N) (hN : N ≤ 2560) (hK : ∀ h2, Rel h2 → Rn (TL xs N) (1689, [some (.ref 99), some (.ref 0), some (.ref 41), some (.int (nI i))], [], h2)) : Rn (TL xs N) (961, [some (.ref 99), some (.ref 0), some (.ref 41), some (.int (nI i))], [], h) := by
  obtain ⟨v1, w1⟩ : vp_in (nI i + 1) N ∧ (nI i + 1).toNatClampNeg = i + 1 := vI 1 (by decide) hi hN
  obtain ⟨v2, w2⟩ : vp_in (nI i + 2) N ∧ (nI i + 2).toNatClampNeg = i + 2 := vI 2 (by decide) hi hN
  obtain ⟨v3, w3⟩ : vp_in (nI i + 3) N ∧ (nI i + 3).toNatClampNeg = i + 3 := vI 3 (by decide) hi hN
  obtain ⟨v4, w4⟩ : vp_in (nI i + 4) N ∧ (nI i + 4).toNatClampNeg = i + 4 := vI 4 (by decide) hi hN
  refine Rn_in CL_25 60 ?_
  simp only [kL_25_1689, kL_25_975, kL_25_989, xL_961, xL_962, xL_963, xL_964, xL_965, xL_966, xL_967, xL_968, xL_969, xL_970, xL_971, xL_972, tL_975, xL_976, xL_977, xL_978, xL_979, xL_980, xL_981, xL_982, xL_983, xL_984, xL_985, xL_986, tL_989, xL_992, xL_993, i_ald, i_cV, i_iadd, i_ic, i_ic_eq, i_ild, i_no, i_sld, lck_0, lck_i, lck_r, lck_n, lck_l, csum_0, csum_i, csum_r, csum_l, pops_0, pops_s, psh_n, psh_s, List.getElem?_cons_zero, List.getElem?_cons_succ, List.set_cons_zero, List.set_cons_succ, true_and, and_true, Nat.reduceAdd, Nat.reduceLeDiff, oc_0, oc_41, v1, v2, v3, v4, w1, w2, w3, w4]
  refine ⟨_, pr_graceFor r _ _, fun v h1 hq hv => ?_⟩
  obtain ⟨a, rfl⟩ := hv
  refine Rn_go CL_25 60 ?_
  simp only [kL_25_1689, kL_25_975, kL_25_989, xL_961, xL_962, xL_963, xL_964, xL_965, xL_966, xL_967, xL_968, xL_969, xL_970, xL_971, xL_972, tL_975, xL_976, xL_977, xL_978, xL_979, xL_980, xL_981, xL_982, xL_983, xL_984, xL_985, xL_986, tL_989, xL_992, xL_993, i_ald, i_cV, i_iadd, i_ic, i_ic_eq, i_ild, i_no, i_sld, lck_0, lck_i, lck_r, lck_n, lck_l, csum_0, csum_i, csum_r, csum_l, pops_0, pops_s, psh_n, psh_s, List.getElem?_cons_zero, List.getElem?_cons_succ, List.set_cons_zero, List.set_cons_succ, true_and, and_true, Nat.reduceAdd, Nat.reduceLeDiff, oc_0, oc_41, v1, v2, v3, v4, w1, w2, w3, w4]
  refine ⟨_, hq, fun v h2 hq2 hv => ?_⟩
  obtain ⟨e, r2⟩ := hq2
  subst e
  refine Rn_go CL_25 60 ?_
  simp only [kL_25_1689, kL_25_975, kL_25_989, xL_961, xL_962, xL_963, xL_964, xL_965, xL_966, xL_967, xL_968, xL_969, xL_970, xL_971, xL_972, tL_975, xL_976, xL_977, xL_978, xL_979, xL_980, xL_981, xL_982, xL_983, xL_984, xL_985, xL_986, tL_989, xL_992, xL_993, i_ald, i_cV, i_iadd, i_ic, i_ic_eq, i_ild, i_no, i_sld, lck_0, lck_i, lck_r, lck_n, lck_l, csum_0, csum_i, csum_r, csum_l, pops_0, pops_s, psh_n, psh_s, List.getElem?_cons_zero, List.getElem?_cons_succ, List.set_cons_zero, List.set_cons_succ, true_and, and_true, Nat.reduceAdd, Nat.reduceLeDiff, oc_0, oc_41, v1, v2, v3, v4, w1, w2, w3, w4]
  exact ⟨fun _ => hK h2 r2, fun z => absurd trivial z⟩
theorem lc_26 {xs : Nat → Int32} {N i : Nat} {h : Hp} (r : Rel h) (hi : i + 5 ≤ N) (hN : N ≤ 2560) (hK : ∀ h2, Rel h2 → Rn (TL xs N) (1689, [some (.ref 99), some (.ref 0), some (.ref 41), some (.int (nI i))], [], h2)) : Rn (TL xs N) (994, [some (.ref 99), some (.ref 0), some (.ref 41), some (.int (nI i))], [], h) := by
  obtain ⟨v1, w1⟩ : vp_in (nI i + 1) N ∧ (nI i + 1).toNatClampNeg = i + 1 := vI 1 (by decide) hi hN
  obtain ⟨v2, w2⟩ : vp_in (nI i + 2) N ∧ (nI i + 2).toNatClampNeg = i + 2 := vI 2 (by decide) hi hN
  obtain ⟨v3, w3⟩ : vp_in (nI i + 3) N ∧ (nI i + 3).toNatClampNeg = i + 3 := vI 3 (by decide) hi hN
  obtain ⟨v4, w4⟩ : vp_in (nI i + 4) N ∧ (nI i + 4).toNatClampNeg = i + 4 := vI 4 (by decide) hi hN
  refine Rn_in CL_26 60 ?_
  simp only [kL_26_1689, kL_26_1003, kL_26_1012, xL_994, xL_995, xL_996, xL_997, xL_998, xL_999, xL_1000, tL_1003, xL_1004, xL_1005, xL_1006, xL_1007, xL_1008, xL_1009, tL_1012, xL_1015, xL_1016, i_ald, i_cV, i_iadd, i_ic, i_ic_eq, i_ild, i_no, i_sld, lck_0, lck_i, lck_r, lck_n, lck_l, csum_0, csum_i, csum_r, csum_l, pops_0, pops_s, psh_n, psh_s, List.getElem?_cons_zero, List.getElem?_cons_succ, List.set_cons_zero, List.set_cons_succ, true_and, and_true, Nat.reduceAdd, Nat.reduceLeDiff, oc_0, oc_41, v1, v2, v3, v4, w1, w2, w3, w4]
  refine ⟨_, pr_kindFor r _, fun v h1 hq hv => ?_⟩
  obtain ⟨a, rfl⟩ := hv
  refine Rn_go CL_26 60 ?_
  simp only [kL_26_1689, kL_26_1003, kL_26_1012, xL_994, xL_995, xL_996, xL_997, xL_998, xL_999, xL_1000, tL_1003, xL_1004, xL_1005, xL_1006, xL_1007, xL_1008, xL_1009, tL_1012, xL_1015, xL_1016, i_ald, i_cV, i_iadd, i_ic, i_ic_eq, i_ild, i_no, i_sld, lck_0, lck_i, lck_r, lck_n, lck_l, csum_0, csum_i, csum_r, csum_l, pops_0, pops_s, psh_n, psh_s, List.getElem?_cons_zero, List.getElem?_cons_succ, List.set_cons_zero, List.set_cons_succ, true_and, and_true, Nat.reduceAdd, Nat.reduceLeDiff, oc_0, oc_41, v1, v2, v3, v4, w1, w2, w3, w4]
  refine ⟨_, hq, fun v h2 hq2 hv => ?_⟩
  obtain ⟨e, r2⟩ := hq2
  subst e
  refine Rn_go CL_26 60 ?_
  simp only [kL_26_1689, kL_26_1003, kL_26_1012, xL_994, xL_995, xL_996, xL_997, xL_998, xL_999, xL_1000, tL_1003, xL_1004, xL_1005, xL_1006, xL_1007, xL_1008, xL_1009, tL_1012, xL_1015, xL_1016, i_ald, i_cV, i_iadd, i_ic, i_ic_eq, i_ild, i_no, i_sld, lck_0, lck_i, lck_r, lck_n, lck_l, csum_0, csum_i, csum_r, csum_l, pops_0, pops_s, psh_n, psh_s, List.getElem?_cons_zero, List.getElem?_cons_succ, List.set_cons_zero, List.set_cons_succ, true_and, and_true, Nat.reduceAdd, Nat.reduceLeDiff, oc_0, oc_41, v1, v2, v3, v4, w1, w2, w3, w4]
  exact ⟨fun _ => hK h2 r2, fun z => absurd trivial z⟩
theorem lc_27 {xs : Nat → Int32} {N i : Nat} {h : Hp} (r : Rel h) (hi : i + 5 ≤ N) (hN : N ≤ 2560) (hK : ∀ h2, Rel h2 → Rn (TL xs N) (1689, [some (.ref 99), some (.ref 0), some (.ref 41), some (.int (nI i))], [], h2)) : Rn (TL xs N) (1017, [some (.ref 99), some (.ref 0), some (.ref 41), some (.int (nI i))], [], h) := by
  obtain ⟨v1, w1⟩ : vp_in (nI i + 1) N ∧ (nI i + 1).toNatClampNeg = i + 1 := vI 1 (by decide) hi hN
  obtain ⟨v2, w2⟩ : vp_in (nI i + 2) N ∧ (nI i + 2).toNatClampNeg = i + 2 := vI 2 (by decide) hi hN
  obtain ⟨v3, w3⟩ : vp_in (nI i + 3) N ∧ (nI i + 3).toNatClampNeg = i + 3 := vI 3 (by decide) hi hN
  obtain ⟨v4, w4⟩ : vp_in (nI i + 4) N ∧ (nI i + 4).toNatClampNeg = i + 4 := vI 4 (by decide) hi hN
  refine Rn_in CL_27 60 ?_
  simp only [kL_27_1689, kL_27_1026, kL_27_1035, xL_1017, xL_1018, xL_1019, xL_1020, xL_1021, xL_1022, xL_1023, tL_1026, xL_1027, xL_1028, xL_1029, xL_1030, xL_1031, xL_1032, tL_1035, xL_1038, xL_1039, i_ald, i_cV, i_iadd, i_ic, i_ic_eq, i_ild, i_no, i_sld, lck_0, lck_i, lck_r, lck_n, lck_l, csum_0, csum_i, csum_r, csum_l, pops_0, pops_s, psh_n, psh_s, List.getElem?_cons_zero, List.getElem?_cons_succ, List.set_cons_zero, List.set_cons_succ, true_and, and_true, Nat.reduceAdd, Nat.reduceLeDiff, oc_0, oc_41, v1, v2, v3, v4, w1, w2, w3, w4]
  refine ⟨_, pr_riteFor r _, fun v h1 hq hv => ?_⟩
  obtain ⟨a, rfl⟩ := hv
  refine Rn_go CL_27 60 ?_
  simp only [kL_27_1689, kL_27_1026, kL_27_1035, xL_1017, xL_1018, xL_1019, xL_1020, xL_1021, xL_1022, xL_1023, tL_1026, xL_1027, xL_1028, xL_1029, xL_1030, xL_1031, xL_1032, tL_1035, xL_1038, xL_1039, i_ald, i_cV, i_iadd, i_ic, i_ic_eq, i_ild, i_no, i_sld, lck_0, lck_i, lck_r, lck_n, lck_l, csum_0, csum_i, csum_r, csum_l, pops_0, pops_s, psh_n, psh_s, List.getElem?_cons_zero, List.getElem?_cons_succ, List.set_cons_zero, List.set_cons_succ, true_and, and_true, Nat.reduceAdd, Nat.reduceLeDiff, oc_0, oc_41, v1, v2, v3, v4, w1, w2, w3, w4]
  refine ⟨_, hq, fun v h2 hq2 hv => ?_⟩
  obtain ⟨e, r2⟩ := hq2
  subst e
  refine Rn_go CL_27 60 ?_
  simp only [kL_27_1689, kL_27_1026, kL_27_1035, xL_1017, xL_1018, xL_1019, xL_1020, xL_1021, xL_1022, xL_1023, tL_1026, xL_1027, xL_1028, xL_1029, xL_1030, xL_1031, xL_1032, tL_1035, xL_1038, xL_1039, i_ald, i_cV, i_iadd, i_ic, i_ic_eq, i_ild, i_no, i_sld, lck_0, lck_i, lck_r, lck_n, lck_l, csum_0, csum_i, csum_r, csum_l, pops_0, pops_s, psh_n, psh_s, List.getElem?_cons_zero, List.getElem?_cons_succ, List.set_cons_zero, List.set_cons_succ, true_and, and_true, Nat.reduceAdd, Nat.reduceLeDiff, oc_0, oc_41, v1, v2, v3, v4, w1, w2, w3, w4]
  exact ⟨fun _ => hK h2 r2, fun z => absurd trivial z⟩
theorem lc_28 {xs : Nat → Int32} {N i : Nat} {h : Hp} (r : Rel h) (hi : i + 5 ≤ N) (hN : N ≤ 2560) (hK : ∀ h2, Rel h2 → Rn (TL xs N) (1689, [some (.ref 99), some (.ref 0), some (.ref 41), some (.int (nI i))], [], h2)) : Rn (TL xs N) (1040, [some (.ref 99), some (.ref 0), some (.ref 41), some (.int (nI i))], [], h) := by
  obtain ⟨v1, w1⟩ : vp_in (nI i + 1) N ∧ (nI i + 1).toNatClampNeg = i + 1 := vI 1 (by decide) hi hN
  obtain ⟨v2, w2⟩ : vp_in (nI i + 2) N ∧ (nI i + 2).toNatClampNeg = i + 2 := vI 2 (by decide) hi hN
  obtain ⟨v3, w3⟩ : vp_in (nI i + 3) N ∧ (nI i + 3).toNatClampNeg = i + 3 := vI 3 (by decide) hi hN
  obtain ⟨v4, w4⟩ : vp_in (nI i + 4) N ∧ (nI i + 4).toNatClampNeg = i + 4 := vI 4 (by decide) hi hN
  refine Rn_in CL_28 60 ?_
  simp only [kL_28_1689, kL_28_1049, kL_28_1058, xL_1040, xL_1041, xL_1042, xL_1043, xL_1044, xL_1045, xL_1046, tL_1049, xL_1050, xL_1051, xL_1052, xL_1053, xL_1054, xL_1055, tL_1058, xL_1061, xL_1062, i_ald, i_cV, i_iadd, i_ic, i_ic_eq, i_ild, i_no, i_sld, lck_0, lck_i, lck_r, lck_n, lck_l, csum_0, csum_i, csum_r, csum_l, pops_0, pops_s, psh_n, psh_s, List.getElem?_cons_zero, List.getElem?_cons_succ, List.set_cons_zero, List.set_cons_succ, true_and, and_true, Nat.reduceAdd, Nat.reduceLeDiff, oc_0, oc_41, v1, v2, v3, v4, w1, w2, w3, w4]
  refine ⟨_, pr_hostFor r _, fun v h1 hq hv => ?_⟩
  obtain ⟨a, rfl⟩ := hv
  refine Rn_go CL_28 60 ?_
  simp only [kL_28_1689, kL_28_1049, kL_28_1058, xL_1040, xL_1041, xL_1042, xL_1043, xL_1044, xL_1045, xL_1046, tL_1049, xL_1050, xL_1051, xL_1052, xL_1053, xL_1054, xL_1055, tL_1058, xL_1061, xL_1062, i_ald, i_cV, i_iadd, i_ic, i_ic_eq, i_ild, i_no, i_sld, lck_0, lck_i, lck_r, lck_n, lck_l, csum_0, csum_i, csum_r, csum_l, pops_0, pops_s, psh_n, psh_s, List.getElem?_cons_zero, List.getElem?_cons_succ, List.set_cons_zero, List.set_cons_succ, true_and, and_true, Nat.reduceAdd, Nat.reduceLeDiff, oc_0, oc_41, v1, v2, v3, v4, w1, w2, w3, w4]
  refine ⟨_, hq, fun v h2 hq2 hv => ?_⟩
  obtain ⟨e, r2⟩ := hq2
  subst e
  refine Rn_go CL_28 60 ?_
  simp only [kL_28_1689, kL_28_1049, kL_28_1058, xL_1040, xL_1041, xL_1042, xL_1043, xL_1044, xL_1045, xL_1046, tL_1049, xL_1050, xL_1051, xL_1052, xL_1053, xL_1054, xL_1055, tL_1058, xL_1061, xL_1062, i_ald, i_cV, i_iadd, i_ic, i_ic_eq, i_ild, i_no, i_sld, lck_0, lck_i, lck_r, lck_n, lck_l, csum_0, csum_i, csum_r, csum_l, pops_0, pops_s, psh_n, psh_s, List.getElem?_cons_zero, List.getElem?_cons_succ, List.set_cons_zero, List.set_cons_succ, true_and, and_true, Nat.reduceAdd, Nat.reduceLeDiff, oc_0, oc_41, v1, v2, v3, v4, w1, w2, w3, w4]
  exact ⟨fun _ => hK h2 r2, fun z => absurd trivial z⟩
theorem lc_29 {xs : Nat → Int32} {N i : Nat} {h : Hp} (r : Rel h) (hi : i + 5 ≤ N) (hN : N ≤ 2560) (hK : ∀ h2, Rel h2 → Rn (TL xs N) (1689, [some (.ref 99), some (.ref 0), some (.ref 41), some (.int (nI i))], [], h2)) : Rn (TL xs N) (1063, [some (.ref 99), some (.ref 0), some (.ref 41), some (.int (nI i))], [], h) := by
  obtain ⟨v1, w1⟩ : vp_in (nI i + 1) N ∧ (nI i + 1).toNatClampNeg = i + 1 := vI 1 (by decide) hi hN
  obtain ⟨v2, w2⟩ : vp_in (nI i + 2) N ∧ (nI i + 2).toNatClampNeg = i + 2 := vI 2 (by decide) hi hN
  obtain ⟨v3, w3⟩ : vp_in (nI i + 3) N ∧ (nI i + 3).toNatClampNeg = i + 3 := vI 3 (by decide) hi hN
  obtain ⟨v4, w4⟩ : vp_in (nI i + 4) N ∧ (nI i + 4).toNatClampNeg = i + 4 := vI 4 (by decide) hi hN
  refine Rn_in CL_29 60 ?_
  simp only [kL_29_1689, kL_29_1082, kL_29_1101, xL_1063, xL_1064, xL_1065, xL_1066, xL_1067, xL_1068, xL_1069, xL_1070, xL_1071, xL_1072, xL_1073, xL_1074, xL_1075, xL_1076, xL_1077, xL_1078, xL_1079, tL_1082, xL_1083, xL_1084, xL_1085, xL_1086, xL_1087, xL_1088, xL_1089, xL_1090, xL_1091, xL_1092, xL_1093, xL_1094, xL_1095, xL_1096, xL_1097, xL_1098, tL_1101, xL_1104, xL_1105, i_ald, i_cV, i_iadd, i_ic, i_ic_eq, i_ild, i_no, i_sld, lck_0, lck_i, lck_r, lck_n, lck_l, csum_0, csum_i, csum_r, csum_l, pops_0, pops_s, psh_n, psh_s, List.getElem?_cons_zero, List.getElem?_cons_succ, List.set_cons_zero, List.set_cons_succ, true_and, and_true, Nat.reduceAdd, Nat.reduceLeDiff, oc_0, oc_41, v1, v2, v3, v4, w1, w2, w3, w4]
  refine ⟨_, pr_fits r _ _ _, fun v h1 hq hv => ?_⟩
  obtain ⟨a, rfl⟩ := hv
  refine Rn_go CL_29 60 ?_
  simp only [kL_29_1689, kL_29_1082, kL_29_1101, xL_1063, xL_1064, xL_1065, xL_1066, xL_1067, xL_1068, xL_1069, xL_1070, xL_1071, xL_1072, xL_1073, xL_1074, xL_1075, xL_1076, xL_1077, xL_1078, xL_1079, tL_1082, xL_1083, xL_1084, xL_1085, xL_1086, xL_1087, xL_1088, xL_1089, xL_1090, xL_1091, xL_1092, xL_1093, xL_1094, xL_1095, xL_1096, xL_1097, xL_1098, tL_1101, xL_1104, xL_1105, i_ald, i_cV, i_iadd, i_ic, i_ic_eq, i_ild, i_no, i_sld, lck_0, lck_i, lck_r, lck_n, lck_l, csum_0, csum_i, csum_r, csum_l, pops_0, pops_s, psh_n, psh_s, List.getElem?_cons_zero, List.getElem?_cons_succ, List.set_cons_zero, List.set_cons_succ, true_and, and_true, Nat.reduceAdd, Nat.reduceLeDiff, oc_0, oc_41, v1, v2, v3, v4, w1, w2, w3, w4]
  refine ⟨_, hq, fun v h2 hq2 hv => ?_⟩
  obtain ⟨e, r2⟩ := hq2
  subst e
  refine Rn_go CL_29 60 ?_
  simp only [kL_29_1689, kL_29_1082, kL_29_1101, xL_1063, xL_1064, xL_1065, xL_1066, xL_1067, xL_1068, xL_1069, xL_1070, xL_1071, xL_1072, xL_1073, xL_1074, xL_1075, xL_1076, xL_1077, xL_1078, xL_1079, tL_1082, xL_1083, xL_1084, xL_1085, xL_1086, xL_1087, xL_1088, xL_1089, xL_1090, xL_1091, xL_1092, xL_1093, xL_1094, xL_1095, xL_1096, xL_1097, xL_1098, tL_1101, xL_1104, xL_1105, i_ald, i_cV, i_iadd, i_ic, i_ic_eq, i_ild, i_no, i_sld, lck_0, lck_i, lck_r, lck_n, lck_l, csum_0, csum_i, csum_r, csum_l, pops_0, pops_s, psh_n, psh_s, List.getElem?_cons_zero, List.getElem?_cons_succ, List.set_cons_zero, List.set_cons_succ, true_and, and_true, Nat.reduceAdd, Nat.reduceLeDiff, oc_0, oc_41, v1, v2, v3, v4, w1, w2, w3, w4]
  exact ⟨fun _ => hK h2 r2, fun z => absurd trivial z⟩
theorem lc_30 {xs : Nat → Int32} {N i : Nat} {h : Hp} (r : Rel h) (hi : i + 5 ≤ N) (hN : N ≤ 2560) (hK : ∀ h2, Rel h2 → Rn (TL xs N) (1689, [some (.ref 99), some (.ref 0), some (.ref 41), some (.int (nI i))], [], h2)) : Rn (TL xs N) (1106, [some (.ref 99), some (.ref 0), some (.ref 41), some (.int (nI i))], [], h) := by
  obtain ⟨v1, w1⟩ : vp_in (nI i + 1) N ∧ (nI i + 1).toNatClampNeg = i + 1 := vI 1 (by decide) hi hN
  obtain ⟨v2, w2⟩ : vp_in (nI i + 2) N ∧ (nI i + 2).toNatClampNeg = i + 2 := vI 2 (by decide) hi hN
  obtain ⟨v3, w3⟩ : vp_in (nI i + 3) N ∧ (nI i + 3).toNatClampNeg = i + 3 := vI 3 (by decide) hi hN
  obtain ⟨v4, w4⟩ : vp_in (nI i + 4) N ∧ (nI i + 4).toNatClampNeg = i + 4 := vI 4 (by decide) hi hN
  refine Rn_in CL_30 60 ?_
  simp only [kL_30_1689, kL_30_1125, kL_30_1144, xL_1106, xL_1107, xL_1108, xL_1109, xL_1110, xL_1111, xL_1112, xL_1113, xL_1114, xL_1115, xL_1116, xL_1117, xL_1118, xL_1119, xL_1120, xL_1121, xL_1122, tL_1125, xL_1126, xL_1127, xL_1128, xL_1129, xL_1130, xL_1131, xL_1132, xL_1133, xL_1134, xL_1135, xL_1136, xL_1137, xL_1138, xL_1139, xL_1140, xL_1141, tL_1144, xL_1145, xL_1148, xL_1149, i_ald, i_cV, i_iadd, i_ic, i_if_eq, i_ild, i_lcmp, i_no, i_sld, lck_0, lck_i, lck_r, lck_n, lck_l, csum_0, csum_i, csum_r, csum_l, pops_0, pops_s, psh_n, psh_s, List.getElem?_cons_zero, List.getElem?_cons_succ, List.set_cons_zero, List.set_cons_succ, true_and, and_true, Nat.reduceAdd, Nat.reduceLeDiff, oc_0, oc_41, v1, v2, v3, v4, w1, w2, w3, w4]
  refine ⟨_, pr_odds r _ _ _, fun v h1 hq hv => ?_⟩
  obtain ⟨a, rfl⟩ := hv
  refine Rn_go CL_30 60 ?_
  simp only [kL_30_1689, kL_30_1125, kL_30_1144, xL_1106, xL_1107, xL_1108, xL_1109, xL_1110, xL_1111, xL_1112, xL_1113, xL_1114, xL_1115, xL_1116, xL_1117, xL_1118, xL_1119, xL_1120, xL_1121, xL_1122, tL_1125, xL_1126, xL_1127, xL_1128, xL_1129, xL_1130, xL_1131, xL_1132, xL_1133, xL_1134, xL_1135, xL_1136, xL_1137, xL_1138, xL_1139, xL_1140, xL_1141, tL_1144, xL_1145, xL_1148, xL_1149, i_ald, i_cV, i_iadd, i_ic, i_if_eq, i_ild, i_lcmp, i_no, i_sld, lck_0, lck_i, lck_r, lck_n, lck_l, csum_0, csum_i, csum_r, csum_l, pops_0, pops_s, psh_n, psh_s, List.getElem?_cons_zero, List.getElem?_cons_succ, List.set_cons_zero, List.set_cons_succ, true_and, and_true, Nat.reduceAdd, Nat.reduceLeDiff, oc_0, oc_41, v1, v2, v3, v4, w1, w2, w3, w4]
  refine ⟨_, hq, fun v h2 hq2 hv => ?_⟩
  obtain ⟨e, r2⟩ := hq2
  subst e
  refine Rn_go CL_30 60 ?_
  simp only [kL_30_1689, kL_30_1125, kL_30_1144, xL_1106, xL_1107, xL_1108, xL_1109, xL_1110, xL_1111, xL_1112, xL_1113, xL_1114, xL_1115, xL_1116, xL_1117, xL_1118, xL_1119, xL_1120, xL_1121, xL_1122, tL_1125, xL_1126, xL_1127, xL_1128, xL_1129, xL_1130, xL_1131, xL_1132, xL_1133, xL_1134, xL_1135, xL_1136, xL_1137, xL_1138, xL_1139, xL_1140, xL_1141, tL_1144, xL_1145, xL_1148, xL_1149, i_ald, i_cV, i_iadd, i_ic, i_if_eq, i_ild, i_lcmp, i_no, i_sld, lck_0, lck_i, lck_r, lck_n, lck_l, csum_0, csum_i, csum_r, csum_l, pops_0, pops_s, psh_n, psh_s, List.getElem?_cons_zero, List.getElem?_cons_succ, List.set_cons_zero, List.set_cons_succ, true_and, and_true, Nat.reduceAdd, Nat.reduceLeDiff, oc_0, oc_41, v1, v2, v3, v4, w1, w2, w3, w4]
  exact ⟨fun _ => hK h2 r2, fun z => absurd (lgr a) z⟩
theorem lc_31 {xs : Nat → Int32} {N i : Nat} {h : Hp} (r : Rel h) (hi : i + 5 ≤ N) (hN : N ≤ 2560) (hK : ∀ h2, Rel h2 → Rn (TL xs N) (1689, [some (.ref 99), some (.ref 0), some (.ref 41), some (.int (nI i))], [], h2)) : Rn (TL xs N) (1150, [some (.ref 99), some (.ref 0), some (.ref 41), some (.int (nI i))], [], h) := by
  obtain ⟨v1, w1⟩ : vp_in (nI i + 1) N ∧ (nI i + 1).toNatClampNeg = i + 1 := vI 1 (by decide) hi hN
  obtain ⟨v2, w2⟩ : vp_in (nI i + 2) N ∧ (nI i + 2).toNatClampNeg = i + 2 := vI 2 (by decide) hi hN
  obtain ⟨v3, w3⟩ : vp_in (nI i + 3) N ∧ (nI i + 3).toNatClampNeg = i + 3 := vI 3 (by decide) hi hN
  obtain ⟨v4, w4⟩ : vp_in (nI i + 4) N ∧ (nI i + 4).toNatClampNeg = i + 4 := vI 4 (by decide) hi hN
  refine Rn_in CL_31 60 ?_
  simp only [kL_31_1689, kL_31_1164, kL_31_1178, xL_1150, xL_1151, xL_1152, xL_1153, xL_1154, xL_1155, xL_1156, xL_1157, xL_1158, xL_1159, xL_1160, xL_1161, tL_1164, xL_1165, xL_1166, xL_1167, xL_1168, xL_1169, xL_1170, xL_1171, xL_1172, xL_1173, xL_1174, xL_1175, tL_1178, xL_1179, xL_1182, xL_1183, i_ald, i_cV, i_iadd, i_ic, i_if_eq, i_ild, i_lcmp, i_no, i_sld, lck_0, lck_i, lck_r, lck_n, lck_l, csum_0, csum_i, csum_r, csum_l, pops_0, pops_s, psh_n, psh_s, List.getElem?_cons_zero, List.getElem?_cons_succ, List.set_cons_zero, List.set_cons_succ, true_and, and_true, Nat.reduceAdd, Nat.reduceLeDiff, oc_0, oc_41, v1, v2, v3, v4, w1, w2, w3, w4]
  refine ⟨_, pr_hope r _ _, fun v h1 hq hv => ?_⟩
  obtain ⟨a, rfl⟩ := hv
  refine Rn_go CL_31 60 ?_
  simp only [kL_31_1689, kL_31_1164, kL_31_1178, xL_1150, xL_1151, xL_1152, xL_1153, xL_1154, xL_1155, xL_1156, xL_1157, xL_1158, xL_1159, xL_1160, xL_1161, tL_1164, xL_1165, xL_1166, xL_1167, xL_1168, xL_1169, xL_1170, xL_1171, xL_1172, xL_1173, xL_1174, xL_1175, tL_1178, xL_1179, xL_1182, xL_1183, i_ald, i_cV, i_iadd, i_ic, i_if_eq, i_ild, i_lcmp, i_no, i_sld, lck_0, lck_i, lck_r, lck_n, lck_l, csum_0, csum_i, csum_r, csum_l, pops_0, pops_s, psh_n, psh_s, List.getElem?_cons_zero, List.getElem?_cons_succ, List.set_cons_zero, List.set_cons_succ, true_and, and_true, Nat.reduceAdd, Nat.reduceLeDiff, oc_0, oc_41, v1, v2, v3, v4, w1, w2, w3, w4]
  refine ⟨_, hq, fun v h2 hq2 hv => ?_⟩
  obtain ⟨e, r2⟩ := hq2
  subst e
  refine Rn_go CL_31 60 ?_
  simp only [kL_31_1689, kL_31_1164, kL_31_1178, xL_1150, xL_1151, xL_1152, xL_1153, xL_1154, xL_1155, xL_1156, xL_1157, xL_1158, xL_1159, xL_1160, xL_1161, tL_1164, xL_1165, xL_1166, xL_1167, xL_1168, xL_1169, xL_1170, xL_1171, xL_1172, xL_1173, xL_1174, xL_1175, tL_1178, xL_1179, xL_1182, xL_1183, i_ald, i_cV, i_iadd, i_ic, i_if_eq, i_ild, i_lcmp, i_no, i_sld, lck_0, lck_i, lck_r, lck_n, lck_l, csum_0, csum_i, csum_r, csum_l, pops_0, pops_s, psh_n, psh_s, List.getElem?_cons_zero, List.getElem?_cons_succ, List.set_cons_zero, List.set_cons_succ, true_and, and_true, Nat.reduceAdd, Nat.reduceLeDiff, oc_0, oc_41, v1, v2, v3, v4, w1, w2, w3, w4]
  exact ⟨fun _ => hK h2 r2, fun z => absurd (lgr a) z⟩
theorem lc_32 {xs : Nat → Int32} {N i : Nat} {h : Hp} (r : Rel h) (hi : i + 5 ≤ N) (hN : N ≤ 2560) (hK : ∀ h2, Rel h2 → Rn (TL xs N) (1689, [some (.ref 99), some (.ref 0), some (.ref 41), some (.int (nI i))], [], h2)) : Rn (TL xs N) (1184, [some (.ref 99), some (.ref 0), some (.ref 41), some (.int (nI i))], [], h) := by
  obtain ⟨v1, w1⟩ : vp_in (nI i + 1) N ∧ (nI i + 1).toNatClampNeg = i + 1 := vI 1 (by decide) hi hN
  obtain ⟨v2, w2⟩ : vp_in (nI i + 2) N ∧ (nI i + 2).toNatClampNeg = i + 2 := vI 2 (by decide) hi hN
  obtain ⟨v3, w3⟩ : vp_in (nI i + 3) N ∧ (nI i + 3).toNatClampNeg = i + 3 := vI 3 (by decide) hi hN
  obtain ⟨v4, w4⟩ : vp_in (nI i + 4) N ∧ (nI i + 4).toNatClampNeg = i + 4 := vI 4 (by decide) hi hN
  refine Rn_in CL_32 60 ?_
  simp only [kL_32_1689, kL_32_1198, kL_32_1212, xL_1184, xL_1185, xL_1186, xL_1187, xL_1188, xL_1189, xL_1190, xL_1191, xL_1192, xL_1193, xL_1194, xL_1195, tL_1198, xL_1199, xL_1200, xL_1201, xL_1202, xL_1203, xL_1204, xL_1205, xL_1206, xL_1207, xL_1208, xL_1209, tL_1212, xL_1215, xL_1216, i_ald, i_cV, i_iadd, i_ic, i_ic_eq, i_ild, i_no, i_sld, lck_0, lck_i, lck_r, lck_n, lck_l, csum_0, csum_i, csum_r, csum_l, pops_0, pops_s, psh_n, psh_s, List.getElem?_cons_zero, List.getElem?_cons_succ, List.set_cons_zero, List.set_cons_succ, true_and, and_true, Nat.reduceAdd, Nat.reduceLeDiff, oc_0, oc_41, v1, v2, v3, v4, w1, w2, w3, w4]
  refine ⟨_, pr_prove r _ _, fun v h1 hq hv => ?_⟩
  obtain ⟨a, rfl⟩ := hv
  refine Rn_go CL_32 60 ?_
  simp only [kL_32_1689, kL_32_1198, kL_32_1212, xL_1184, xL_1185, xL_1186, xL_1187, xL_1188, xL_1189, xL_1190, xL_1191, xL_1192, xL_1193, xL_1194, xL_1195, tL_1198, xL_1199, xL_1200, xL_1201, xL_1202, xL_1203, xL_1204, xL_1205, xL_1206, xL_1207, xL_1208, xL_1209, tL_1212, xL_1215, xL_1216, i_ald, i_cV, i_iadd, i_ic, i_ic_eq, i_ild, i_no, i_sld, lck_0, lck_i, lck_r, lck_n, lck_l, csum_0, csum_i, csum_r, csum_l, pops_0, pops_s, psh_n, psh_s, List.getElem?_cons_zero, List.getElem?_cons_succ, List.set_cons_zero, List.set_cons_succ, true_and, and_true, Nat.reduceAdd, Nat.reduceLeDiff, oc_0, oc_41, v1, v2, v3, v4, w1, w2, w3, w4]
  refine ⟨_, hq, fun v h2 hq2 hv => ?_⟩
  obtain ⟨e, r2⟩ := hq2
  subst e
  refine Rn_go CL_32 60 ?_
  simp only [kL_32_1689, kL_32_1198, kL_32_1212, xL_1184, xL_1185, xL_1186, xL_1187, xL_1188, xL_1189, xL_1190, xL_1191, xL_1192, xL_1193, xL_1194, xL_1195, tL_1198, xL_1199, xL_1200, xL_1201, xL_1202, xL_1203, xL_1204, xL_1205, xL_1206, xL_1207, xL_1208, xL_1209, tL_1212, xL_1215, xL_1216, i_ald, i_cV, i_iadd, i_ic, i_ic_eq, i_ild, i_no, i_sld, lck_0, lck_i, lck_r, lck_n, lck_l, csum_0, csum_i, csum_r, csum_l, pops_0, pops_s, psh_n, psh_s, List.getElem?_cons_zero, List.getElem?_cons_succ, List.set_cons_zero, List.set_cons_succ, true_and, and_true, Nat.reduceAdd, Nat.reduceLeDiff, oc_0, oc_41, v1, v2, v3, v4, w1, w2, w3, w4]
  exact ⟨fun _ => hK h2 r2, fun z => absurd trivial z⟩
theorem lc_33 {xs : Nat → Int32} {N i : Nat} {h : Hp} (r : Rel h) (hi : i + 5 ≤ N) (hN : N ≤ 2560) (hK : ∀ h2, Rel h2 → Rn (TL xs N) (1689, [some (.ref 99), some (.ref 0), some (.ref 41), some (.int (nI i))], [], h2)) : Rn (TL xs N) (1217, [some (.ref 99), some (.ref 0), some (.ref 41), some (.int (nI i))], [], h) := by
  obtain ⟨v1, w1⟩ : vp_in (nI i + 1) N ∧ (nI i + 1).toNatClampNeg = i + 1 := vI 1 (by decide) hi hN
  obtain ⟨v2, w2⟩ : vp_in (nI i + 2) N ∧ (nI i + 2).toNatClampNeg = i + 2 := vI 2 (by decide) hi hN
  obtain ⟨v3, w3⟩ : vp_in (nI i + 3) N ∧ (nI i + 3).toNatClampNeg = i + 3 := vI 3 (by decide) hi hN
  obtain ⟨v4, w4⟩ : vp_in (nI i + 4) N ∧ (nI i + 4).toNatClampNeg = i + 4 := vI 4 (by decide) hi hN
  refine Rn_in CL_33 60 ?_
  simp only [kL_33_1689, kL_33_1231, kL_33_1245, xL_1217, xL_1218, xL_1219, xL_1220, xL_1221, xL_1222, xL_1223, xL_1224, xL_1225, xL_1226, xL_1227, xL_1228, tL_1231, xL_1232, xL_1233, xL_1234, xL_1235, xL_1236, xL_1237, xL_1238, xL_1239, xL_1240, xL_1241, xL_1242, tL_1245, xL_1248, xL_1249, i_ald, i_cV, i_iadd, i_ic, i_ic_eq, i_ild, i_no, i_sld, lck_0, lck_i, lck_r, lck_n, lck_l, csum_0, csum_i, csum_r, csum_l, pops_0, pops_s, psh_n, psh_s, List.getElem?_cons_zero, List.getElem?_cons_succ, List.set_cons_zero, List.set_cons_succ, true_and, and_true, Nat.reduceAdd, Nat.reduceLeDiff, oc_0, oc_41, v1, v2, v3, v4, w1, w2, w3, w4]
  refine ⟨_, pr_row r _ _, fun v h1 hq hv => ?_⟩
  obtain ⟨a, rfl⟩ := hv
  refine Rn_go CL_33 60 ?_
  simp only [kL_33_1689, kL_33_1231, kL_33_1245, xL_1217, xL_1218, xL_1219, xL_1220, xL_1221, xL_1222, xL_1223, xL_1224, xL_1225, xL_1226, xL_1227, xL_1228, tL_1231, xL_1232, xL_1233, xL_1234, xL_1235, xL_1236, xL_1237, xL_1238, xL_1239, xL_1240, xL_1241, xL_1242, tL_1245, xL_1248, xL_1249, i_ald, i_cV, i_iadd, i_ic, i_ic_eq, i_ild, i_no, i_sld, lck_0, lck_i, lck_r, lck_n, lck_l, csum_0, csum_i, csum_r, csum_l, pops_0, pops_s, psh_n, psh_s, List.getElem?_cons_zero, List.getElem?_cons_succ, List.set_cons_zero, List.set_cons_succ, true_and, and_true, Nat.reduceAdd, Nat.reduceLeDiff, oc_0, oc_41, v1, v2, v3, v4, w1, w2, w3, w4]
  refine ⟨_, hq, fun v h2 hq2 hv => ?_⟩
  obtain ⟨e, r2⟩ := hq2
  subst e
  refine Rn_go CL_33 60 ?_
  simp only [kL_33_1689, kL_33_1231, kL_33_1245, xL_1217, xL_1218, xL_1219, xL_1220, xL_1221, xL_1222, xL_1223, xL_1224, xL_1225, xL_1226, xL_1227, xL_1228, tL_1231, xL_1232, xL_1233, xL_1234, xL_1235, xL_1236, xL_1237, xL_1238, xL_1239, xL_1240, xL_1241, xL_1242, tL_1245, xL_1248, xL_1249, i_ald, i_cV, i_iadd, i_ic, i_ic_eq, i_ild, i_no, i_sld, lck_0, lck_i, lck_r, lck_n, lck_l, csum_0, csum_i, csum_r, csum_l, pops_0, pops_s, psh_n, psh_s, List.getElem?_cons_zero, List.getElem?_cons_succ, List.set_cons_zero, List.set_cons_succ, true_and, and_true, Nat.reduceAdd, Nat.reduceLeDiff, oc_0, oc_41, v1, v2, v3, v4, w1, w2, w3, w4]
  exact ⟨fun _ => hK h2 r2, fun z => absurd trivial z⟩
theorem lc_34 {xs : Nat → Int32} {N i : Nat} {h : Hp} (r : Rel h) (hi : i + 5 ≤ N) (hN : N ≤ 2560) (hK : ∀ h2, Rel h2 → Rn (TL xs N) (1689, [some (.ref 99), some (.ref 0), some (.ref 41), some (.int (nI i))], [], h2)) : Rn (TL xs N) (1250, [some (.ref 99), some (.ref 0), some (.ref 41), some (.int (nI i))], [], h) := by
  obtain ⟨v1, w1⟩ : vp_in (nI i + 1) N ∧ (nI i + 1).toNatClampNeg = i + 1 := vI 1 (by decide) hi hN
  obtain ⟨v2, w2⟩ : vp_in (nI i + 2) N ∧ (nI i + 2).toNatClampNeg = i + 2 := vI 2 (by decide) hi hN
  obtain ⟨v3, w3⟩ : vp_in (nI i + 3) N ∧ (nI i + 3).toNatClampNeg = i + 3 := vI 3 (by decide) hi hN
  obtain ⟨v4, w4⟩ : vp_in (nI i + 4) N ∧ (nI i + 4).toNatClampNeg = i + 4 := vI 4 (by decide) hi hN
  refine Rn_in CL_34 60 ?_
  simp only [kL_34_1689, kL_34_1269, kL_34_1288, xL_1250, xL_1251, xL_1252, xL_1253, xL_1254, xL_1255, xL_1256, xL_1257, xL_1258, xL_1259, xL_1260, xL_1261, xL_1262, xL_1263, xL_1264, xL_1265, xL_1266, tL_1269, xL_1270, xL_1271, xL_1272, xL_1273, xL_1274, xL_1275, xL_1276, xL_1277, xL_1278, xL_1279, xL_1280, xL_1281, xL_1282, xL_1283, xL_1284, xL_1285, tL_1288, xL_1291, xL_1292, i_ald, i_cV, i_iadd, i_ic, i_ic_eq, i_ild, i_no, i_sld, lck_0, lck_i, lck_r, lck_n, lck_l, csum_0, csum_i, csum_r, csum_l, pops_0, pops_s, psh_n, psh_s, List.getElem?_cons_zero, List.getElem?_cons_succ, List.set_cons_zero, List.set_cons_succ, true_and, and_true, Nat.reduceAdd, Nat.reduceLeDiff, oc_0, oc_41, v1, v2, v3, v4, w1, w2, w3, w4]
  refine ⟨_, pr_alterRow r _ _ _, fun v h1 hq hv => ?_⟩
  obtain ⟨a, rfl⟩ := hv
  refine Rn_go CL_34 60 ?_
  simp only [kL_34_1689, kL_34_1269, kL_34_1288, xL_1250, xL_1251, xL_1252, xL_1253, xL_1254, xL_1255, xL_1256, xL_1257, xL_1258, xL_1259, xL_1260, xL_1261, xL_1262, xL_1263, xL_1264, xL_1265, xL_1266, tL_1269, xL_1270, xL_1271, xL_1272, xL_1273, xL_1274, xL_1275, xL_1276, xL_1277, xL_1278, xL_1279, xL_1280, xL_1281, xL_1282, xL_1283, xL_1284, xL_1285, tL_1288, xL_1291, xL_1292, i_ald, i_cV, i_iadd, i_ic, i_ic_eq, i_ild, i_no, i_sld, lck_0, lck_i, lck_r, lck_n, lck_l, csum_0, csum_i, csum_r, csum_l, pops_0, pops_s, psh_n, psh_s, List.getElem?_cons_zero, List.getElem?_cons_succ, List.set_cons_zero, List.set_cons_succ, true_and, and_true, Nat.reduceAdd, Nat.reduceLeDiff, oc_0, oc_41, v1, v2, v3, v4, w1, w2, w3, w4]
  refine ⟨_, hq, fun v h2 hq2 hv => ?_⟩
  obtain ⟨e, r2⟩ := hq2
  subst e
  refine Rn_go CL_34 60 ?_
  simp only [kL_34_1689, kL_34_1269, kL_34_1288, xL_1250, xL_1251, xL_1252, xL_1253, xL_1254, xL_1255, xL_1256, xL_1257, xL_1258, xL_1259, xL_1260, xL_1261, xL_1262, xL_1263, xL_1264, xL_1265, xL_1266, tL_1269, xL_1270, xL_1271, xL_1272, xL_1273, xL_1274, xL_1275, xL_1276, xL_1277, xL_1278, xL_1279, xL_1280, xL_1281, xL_1282, xL_1283, xL_1284, xL_1285, tL_1288, xL_1291, xL_1292, i_ald, i_cV, i_iadd, i_ic, i_ic_eq, i_ild, i_no, i_sld, lck_0, lck_i, lck_r, lck_n, lck_l, csum_0, csum_i, csum_r, csum_l, pops_0, pops_s, psh_n, psh_s, List.getElem?_cons_zero, List.getElem?_cons_succ, List.set_cons_zero, List.set_cons_succ, true_and, and_true, Nat.reduceAdd, Nat.reduceLeDiff, oc_0, oc_41, v1, v2, v3, v4, w1, w2, w3, w4]
  exact ⟨fun _ => hK h2 r2, fun z => absurd trivial z⟩
theorem lc_35 {xs : Nat → Int32} {N i : Nat} {h : Hp} (r : Rel h) (hi : i + 5 ≤ N) (hN : N ≤ 2560) (hK : ∀ h2, Rel h2 → Rn (TL xs N) (1689, [some (.ref 99), some (.ref 0), some (.ref 41), some (.int (nI i))], [], h2)) : Rn (TL xs N) (1293, [some (.ref 99), some (.ref 0), some (.ref 41), some (.int (nI i))], [], h) := by
  obtain ⟨v1, w1⟩ : vp_in (nI i + 1) N ∧ (nI i + 1).toNatClampNeg = i + 1 := vI 1 (by decide) hi hN
  obtain ⟨v2, w2⟩ : vp_in (nI i + 2) N ∧ (nI i + 2).toNatClampNeg = i + 2 := vI 2 (by decide) hi hN
  obtain ⟨v3, w3⟩ : vp_in (nI i + 3) N ∧ (nI i + 3).toNatClampNeg = i + 3 := vI 3 (by decide) hi hN
  obtain ⟨v4, w4⟩ : vp_in (nI i + 4) N ∧ (nI i + 4).toNatClampNeg = i + 4 := vI 4 (by decide) hi hN
  refine Rn_in CL_35 60 ?_
  simp only [kL_35_1689, kL_35_1302, kL_35_1311, xL_1293, xL_1294, xL_1295, xL_1296, xL_1297, xL_1298, xL_1299, tL_1302, xL_1303, xL_1304, xL_1305, xL_1306, xL_1307, xL_1308, tL_1311, xL_1314, xL_1315, i_ald, i_cV, i_iadd, i_ic, i_ic_eq, i_ild, i_no, i_sld, lck_0, lck_i, lck_r, lck_n, lck_l, csum_0, csum_i, csum_r, csum_l, pops_0, pops_s, psh_n, psh_s, List.getElem?_cons_zero, List.getElem?_cons_succ, List.set_cons_zero, List.set_cons_succ, true_and, and_true, Nat.reduceAdd, Nat.reduceLeDiff, oc_0, oc_41, v1, v2, v3, v4, w1, w2, w3, w4]
  refine ⟨_, pr_judge r _, fun v h1 hq hv => ?_⟩
  obtain ⟨a, rfl⟩ := hv
  refine Rn_go CL_35 60 ?_
  simp only [kL_35_1689, kL_35_1302, kL_35_1311, xL_1293, xL_1294, xL_1295, xL_1296, xL_1297, xL_1298, xL_1299, tL_1302, xL_1303, xL_1304, xL_1305, xL_1306, xL_1307, xL_1308, tL_1311, xL_1314, xL_1315, i_ald, i_cV, i_iadd, i_ic, i_ic_eq, i_ild, i_no, i_sld, lck_0, lck_i, lck_r, lck_n, lck_l, csum_0, csum_i, csum_r, csum_l, pops_0, pops_s, psh_n, psh_s, List.getElem?_cons_zero, List.getElem?_cons_succ, List.set_cons_zero, List.set_cons_succ, true_and, and_true, Nat.reduceAdd, Nat.reduceLeDiff, oc_0, oc_41, v1, v2, v3, v4, w1, w2, w3, w4]
  refine ⟨_, hq, fun v h2 hq2 hv => ?_⟩
  obtain ⟨e, r2⟩ := hq2
  subst e
  refine Rn_go CL_35 60 ?_
  simp only [kL_35_1689, kL_35_1302, kL_35_1311, xL_1293, xL_1294, xL_1295, xL_1296, xL_1297, xL_1298, xL_1299, tL_1302, xL_1303, xL_1304, xL_1305, xL_1306, xL_1307, xL_1308, tL_1311, xL_1314, xL_1315, i_ald, i_cV, i_iadd, i_ic, i_ic_eq, i_ild, i_no, i_sld, lck_0, lck_i, lck_r, lck_n, lck_l, csum_0, csum_i, csum_r, csum_l, pops_0, pops_s, psh_n, psh_s, List.getElem?_cons_zero, List.getElem?_cons_succ, List.set_cons_zero, List.set_cons_succ, true_and, and_true, Nat.reduceAdd, Nat.reduceLeDiff, oc_0, oc_41, v1, v2, v3, v4, w1, w2, w3, w4]
  exact ⟨fun _ => hK h2 r2, fun z => absurd trivial z⟩
theorem lc_36 {xs : Nat → Int32} {N i : Nat} {h : Hp} (r : Rel h) (hi : i + 5 ≤ N) (hN : N ≤ 2560) (hK : ∀ h2, Rel h2 → Rn (TL xs N) (1689, [some (.ref 99), some (.ref 0), some (.ref 41), some (.int (nI i))], [], h2)) : Rn (TL xs N) (1316, [some (.ref 99), some (.ref 0), some (.ref 41), some (.int (nI i))], [], h) := by
  obtain ⟨v1, w1⟩ : vp_in (nI i + 1) N ∧ (nI i + 1).toNatClampNeg = i + 1 := vI 1 (by decide) hi hN
  obtain ⟨v2, w2⟩ : vp_in (nI i + 2) N ∧ (nI i + 2).toNatClampNeg = i + 2 := vI 2 (by decide) hi hN
  obtain ⟨v3, w3⟩ : vp_in (nI i + 3) N ∧ (nI i + 3).toNatClampNeg = i + 3 := vI 3 (by decide) hi hN
  obtain ⟨v4, w4⟩ : vp_in (nI i + 4) N ∧ (nI i + 4).toNatClampNeg = i + 4 := vI 4 (by decide) hi hN
  refine Rn_in CL_36 60 ?_
  simp only [kL_36_1689, kL_36_1340, kL_36_1364, xL_1316, xL_1317, xL_1318, xL_1319, xL_1320, xL_1321, xL_1322, xL_1323, xL_1324, xL_1325, xL_1326, xL_1327, xL_1328, xL_1329, xL_1330, xL_1331, xL_1332, xL_1333, xL_1334, xL_1335, xL_1336, xL_1337, tL_1340, xL_1341, xL_1342, xL_1343, xL_1344, xL_1345, xL_1346, xL_1347, xL_1348, xL_1349, xL_1350, xL_1351, xL_1352, xL_1353, xL_1354, xL_1355, xL_1356, xL_1357, xL_1358, xL_1359, xL_1360, xL_1361, tL_1364, xL_1367, xL_1368, i_ald, i_cV, i_iadd, i_ic, i_ic_eq, i_ild, i_no, i_sld, lck_0, lck_i, lck_r, lck_n, lck_l, csum_0, csum_i, csum_r, csum_l, pops_0, pops_s, psh_n, psh_s, List.getElem?_cons_zero, List.getElem?_cons_succ, List.set_cons_zero, List.set_cons_succ, true_and, and_true, Nat.reduceAdd, Nat.reduceLeDiff, oc_0, oc_41, v1, v2, v3, v4, w1, w2, w3, w4]
  refine ⟨_, pr_minds r _ _ _ _, fun v h1 hq hv => ?_⟩
  obtain ⟨a, rfl⟩ := hv
  refine Rn_go CL_36 60 ?_
  simp only [kL_36_1689, kL_36_1340, kL_36_1364, xL_1316, xL_1317, xL_1318, xL_1319, xL_1320, xL_1321, xL_1322, xL_1323, xL_1324, xL_1325, xL_1326, xL_1327, xL_1328, xL_1329, xL_1330, xL_1331, xL_1332, xL_1333, xL_1334, xL_1335, xL_1336, xL_1337, tL_1340, xL_1341, xL_1342, xL_1343, xL_1344, xL_1345, xL_1346, xL_1347, xL_1348, xL_1349, xL_1350, xL_1351, xL_1352, xL_1353, xL_1354, xL_1355, xL_1356, xL_1357, xL_1358, xL_1359, xL_1360, xL_1361, tL_1364, xL_1367, xL_1368, i_ald, i_cV, i_iadd, i_ic, i_ic_eq, i_ild, i_no, i_sld, lck_0, lck_i, lck_r, lck_n, lck_l, csum_0, csum_i, csum_r, csum_l, pops_0, pops_s, psh_n, psh_s, List.getElem?_cons_zero, List.getElem?_cons_succ, List.set_cons_zero, List.set_cons_succ, true_and, and_true, Nat.reduceAdd, Nat.reduceLeDiff, oc_0, oc_41, v1, v2, v3, v4, w1, w2, w3, w4]
  refine ⟨_, hq, fun v h2 hq2 hv => ?_⟩
  obtain ⟨e, r2⟩ := hq2
  subst e
  refine Rn_go CL_36 60 ?_
  simp only [kL_36_1689, kL_36_1340, kL_36_1364, xL_1316, xL_1317, xL_1318, xL_1319, xL_1320, xL_1321, xL_1322, xL_1323, xL_1324, xL_1325, xL_1326, xL_1327, xL_1328, xL_1329, xL_1330, xL_1331, xL_1332, xL_1333, xL_1334, xL_1335, xL_1336, xL_1337, tL_1340, xL_1341, xL_1342, xL_1343, xL_1344, xL_1345, xL_1346, xL_1347, xL_1348, xL_1349, xL_1350, xL_1351, xL_1352, xL_1353, xL_1354, xL_1355, xL_1356, xL_1357, xL_1358, xL_1359, xL_1360, xL_1361, tL_1364, xL_1367, xL_1368, i_ald, i_cV, i_iadd, i_ic, i_ic_eq, i_ild, i_no, i_sld, lck_0, lck_i, lck_r, lck_n, lck_l, csum_0, csum_i, csum_r, csum_l, pops_0, pops_s, psh_n, psh_s, List.getElem?_cons_zero, List.getElem?_cons_succ, List.set_cons_zero, List.set_cons_succ, true_and, and_true, Nat.reduceAdd, Nat.reduceLeDiff, oc_0, oc_41, v1, v2, v3, v4, w1, w2, w3, w4]
  exact ⟨fun _ => hK h2 r2, fun z => absurd trivial z⟩
theorem lc_37 {xs : Nat → Int32} {N i : Nat} {h : Hp} (r : Rel h) (hi : i + 5 ≤ N) (hN : N ≤ 2560) (hK : ∀ h2, Rel h2 → Rn (TL xs N) (1689, [some (.ref 99), some (.ref 0), some (.ref 41), some (.int (nI i))], [], h2)) : Rn (TL xs N) (1369, [some (.ref 99), some (.ref 0), some (.ref 41), some (.int (nI i))], [], h) := by
  obtain ⟨v1, w1⟩ : vp_in (nI i + 1) N ∧ (nI i + 1).toNatClampNeg = i + 1 := vI 1 (by decide) hi hN
  obtain ⟨v2, w2⟩ : vp_in (nI i + 2) N ∧ (nI i + 2).toNatClampNeg = i + 2 := vI 2 (by decide) hi hN
  obtain ⟨v3, w3⟩ : vp_in (nI i + 3) N ∧ (nI i + 3).toNatClampNeg = i + 3 := vI 3 (by decide) hi hN
  obtain ⟨v4, w4⟩ : vp_in (nI i + 4) N ∧ (nI i + 4).toNatClampNeg = i + 4 := vI 4 (by decide) hi hN
  refine Rn_in CL_37 60 ?_
  simp only [kL_37_1689, kL_37_1388, kL_37_1407, xL_1369, xL_1370, xL_1371, xL_1372, xL_1373, xL_1374, xL_1375, xL_1376, xL_1377, xL_1378, xL_1379, xL_1380, xL_1381, xL_1382, xL_1383, xL_1384, xL_1385, tL_1388, xL_1389, xL_1390, xL_1391, xL_1392, xL_1393, xL_1394, xL_1395, xL_1396, xL_1397, xL_1398, xL_1399, xL_1400, xL_1401, xL_1402, xL_1403, xL_1404, tL_1407, xL_1410, xL_1411, i_ald, i_cV, i_iadd, i_ic, i_ic_eq, i_ild, i_no, i_sld, lck_0, lck_i, lck_r, lck_n, lck_l, csum_0, csum_i, csum_r, csum_l, pops_0, pops_s, psh_n, psh_s, List.getElem?_cons_zero, List.getElem?_cons_succ, List.set_cons_zero, List.set_cons_succ, true_and, and_true, Nat.reduceAdd, Nat.reduceLeDiff, oc_0, oc_41, v1, v2, v3, v4, w1, w2, w3, w4]
  refine ⟨_, pr_sheet r _ _ _, fun v h1 hq hv => ?_⟩
  obtain ⟨a, rfl⟩ := hv
  refine Rn_go CL_37 60 ?_
  simp only [kL_37_1689, kL_37_1388, kL_37_1407, xL_1369, xL_1370, xL_1371, xL_1372, xL_1373, xL_1374, xL_1375, xL_1376, xL_1377, xL_1378, xL_1379, xL_1380, xL_1381, xL_1382, xL_1383, xL_1384, xL_1385, tL_1388, xL_1389, xL_1390, xL_1391, xL_1392, xL_1393, xL_1394, xL_1395, xL_1396, xL_1397, xL_1398, xL_1399, xL_1400, xL_1401, xL_1402, xL_1403, xL_1404, tL_1407, xL_1410, xL_1411, i_ald, i_cV, i_iadd, i_ic, i_ic_eq, i_ild, i_no, i_sld, lck_0, lck_i, lck_r, lck_n, lck_l, csum_0, csum_i, csum_r, csum_l, pops_0, pops_s, psh_n, psh_s, List.getElem?_cons_zero, List.getElem?_cons_succ, List.set_cons_zero, List.set_cons_succ, true_and, and_true, Nat.reduceAdd, Nat.reduceLeDiff, oc_0, oc_41, v1, v2, v3, v4, w1, w2, w3, w4]
  refine ⟨_, hq, fun v h2 hq2 hv => ?_⟩
  obtain ⟨e, r2⟩ := hq2
  subst e
  refine Rn_go CL_37 60 ?_
  simp only [kL_37_1689, kL_37_1388, kL_37_1407, xL_1369, xL_1370, xL_1371, xL_1372, xL_1373, xL_1374, xL_1375, xL_1376, xL_1377, xL_1378, xL_1379, xL_1380, xL_1381, xL_1382, xL_1383, xL_1384, xL_1385, tL_1388, xL_1389, xL_1390, xL_1391, xL_1392, xL_1393, xL_1394, xL_1395, xL_1396, xL_1397, xL_1398, xL_1399, xL_1400, xL_1401, xL_1402, xL_1403, xL_1404, tL_1407, xL_1410, xL_1411, i_ald, i_cV, i_iadd, i_ic, i_ic_eq, i_ild, i_no, i_sld, lck_0, lck_i, lck_r, lck_n, lck_l, csum_0, csum_i, csum_r, csum_l, pops_0, pops_s, psh_n, psh_s, List.getElem?_cons_zero, List.getElem?_cons_succ, List.set_cons_zero, List.set_cons_succ, true_and, and_true, Nat.reduceAdd, Nat.reduceLeDiff, oc_0, oc_41, v1, v2, v3, v4, w1, w2, w3, w4]
  exact ⟨fun _ => hK h2 r2, fun z => absurd trivial z⟩
theorem lc_38 {xs : Nat → Int32} {N i : Nat} {h : Hp} (r : Rel h) (hi : i + 5 ≤ N) (hN : N ≤ 2560) (hK : ∀ h2, Rel h2 → Rn (TL xs N) (1689, [some (.ref 99), some (.ref 0), some (.ref 41), some (.int (nI i))], [], h2)) : Rn (TL xs N) (1412, [some (.ref 99), some (.ref 0), some (.ref 41), some (.int (nI i))], [], h) := by
  obtain ⟨v1, w1⟩ : vp_in (nI i + 1) N ∧ (nI i + 1).toNatClampNeg = i + 1 := vI 1 (by decide) hi hN
  obtain ⟨v2, w2⟩ : vp_in (nI i + 2) N ∧ (nI i + 2).toNatClampNeg = i + 2 := vI 2 (by decide) hi hN
  obtain ⟨v3, w3⟩ : vp_in (nI i + 3) N ∧ (nI i + 3).toNatClampNeg = i + 3 := vI 3 (by decide) hi hN
  obtain ⟨v4, w4⟩ : vp_in (nI i + 4) N ∧ (nI i + 4).toNatClampNeg = i + 4 := vI 4 (by decide) hi hN
  refine Rn_in CL_38 60 ?_
  simp only [kL_38_1689, kL_38_1431, kL_38_1450, xL_1412, xL_1413, xL_1414, xL_1415, xL_1416, xL_1417, xL_1418, xL_1419, xL_1420, xL_1421, xL_1422, xL_1423, xL_1424, xL_1425, xL_1426, xL_1427, xL_1428, tL_1431, xL_1432, xL_1433, xL_1434, xL_1435, xL_1436, xL_1437, xL_1438, xL_1439, xL_1440, xL_1441, xL_1442, xL_1443, xL_1444, xL_1445, xL_1446, xL_1447, tL_1450, xL_1453, xL_1454, i_ald, i_cV, i_iadd, i_ic, i_ic_eq, i_ild, i_no, i_sld, lck_0, lck_i, lck_r, lck_n, lck_l, csum_0, csum_i, csum_r, csum_l, pops_0, pops_s, psh_n, psh_s, List.getElem?_cons_zero, List.getElem?_cons_succ, List.set_cons_zero, List.set_cons_succ, true_and, and_true, Nat.reduceAdd, Nat.reduceLeDiff, oc_0, oc_41, v1, v2, v3, v4, w1, w2, w3, w4]
  refine ⟨_, pr_put r _ _ _, fun v h1 hq hv => ?_⟩
  obtain ⟨a, rfl⟩ := hv
  refine Rn_go CL_38 60 ?_
  simp only [kL_38_1689, kL_38_1431, kL_38_1450, xL_1412, xL_1413, xL_1414, xL_1415, xL_1416, xL_1417, xL_1418, xL_1419, xL_1420, xL_1421, xL_1422, xL_1423, xL_1424, xL_1425, xL_1426, xL_1427, xL_1428, tL_1431, xL_1432, xL_1433, xL_1434, xL_1435, xL_1436, xL_1437, xL_1438, xL_1439, xL_1440, xL_1441, xL_1442, xL_1443, xL_1444, xL_1445, xL_1446, xL_1447, tL_1450, xL_1453, xL_1454, i_ald, i_cV, i_iadd, i_ic, i_ic_eq, i_ild, i_no, i_sld, lck_0, lck_i, lck_r, lck_n, lck_l, csum_0, csum_i, csum_r, csum_l, pops_0, pops_s, psh_n, psh_s, List.getElem?_cons_zero, List.getElem?_cons_succ, List.set_cons_zero, List.set_cons_succ, true_and, and_true, Nat.reduceAdd, Nat.reduceLeDiff, oc_0, oc_41, v1, v2, v3, v4, w1, w2, w3, w4]
  refine ⟨_, hq, fun v h2 hq2 hv => ?_⟩
  obtain ⟨e, r2⟩ := hq2
  subst e
  refine Rn_go CL_38 60 ?_
  simp only [kL_38_1689, kL_38_1431, kL_38_1450, xL_1412, xL_1413, xL_1414, xL_1415, xL_1416, xL_1417, xL_1418, xL_1419, xL_1420, xL_1421, xL_1422, xL_1423, xL_1424, xL_1425, xL_1426, xL_1427, xL_1428, tL_1431, xL_1432, xL_1433, xL_1434, xL_1435, xL_1436, xL_1437, xL_1438, xL_1439, xL_1440, xL_1441, xL_1442, xL_1443, xL_1444, xL_1445, xL_1446, xL_1447, tL_1450, xL_1453, xL_1454, i_ald, i_cV, i_iadd, i_ic, i_ic_eq, i_ild, i_no, i_sld, lck_0, lck_i, lck_r, lck_n, lck_l, csum_0, csum_i, csum_r, csum_l, pops_0, pops_s, psh_n, psh_s, List.getElem?_cons_zero, List.getElem?_cons_succ, List.set_cons_zero, List.set_cons_succ, true_and, and_true, Nat.reduceAdd, Nat.reduceLeDiff, oc_0, oc_41, v1, v2, v3, v4, w1, w2, w3, w4]
  exact ⟨fun _ => hK h2 r2, fun z => absurd trivial z⟩
theorem lc_39 {xs : Nat → Int32} {N i : Nat} {h : Hp} (r : Rel h) (hi : i + 5 ≤ N) (hN : N ≤ 2560) (hK : ∀ h2, Rel h2 → Rn (TL xs N) (1689, [some (.ref 99), some (.ref 0), some (.ref 41), some (.int (nI i))], [], h2)) : Rn (TL xs N) (1455, [some (.ref 99), some (.ref 0), some (.ref 41), some (.int (nI i))], [], h) := by
  obtain ⟨v1, w1⟩ : vp_in (nI i + 1) N ∧ (nI i + 1).toNatClampNeg = i + 1 := vI 1 (by decide) hi hN
  obtain ⟨v2, w2⟩ : vp_in (nI i + 2) N ∧ (nI i + 2).toNatClampNeg = i + 2 := vI 2 (by decide) hi hN
  obtain ⟨v3, w3⟩ : vp_in (nI i + 3) N ∧ (nI i + 3).toNatClampNeg = i + 3 := vI 3 (by decide) hi hN
  obtain ⟨v4, w4⟩ : vp_in (nI i + 4) N ∧ (nI i + 4).toNatClampNeg = i + 4 := vI 4 (by decide) hi hN
  refine Rn_in CL_39 60 ?_
  simp only [kL_39_1689, kL_39_1474, kL_39_1493, xL_1455, xL_1456, xL_1457, xL_1458, xL_1459, xL_1460, xL_1461, xL_1462, xL_1463, xL_1464, xL_1465, xL_1466, xL_1467, xL_1468, xL_1469, xL_1470, xL_1471, tL_1474, xL_1475, xL_1476, xL_1477, xL_1478, xL_1479, xL_1480, xL_1481, xL_1482, xL_1483, xL_1484, xL_1485, xL_1486, xL_1487, xL_1488, xL_1489, xL_1490, tL_1493, xL_1496, xL_1497, i_ald, i_cV, i_iadd, i_ic, i_ic_eq, i_ild, i_no, i_sld, lck_0, lck_i, lck_r, lck_n, lck_l, csum_0, csum_i, csum_r, csum_l, pops_0, pops_s, psh_n, psh_s, List.getElem?_cons_zero, List.getElem?_cons_succ, List.set_cons_zero, List.set_cons_succ, true_and, and_true, Nat.reduceAdd, Nat.reduceLeDiff, oc_0, oc_41, v1, v2, v3, v4, w1, w2, w3, w4]
  refine ⟨_, pr_item r _ _ _, fun v h1 hq hv => ?_⟩
  obtain ⟨a, rfl⟩ := hv
  refine Rn_go CL_39 60 ?_
  simp only [kL_39_1689, kL_39_1474, kL_39_1493, xL_1455, xL_1456, xL_1457, xL_1458, xL_1459, xL_1460, xL_1461, xL_1462, xL_1463, xL_1464, xL_1465, xL_1466, xL_1467, xL_1468, xL_1469, xL_1470, xL_1471, tL_1474, xL_1475, xL_1476, xL_1477, xL_1478, xL_1479, xL_1480, xL_1481, xL_1482, xL_1483, xL_1484, xL_1485, xL_1486, xL_1487, xL_1488, xL_1489, xL_1490, tL_1493, xL_1496, xL_1497, i_ald, i_cV, i_iadd, i_ic, i_ic_eq, i_ild, i_no, i_sld, lck_0, lck_i, lck_r, lck_n, lck_l, csum_0, csum_i, csum_r, csum_l, pops_0, pops_s, psh_n, psh_s, List.getElem?_cons_zero, List.getElem?_cons_succ, List.set_cons_zero, List.set_cons_succ, true_and, and_true, Nat.reduceAdd, Nat.reduceLeDiff, oc_0, oc_41, v1, v2, v3, v4, w1, w2, w3, w4]
  refine ⟨_, hq, fun v h2 hq2 hv => ?_⟩
  obtain ⟨e, r2⟩ := hq2
  subst e
  refine Rn_go CL_39 60 ?_
  simp only [kL_39_1689, kL_39_1474, kL_39_1493, xL_1455, xL_1456, xL_1457, xL_1458, xL_1459, xL_1460, xL_1461, xL_1462, xL_1463, xL_1464, xL_1465, xL_1466, xL_1467, xL_1468, xL_1469, xL_1470, xL_1471, tL_1474, xL_1475, xL_1476, xL_1477, xL_1478, xL_1479, xL_1480, xL_1481, xL_1482, xL_1483, xL_1484, xL_1485, xL_1486, xL_1487, xL_1488, xL_1489, xL_1490, tL_1493, xL_1496, xL_1497, i_ald, i_cV, i_iadd, i_ic, i_ic_eq, i_ild, i_no, i_sld, lck_0, lck_i, lck_r, lck_n, lck_l, csum_0, csum_i, csum_r, csum_l, pops_0, pops_s, psh_n, psh_s, List.getElem?_cons_zero, List.getElem?_cons_succ, List.set_cons_zero, List.set_cons_succ, true_and, and_true, Nat.reduceAdd, Nat.reduceLeDiff, oc_0, oc_41, v1, v2, v3, v4, w1, w2, w3, w4]
  exact ⟨fun _ => hK h2 r2, fun z => absurd trivial z⟩
theorem lc_40 {xs : Nat → Int32} {N i : Nat} {h : Hp} (r : Rel h) (hi : i + 5 ≤ N) (hN : N ≤ 2560) (hK : ∀ h2, Rel h2 → Rn (TL xs N) (1689, [some (.ref 99), some (.ref 0), some (.ref 41), some (.int (nI i))], [], h2)) : Rn (TL xs N) (1498, [some (.ref 99), some (.ref 0), some (.ref 41), some (.int (nI i))], [], h) := by
  obtain ⟨v1, w1⟩ : vp_in (nI i + 1) N ∧ (nI i + 1).toNatClampNeg = i + 1 := vI 1 (by decide) hi hN
  obtain ⟨v2, w2⟩ : vp_in (nI i + 2) N ∧ (nI i + 2).toNatClampNeg = i + 2 := vI 2 (by decide) hi hN
  obtain ⟨v3, w3⟩ : vp_in (nI i + 3) N ∧ (nI i + 3).toNatClampNeg = i + 3 := vI 3 (by decide) hi hN
  obtain ⟨v4, w4⟩ : vp_in (nI i + 4) N ∧ (nI i + 4).toNatClampNeg = i + 4 := vI 4 (by decide) hi hN
  refine Rn_in CL_40 60 ?_
  simp only [kL_40_1689, kL_40_1517, kL_40_1536, xL_1498, xL_1499, xL_1500, xL_1501, xL_1502, xL_1503, xL_1504, xL_1505, xL_1506, xL_1507, xL_1508, xL_1509, xL_1510, xL_1511, xL_1512, xL_1513, xL_1514, tL_1517, xL_1518, xL_1519, xL_1520, xL_1521, xL_1522, xL_1523, xL_1524, xL_1525, xL_1526, xL_1527, xL_1528, xL_1529, xL_1530, xL_1531, xL_1532, xL_1533, tL_1536, xL_1539, xL_1540, i_ald, i_cV, i_iadd, i_ic, i_ic_eq, i_ild, i_no, i_sld, lck_0, lck_i, lck_r, lck_n, lck_l, csum_0, csum_i, csum_r, csum_l, pops_0, pops_s, psh_n, psh_s, List.getElem?_cons_zero, List.getElem?_cons_succ, List.set_cons_zero, List.set_cons_succ, true_and, and_true, Nat.reduceAdd, Nat.reduceLeDiff, oc_0, oc_41, v1, v2, v3, v4, w1, w2, w3, w4]
  refine ⟨_, pr_shelf r _ _ _, fun v h1 hq hv => ?_⟩
  obtain ⟨a, rfl⟩ := hv
  refine Rn_go CL_40 60 ?_
  simp only [kL_40_1689, kL_40_1517, kL_40_1536, xL_1498, xL_1499, xL_1500, xL_1501, xL_1502, xL_1503, xL_1504, xL_1505, xL_1506, xL_1507, xL_1508, xL_1509, xL_1510, xL_1511, xL_1512, xL_1513, xL_1514, tL_1517, xL_1518, xL_1519, xL_1520, xL_1521, xL_1522, xL_1523, xL_1524, xL_1525, xL_1526, xL_1527, xL_1528, xL_1529, xL_1530, xL_1531, xL_1532, xL_1533, tL_1536, xL_1539, xL_1540, i_ald, i_cV, i_iadd, i_ic, i_ic_eq, i_ild, i_no, i_sld, lck_0, lck_i, lck_r, lck_n, lck_l, csum_0, csum_i, csum_r, csum_l, pops_0, pops_s, psh_n, psh_s, List.getElem?_cons_zero, List.getElem?_cons_succ, List.set_cons_zero, List.set_cons_succ, true_and, and_true, Nat.reduceAdd, Nat.reduceLeDiff, oc_0, oc_41, v1, v2, v3, v4, w1, w2, w3, w4]
  refine ⟨_, hq, fun v h2 hq2 hv => ?_⟩
  obtain ⟨e, r2⟩ := hq2
  subst e
  refine Rn_go CL_40 60 ?_
  simp only [kL_40_1689, kL_40_1517, kL_40_1536, xL_1498, xL_1499, xL_1500, xL_1501, xL_1502, xL_1503, xL_1504, xL_1505, xL_1506, xL_1507, xL_1508, xL_1509, xL_1510, xL_1511, xL_1512, xL_1513, xL_1514, tL_1517, xL_1518, xL_1519, xL_1520, xL_1521, xL_1522, xL_1523, xL_1524, xL_1525, xL_1526, xL_1527, xL_1528, xL_1529, xL_1530, xL_1531, xL_1532, xL_1533, tL_1536, xL_1539, xL_1540, i_ald, i_cV, i_iadd, i_ic, i_ic_eq, i_ild, i_no, i_sld, lck_0, lck_i, lck_r, lck_n, lck_l, csum_0, csum_i, csum_r, csum_l, pops_0, pops_s, psh_n, psh_s, List.getElem?_cons_zero, List.getElem?_cons_succ, List.set_cons_zero, List.set_cons_succ, true_and, and_true, Nat.reduceAdd, Nat.reduceLeDiff, oc_0, oc_41, v1, v2, v3, v4, w1, w2, w3, w4]
  exact ⟨fun _ => hK h2 r2, fun z => absurd trivial z⟩
theorem lc_41 {xs : Nat → Int32} {N i : Nat} {h : Hp} (r : Rel h) (hi : i + 5 ≤ N) (hN : N ≤ 2560) (hK : ∀ h2, Rel h2 → Rn (TL xs N) (1689, [some (.ref 99), some (.ref 0), some (.ref 41), some (.int (nI i))], [], h2)) : Rn (TL xs N) (1541, [some (.ref 99), some (.ref 0), some (.ref 41), some (.int (nI i))], [], h) := by
  obtain ⟨v1, w1⟩ : vp_in (nI i + 1) N ∧ (nI i + 1).toNatClampNeg = i + 1 := vI 1 (by decide) hi hN
  obtain ⟨v2, w2⟩ : vp_in (nI i + 2) N ∧ (nI i + 2).toNatClampNeg = i + 2 := vI 2 (by decide) hi hN
  obtain ⟨v3, w3⟩ : vp_in (nI i + 3) N ∧ (nI i + 3).toNatClampNeg = i + 3 := vI 3 (by decide) hi hN
  obtain ⟨v4, w4⟩ : vp_in (nI i + 4) N ∧ (nI i + 4).toNatClampNeg = i + 4 := vI 4 (by decide) hi hN
  refine Rn_in CL_41 60 ?_
  simp only [kL_41_1689, kL_41_1555, kL_41_1569, xL_1541, xL_1542, xL_1543, xL_1544, xL_1545, xL_1546, xL_1547, xL_1548, xL_1549, xL_1550, xL_1551, xL_1552, tL_1555, xL_1556, xL_1557, xL_1558, xL_1559, xL_1560, xL_1561, xL_1562, xL_1563, xL_1564, xL_1565, xL_1566, tL_1569, xL_1572, xL_1573, i_ald, i_cV, i_iadd, i_ic, i_ic_eq, i_ild, i_no, i_sld, lck_0, lck_i, lck_r, lck_n, lck_l, csum_0, csum_i, csum_r, csum_l, pops_0, pops_s, psh_n, psh_s, List.getElem?_cons_zero, List.getElem?_cons_succ, List.set_cons_zero, List.set_cons_succ, true_and, and_true, Nat.reduceAdd, Nat.reduceLeDiff, oc_0, oc_41, v1, v2, v3, v4, w1, w2, w3, w4]
  refine ⟨_, pr_taken r _ _, fun v h1 hq hv => ?_⟩
  obtain ⟨a, rfl⟩ := hv
  refine Rn_go CL_41 60 ?_
  simp only [kL_41_1689, kL_41_1555, kL_41_1569, xL_1541, xL_1542, xL_1543, xL_1544, xL_1545, xL_1546, xL_1547, xL_1548, xL_1549, xL_1550, xL_1551, xL_1552, tL_1555, xL_1556, xL_1557, xL_1558, xL_1559, xL_1560, xL_1561, xL_1562, xL_1563, xL_1564, xL_1565, xL_1566, tL_1569, xL_1572, xL_1573, i_ald, i_cV, i_iadd, i_ic, i_ic_eq, i_ild, i_no, i_sld, lck_0, lck_i, lck_r, lck_n, lck_l, csum_0, csum_i, csum_r, csum_l, pops_0, pops_s, psh_n, psh_s, List.getElem?_cons_zero, List.getElem?_cons_succ, List.set_cons_zero, List.set_cons_succ, true_and, and_true, Nat.reduceAdd, Nat.reduceLeDiff, oc_0, oc_41, v1, v2, v3, v4, w1, w2, w3, w4]
  refine ⟨_, hq, fun v h2 hq2 hv => ?_⟩
  obtain ⟨e, r2⟩ := hq2
  subst e
  refine Rn_go CL_41 60 ?_
  simp only [kL_41_1689, kL_41_1555, kL_41_1569, xL_1541, xL_1542, xL_1543, xL_1544, xL_1545, xL_1546, xL_1547, xL_1548, xL_1549, xL_1550, xL_1551, xL_1552, tL_1555, xL_1556, xL_1557, xL_1558, xL_1559, xL_1560, xL_1561, xL_1562, xL_1563, xL_1564, xL_1565, xL_1566, tL_1569, xL_1572, xL_1573, i_ald, i_cV, i_iadd, i_ic, i_ic_eq, i_ild, i_no, i_sld, lck_0, lck_i, lck_r, lck_n, lck_l, csum_0, csum_i, csum_r, csum_l, pops_0, pops_s, psh_n, psh_s, List.getElem?_cons_zero, List.getElem?_cons_succ, List.set_cons_zero, List.set_cons_succ, true_and, and_true, Nat.reduceAdd, Nat.reduceLeDiff, oc_0, oc_41, v1, v2, v3, v4, w1, w2, w3, w4]
  exact ⟨fun _ => hK h2 r2, fun z => absurd trivial z⟩
theorem lc_42 {xs : Nat → Int32} {N i : Nat} {h : Hp} (r : Rel h) (hi : i + 5 ≤ N) (hN : N ≤ 2560) (hK : ∀ h2, Rel h2 → Rn (TL xs N) (1689, [some (.ref 99), some (.ref 0), some (.ref 41), some (.int (nI i))], [], h2)) : Rn (TL xs N) (1574, [some (.ref 99), some (.ref 0), some (.ref 41), some (.int (nI i))], [], h) := by
  obtain ⟨v1, w1⟩ : vp_in (nI i + 1) N ∧ (nI i + 1).toNatClampNeg = i + 1 := vI 1 (by decide) hi hN
  obtain ⟨v2, w2⟩ : vp_in (nI i + 2) N ∧ (nI i + 2).toNatClampNeg = i + 2 := vI 2 (by decide) hi hN
  obtain ⟨v3, w3⟩ : vp_in (nI i + 3) N ∧ (nI i + 3).toNatClampNeg = i + 3 := vI 3 (by decide) hi hN
  obtain ⟨v4, w4⟩ : vp_in (nI i + 4) N ∧ (nI i + 4).toNatClampNeg = i + 4 := vI 4 (by decide) hi hN
  refine Rn_in CL_42 60 ?_
  simp only [kL_42_1689, kL_42_1593, kL_42_1612, xL_1574, xL_1575, xL_1576, xL_1577, xL_1578, xL_1579, xL_1580, xL_1581, xL_1582, xL_1583, xL_1584, xL_1585, xL_1586, xL_1587, xL_1588, xL_1589, xL_1590, tL_1593, xL_1594, xL_1595, xL_1596, xL_1597, xL_1598, xL_1599, xL_1600, xL_1601, xL_1602, xL_1603, xL_1604, xL_1605, xL_1606, xL_1607, xL_1608, xL_1609, tL_1612, xL_1615, xL_1616, i_ald, i_cV, i_iadd, i_ic, i_ic_eq, i_ild, i_no, i_sld, lck_0, lck_i, lck_r, lck_n, lck_l, csum_0, csum_i, csum_r, csum_l, pops_0, pops_s, psh_n, psh_s, List.getElem?_cons_zero, List.getElem?_cons_succ, List.set_cons_zero, List.set_cons_succ, true_and, and_true, Nat.reduceAdd, Nat.reduceLeDiff, oc_0, oc_41, v1, v2, v3, v4, w1, w2, w3, w4]
  refine ⟨_, pr_act r _ _ _, fun v h1 hq hv => ?_⟩
  obtain ⟨a, rfl⟩ := hv
  refine Rn_go CL_42 60 ?_
  simp only [kL_42_1689, kL_42_1593, kL_42_1612, xL_1574, xL_1575, xL_1576, xL_1577, xL_1578, xL_1579, xL_1580, xL_1581, xL_1582, xL_1583, xL_1584, xL_1585, xL_1586, xL_1587, xL_1588, xL_1589, xL_1590, tL_1593, xL_1594, xL_1595, xL_1596, xL_1597, xL_1598, xL_1599, xL_1600, xL_1601, xL_1602, xL_1603, xL_1604, xL_1605, xL_1606, xL_1607, xL_1608, xL_1609, tL_1612, xL_1615, xL_1616, i_ald, i_cV, i_iadd, i_ic, i_ic_eq, i_ild, i_no, i_sld, lck_0, lck_i, lck_r, lck_n, lck_l, csum_0, csum_i, csum_r, csum_l, pops_0, pops_s, psh_n, psh_s, List.getElem?_cons_zero, List.getElem?_cons_succ, List.set_cons_zero, List.set_cons_succ, true_and, and_true, Nat.reduceAdd, Nat.reduceLeDiff, oc_0, oc_41, v1, v2, v3, v4, w1, w2, w3, w4]
  refine ⟨_, hq, fun v h2 hq2 hv => ?_⟩
  obtain ⟨e, r2⟩ := hq2
  subst e
  refine Rn_go CL_42 60 ?_
  simp only [kL_42_1689, kL_42_1593, kL_42_1612, xL_1574, xL_1575, xL_1576, xL_1577, xL_1578, xL_1579, xL_1580, xL_1581, xL_1582, xL_1583, xL_1584, xL_1585, xL_1586, xL_1587, xL_1588, xL_1589, xL_1590, tL_1593, xL_1594, xL_1595, xL_1596, xL_1597, xL_1598, xL_1599, xL_1600, xL_1601, xL_1602, xL_1603, xL_1604, xL_1605, xL_1606, xL_1607, xL_1608, xL_1609, tL_1612, xL_1615, xL_1616, i_ald, i_cV, i_iadd, i_ic, i_ic_eq, i_ild, i_no, i_sld, lck_0, lck_i, lck_r, lck_n, lck_l, csum_0, csum_i, csum_r, csum_l, pops_0, pops_s, psh_n, psh_s, List.getElem?_cons_zero, List.getElem?_cons_succ, List.set_cons_zero, List.set_cons_succ, true_and, and_true, Nat.reduceAdd, Nat.reduceLeDiff, oc_0, oc_41, v1, v2, v3, v4, w1, w2, w3, w4]
  exact ⟨fun _ => hK h2 r2, fun z => absurd trivial z⟩
theorem lc_43 {xs : Nat → Int32} {N i : Nat} {h : Hp} (r : Rel h) (hi : i + 5 ≤ N) (hN : N ≤ 2560) (hK : ∀ h2, Rel h2 → Rn (TL xs N) (1689, [some (.ref 99), some (.ref 0), some (.ref 41), some (.int (nI i))], [], h2)) : Rn (TL xs N) (1617, [some (.ref 99), some (.ref 0), some (.ref 41), some (.int (nI i))], [], h) := by
  obtain ⟨v1, w1⟩ : vp_in (nI i + 1) N ∧ (nI i + 1).toNatClampNeg = i + 1 := vI 1 (by decide) hi hN
  obtain ⟨v2, w2⟩ : vp_in (nI i + 2) N ∧ (nI i + 2).toNatClampNeg = i + 2 := vI 2 (by decide) hi hN
  obtain ⟨v3, w3⟩ : vp_in (nI i + 3) N ∧ (nI i + 3).toNatClampNeg = i + 3 := vI 3 (by decide) hi hN
  obtain ⟨v4, w4⟩ : vp_in (nI i + 4) N ∧ (nI i + 4).toNatClampNeg = i + 4 := vI 4 (by decide) hi hN
  refine Rn_in CL_43 60 ?_
  simp only [kL_43_1689, kL_43_1626, kL_43_1635, xL_1617, xL_1618, xL_1619, xL_1620, xL_1621, xL_1622, xL_1623, tL_1626, xL_1627, xL_1628, xL_1629, xL_1630, xL_1631, xL_1632, tL_1635, xL_1638, xL_1639, i_ald, i_cV, i_iadd, i_ic, i_ic_eq, i_ild, i_no, i_sld, lck_0, lck_i, lck_r, lck_n, lck_l, csum_0, csum_i, csum_r, csum_l, pops_0, pops_s, psh_n, psh_s, List.getElem?_cons_zero, List.getElem?_cons_succ, List.set_cons_zero, List.set_cons_succ, true_and, and_true, Nat.reduceAdd, Nat.reduceLeDiff, oc_0, oc_41, v1, v2, v3, v4, w1, w2, w3, w4]
  refine ⟨_, pr_trace r _, fun v h1 hq hv => ?_⟩
  obtain ⟨a, rfl⟩ := hv
  refine Rn_go CL_43 60 ?_
  simp only [kL_43_1689, kL_43_1626, kL_43_1635, xL_1617, xL_1618, xL_1619, xL_1620, xL_1621, xL_1622, xL_1623, tL_1626, xL_1627, xL_1628, xL_1629, xL_1630, xL_1631, xL_1632, tL_1635, xL_1638, xL_1639, i_ald, i_cV, i_iadd, i_ic, i_ic_eq, i_ild, i_no, i_sld, lck_0, lck_i, lck_r, lck_n, lck_l, csum_0, csum_i, csum_r, csum_l, pops_0, pops_s, psh_n, psh_s, List.getElem?_cons_zero, List.getElem?_cons_succ, List.set_cons_zero, List.set_cons_succ, true_and, and_true, Nat.reduceAdd, Nat.reduceLeDiff, oc_0, oc_41, v1, v2, v3, v4, w1, w2, w3, w4]
  refine ⟨_, hq, fun v h2 hq2 hv => ?_⟩
  obtain ⟨e, r2⟩ := hq2
  subst e
  refine Rn_go CL_43 60 ?_
  simp only [kL_43_1689, kL_43_1626, kL_43_1635, xL_1617, xL_1618, xL_1619, xL_1620, xL_1621, xL_1622, xL_1623, tL_1626, xL_1627, xL_1628, xL_1629, xL_1630, xL_1631, xL_1632, tL_1635, xL_1638, xL_1639, i_ald, i_cV, i_iadd, i_ic, i_ic_eq, i_ild, i_no, i_sld, lck_0, lck_i, lck_r, lck_n, lck_l, csum_0, csum_i, csum_r, csum_l, pops_0, pops_s, psh_n, psh_s, List.getElem?_cons_zero, List.getElem?_cons_succ, List.set_cons_zero, List.set_cons_succ, true_and, and_true, Nat.reduceAdd, Nat.reduceLeDiff, oc_0, oc_41, v1, v2, v3, v4, w1, w2, w3, w4]
  exact ⟨fun _ => hK h2 r2, fun z => absurd trivial z⟩
theorem lc_44 {xs : Nat → Int32} {N i : Nat} {h : Hp} (r : Rel h) (hi : i + 5 ≤ N) (hN : N ≤ 2560) (hK : ∀ h2, Rel h2 → Rn (TL xs N) (1689, [some (.ref 99), some (.ref 0), some (.ref 41), some (.int (nI i))], [], h2)) : Rn (TL xs N) (1640, [some (.ref 99), some (.ref 0), some (.ref 41), some (.int (nI i))], [], h) := by
  obtain ⟨v1, w1⟩ : vp_in (nI i + 1) N ∧ (nI i + 1).toNatClampNeg = i + 1 := vI 1 (by decide) hi hN
  obtain ⟨v2, w2⟩ : vp_in (nI i + 2) N ∧ (nI i + 2).toNatClampNeg = i + 2 := vI 2 (by decide) hi hN
  obtain ⟨v3, w3⟩ : vp_in (nI i + 3) N ∧ (nI i + 3).toNatClampNeg = i + 3 := vI 3 (by decide) hi hN
  obtain ⟨v4, w4⟩ : vp_in (nI i + 4) N ∧ (nI i + 4).toNatClampNeg = i + 4 := vI 4 (by decide) hi hN
  refine Rn_in CL_44 60 ?_
  simp only [kL_44_1689, kL_44_1649, kL_44_1658, xL_1640, xL_1641, xL_1642, xL_1643, xL_1644, xL_1645, xL_1646, tL_1649, xL_1650, xL_1651, xL_1652, xL_1653, xL_1654, xL_1655, tL_1658, xL_1661, xL_1662, i_ald, i_cV, i_iadd, i_ic, i_ic_eq, i_ild, i_no, i_sld, lck_0, lck_i, lck_r, lck_n, lck_l, csum_0, csum_i, csum_r, csum_l, pops_0, pops_s, psh_n, psh_s, List.getElem?_cons_zero, List.getElem?_cons_succ, List.set_cons_zero, List.set_cons_succ, true_and, and_true, Nat.reduceAdd, Nat.reduceLeDiff, oc_0, oc_41, v1, v2, v3, v4, w1, w2, w3, w4]
  refine ⟨_, pr_many r _, fun v h1 hq hv => ?_⟩
  obtain ⟨a, rfl⟩ := hv
  refine Rn_go CL_44 60 ?_
  simp only [kL_44_1689, kL_44_1649, kL_44_1658, xL_1640, xL_1641, xL_1642, xL_1643, xL_1644, xL_1645, xL_1646, tL_1649, xL_1650, xL_1651, xL_1652, xL_1653, xL_1654, xL_1655, tL_1658, xL_1661, xL_1662, i_ald, i_cV, i_iadd, i_ic, i_ic_eq, i_ild, i_no, i_sld, lck_0, lck_i, lck_r, lck_n, lck_l, csum_0, csum_i, csum_r, csum_l, pops_0, pops_s, psh_n, psh_s, List.getElem?_cons_zero, List.getElem?_cons_succ, List.set_cons_zero, List.set_cons_succ, true_and, and_true, Nat.reduceAdd, Nat.reduceLeDiff, oc_0, oc_41, v1, v2, v3, v4, w1, w2, w3, w4]
  refine ⟨_, hq, fun v h2 hq2 hv => ?_⟩
  obtain ⟨e, r2⟩ := hq2
  subst e
  refine Rn_go CL_44 60 ?_
  simp only [kL_44_1689, kL_44_1649, kL_44_1658, xL_1640, xL_1641, xL_1642, xL_1643, xL_1644, xL_1645, xL_1646, tL_1649, xL_1650, xL_1651, xL_1652, xL_1653, xL_1654, xL_1655, tL_1658, xL_1661, xL_1662, i_ald, i_cV, i_iadd, i_ic, i_ic_eq, i_ild, i_no, i_sld, lck_0, lck_i, lck_r, lck_n, lck_l, csum_0, csum_i, csum_r, csum_l, pops_0, pops_s, psh_n, psh_s, List.getElem?_cons_zero, List.getElem?_cons_succ, List.set_cons_zero, List.set_cons_succ, true_and, and_true, Nat.reduceAdd, Nat.reduceLeDiff, oc_0, oc_41, v1, v2, v3, v4, w1, w2, w3, w4]
  exact ⟨fun _ => hK h2 r2, fun z => absurd trivial z⟩
theorem lc_45 {xs : Nat → Int32} {N i : Nat} {h : Hp} (r : Rel h) (hi : i + 5 ≤ N) (hN : N ≤ 2560) (hK : ∀ h2, Rel h2 → Rn (TL xs N) (1689, [some (.ref 99), some (.ref 0), some (.ref 41), some (.int (nI i))], [], h2)) : Rn (TL xs N) (1663, [some (.ref 99), some (.ref 0), some (.ref 41), some (.int (nI i))], [], h) := by
  obtain ⟨v1, w1⟩ : vp_in (nI i + 1) N ∧ (nI i + 1).toNatClampNeg = i + 1 := vI 1 (by decide) hi hN
  obtain ⟨v2, w2⟩ : vp_in (nI i + 2) N ∧ (nI i + 2).toNatClampNeg = i + 2 := vI 2 (by decide) hi hN
  obtain ⟨v3, w3⟩ : vp_in (nI i + 3) N ∧ (nI i + 3).toNatClampNeg = i + 3 := vI 3 (by decide) hi hN
  obtain ⟨v4, w4⟩ : vp_in (nI i + 4) N ∧ (nI i + 4).toNatClampNeg = i + 4 := vI 4 (by decide) hi hN
  refine Rn_in CL_45 60 ?_
  simp only [kL_45_1689, kL_45_1667, kL_45_1671, xL_1663, xL_1664, tL_1667, xL_1668, tL_1671, xL_1674, xL_1675, i_ald, i_cV, i_ic, i_ic_eq, i_no, lck_0, lck_i, lck_r, lck_n, lck_l, csum_0, csum_i, csum_r, csum_l, pops_0, pops_s, psh_n, psh_s, List.getElem?_cons_zero, List.getElem?_cons_succ, List.set_cons_zero, List.set_cons_succ, true_and, and_true, Nat.reduceAdd, Nat.reduceLeDiff, oc_0, oc_41, v1, v2, v3, v4, w1, w2, w3, w4]
  refine ⟨_, pr_keep r, fun v h1 hq hv => ?_⟩
  obtain ⟨a, rfl⟩ := hv
  refine Rn_go CL_45 60 ?_
  simp only [kL_45_1689, kL_45_1667, kL_45_1671, xL_1663, xL_1664, tL_1667, xL_1668, tL_1671, xL_1674, xL_1675, i_ald, i_cV, i_ic, i_ic_eq, i_no, lck_0, lck_i, lck_r, lck_n, lck_l, csum_0, csum_i, csum_r, csum_l, pops_0, pops_s, psh_n, psh_s, List.getElem?_cons_zero, List.getElem?_cons_succ, List.set_cons_zero, List.set_cons_succ, true_and, and_true, Nat.reduceAdd, Nat.reduceLeDiff, oc_0, oc_41, v1, v2, v3, v4, w1, w2, w3, w4]
  refine ⟨_, hq, fun v h2 hq2 hv => ?_⟩
  obtain ⟨e, r2⟩ := hq2
  subst e
  refine Rn_go CL_45 60 ?_
  simp only [kL_45_1689, kL_45_1667, kL_45_1671, xL_1663, xL_1664, tL_1667, xL_1668, tL_1671, xL_1674, xL_1675, i_ald, i_cV, i_ic, i_ic_eq, i_no, lck_0, lck_i, lck_r, lck_n, lck_l, csum_0, csum_i, csum_r, csum_l, pops_0, pops_s, psh_n, psh_s, List.getElem?_cons_zero, List.getElem?_cons_succ, List.set_cons_zero, List.set_cons_succ, true_and, and_true, Nat.reduceAdd, Nat.reduceLeDiff, oc_0, oc_41, v1, v2, v3, v4, w1, w2, w3, w4]
  exact ⟨fun _ => hK h2 r2, fun z => absurd trivial z⟩
theorem lc_46 {xs : Nat → Int32} {N i : Nat} {h : Hp} (r : Rel h) (hi : i + 5 ≤ N) (hN : N ≤ 2560) (hK : ∀ h2, Rel h2 → Rn (TL xs N) (1689, [some (.ref 99), some (.ref 0), some (.ref 41), some (.int (nI i))], [], h2)) : Rn (TL xs N) (1676, [some (.ref 99), some (.ref 0), some (.ref 41), some (.int (nI i))], [], h) := by
  obtain ⟨v1, w1⟩ : vp_in (nI i + 1) N ∧ (nI i + 1).toNatClampNeg = i + 1 := vI 1 (by decide) hi hN
  obtain ⟨v2, w2⟩ : vp_in (nI i + 2) N ∧ (nI i + 2).toNatClampNeg = i + 2 := vI 2 (by decide) hi hN
  obtain ⟨v3, w3⟩ : vp_in (nI i + 3) N ∧ (nI i + 3).toNatClampNeg = i + 3 := vI 3 (by decide) hi hN
  obtain ⟨v4, w4⟩ : vp_in (nI i + 4) N ∧ (nI i + 4).toNatClampNeg = i + 4 := vI 4 (by decide) hi hN
  refine Rn_in CL_46 60 ?_
  simp only [kL_46_1689, kL_46_1680, kL_46_1684, xL_1676, xL_1677, tL_1680, xL_1681, tL_1684, xL_1687, xL_1688, i_ald, i_cV, i_ic, i_ic_eq, i_no, lck_0, lck_i, lck_r, lck_n, lck_l, csum_0, csum_i, csum_r, csum_l, pops_0, pops_s, psh_n, psh_s, List.getElem?_cons_zero, List.getElem?_cons_succ, List.set_cons_zero, List.set_cons_succ, true_and, and_true, Nat.reduceAdd, Nat.reduceLeDiff, oc_0, oc_41, v1, v2, v3, v4, w1, w2, w3, w4]
  refine ⟨_, pr_again r, fun v h1 hq hv => ?_⟩
  obtain ⟨a, rfl⟩ := hv
  refine Rn_go CL_46 60 ?_
  simp only [kL_46_1689, kL_46_1680, kL_46_1684, xL_1676, xL_1677, tL_1680, xL_1681, tL_1684, xL_1687, xL_1688, i_ald, i_cV, i_ic, i_ic_eq, i_no, lck_0, lck_i, lck_r, lck_n, lck_l, csum_0, csum_i, csum_r, csum_l, pops_0, pops_s, psh_n, psh_s, List.getElem?_cons_zero, List.getElem?_cons_succ, List.set_cons_zero, List.set_cons_succ, true_and, and_true, Nat.reduceAdd, Nat.reduceLeDiff, oc_0, oc_41, v1, v2, v3, v4, w1, w2, w3, w4]
  refine ⟨_, hq, fun v h2 hq2 hv => ?_⟩
  obtain ⟨e, r2⟩ := hq2
  subst e
  refine Rn_go CL_46 60 ?_
  simp only [kL_46_1689, kL_46_1680, kL_46_1684, xL_1676, xL_1677, tL_1680, xL_1681, tL_1684, xL_1687, xL_1688, i_ald, i_cV, i_ic, i_ic_eq, i_no, lck_0, lck_i, lck_r, lck_n, lck_l, csum_0, csum_i, csum_r, csum_l, pops_0, pops_s, psh_n, psh_s, List.getElem?_cons_zero, List.getElem?_cons_succ, List.set_cons_zero, List.set_cons_succ, true_and, and_true, Nat.reduceAdd, Nat.reduceLeDiff, oc_0, oc_41, v1, v2, v3, v4, w1, w2, w3, w4]
  exact ⟨fun _ => hK h2 r2, fun z => absurd trivial z⟩
theorem lawgt {i N : Nat} (hN : N ≤ 2560) (hi : i ≤ N + 4) : (nI N - 5 < nI i) = ¬ (i + 5 ≤ N) := by
  apply propext
  rcases Nat.lt_or_ge N 5 with c | c
  · have h0 : nI N - 5 < 0 := by
      rcases (show N = 0 ∨ N = 1 ∨ N = 2 ∨ N = 3 ∨ N = 4 by omega) with rfl | rfl | rfl | rfl | rfl <;> decide
    exact ⟨fun _ => by omega, fun _ => Int32.lt_of_lt_of_le h0 (nI_pos' (by omega))⟩
  · rw [show nI N - 5 = nI (N - 5) from nI_s (a := N) (b := 5) c]
    constructor
    · intro q z
      exact absurd q (nI_nlt (by omega) (by omega))
    · intro q
      exact nI_lt (by omega) (by omega)
theorem lawK {xs : Nat → Int32} {N i : Nat} {h : Hp} (nx : Rn (TL xs N) (18, [some (.ref 99), some (.ref 0), some (.ref 41), some (.int (nI (i + 5)))], [], h)) : Rn (TL xs N) (1689, [some (.ref 99), some (.ref 0), some (.ref 41), some (.int (nI i))], [], h) := by
  rw [show nI (i + 5) = nI i + 5 from (nI_add i 5).symm] at nx
  refine Rn_go CL_E 60 ?_
  simp only [kL_E_18, kL_E_1689, tL_1689, xL_1692, xL_1695, xL_1696, i_goto, i_ic, i_inc, i_lw, lck_0, lck_i, lck_r, lck_n, lck_l, csum_0, csum_i, csum_r, csum_l, pops_0, pops_s, psh_n, psh_s, List.getElem?_cons_zero, List.getElem?_cons_succ, List.set_cons_zero, List.set_cons_succ, true_and, and_true, Nat.reduceAdd, Nat.reduceLeDiff]
  exact nx
theorem lawE {xs : Nat → Int32} {N : Nat} {L : Lo} {h : Hp} : Rn (TL xs N) (1695, L, [], h) := by
  refine Rn_in CL_E 60 ?_
  simp only [kL_E_18, kL_E_1689, tL_1689, xL_1692, xL_1695, xL_1696, i_goto, i_ic, i_inc, i_lw, lck_0, lck_i, lck_r, lck_n, lck_l, csum_0, csum_i, csum_r, csum_l, pops_0, pops_s, psh_n, psh_s, List.getElem?_cons_zero, List.getElem?_cons_succ, List.set_cons_zero, List.set_cons_succ, true_and, and_true, Nat.reduceAdd, Nat.reduceLeDiff]
theorem law_run {xs : Nat → Int32} {N : Nat} (hN : N ≤ 2560) : ∀ d i h, N < d + i → i ≤ N + 4 → Rel h → Rn (TL xs N) (18, [some (.ref 99), some (.ref 0), some (.ref 41), some (.int (nI i))], [], h)
  | 0, i, h, e, hi, r => by
    have hlt : nI N - 5 < nI i := by rw [lawgt hN hi]; omega
    refine Rn_go CL_H 60 ?_
    simp only [kL_H_18, kL_H_1689, kL_H_1695, kL_H_236, kL_H_299, kL_H_312, kL_H_345, kL_H_368, kL_H_411, kL_H_444, kL_H_477, kL_H_510, kL_H_543, kL_H_576, kL_H_609, kL_H_632, kL_H_665, kL_H_698, kL_H_721, kL_H_744, kL_H_757, kL_H_780, kL_H_803, kL_H_836, kL_H_859, kL_H_872, kL_H_905, kL_H_928, kL_H_961, kL_H_994, kL_H_1017, kL_H_1040, kL_H_1063, kL_H_1106, kL_H_1150, kL_H_1184, kL_H_1217, kL_H_1250, kL_H_1293, kL_H_1316, kL_H_1369, kL_H_1412, kL_H_1455, kL_H_1498, kL_H_1541, kL_H_1574, kL_H_1617, kL_H_1640, kL_H_1663, kL_H_1676, tL_18, xL_19, xL_20, xL_21, xL_22, xL_23, xL_26, xL_27, xL_28, xL_29, xL_31, xL_32, i_ald, i_iand, i_ic, i_ic_gt, i_ild, i_isub, i_sld, i_slen, i_sw, lck_0, lck_i, lck_r, lck_n, lck_l, csum_0, csum_i, csum_r, csum_l, pops_0, pops_s, psh_n, psh_s, List.getElem?_cons_zero, List.getElem?_cons_succ, List.set_cons_zero, List.set_cons_succ, true_and, and_true, Nat.reduceAdd, Nat.reduceLeDiff, hlt, not_true_eq_false, false_implies, true_implies]
    exact lawE
  | d + 1, i, h, e, hi, r => by
    by_cases c : i + 5 ≤ N
    · have hlt : ¬ nI N - 5 < nI i := by rw [lawgt hN hi]; exact fun z => z c
      have vI0 : vp_in (nI i) N := vp_in_nI (by omega) (by omega)
      have wI0 : (nI i).toNatClampNeg = i := nI_clamp (by omega)
      have nn9 := True.intro
      have hK : ∀ h2, Rel h2 → Rn (TL xs N) (1689, [some (.ref 99), some (.ref 0), some (.ref 41), some (.int (nI i))], [], h2) := fun h2 r2 => lawK (law_run hN d (i + 5) h2 (by omega) (by omega) r2)
      refine Rn_go CL_H 60 ?_
      simp only [kL_H_18, kL_H_1689, kL_H_1695, kL_H_236, kL_H_299, kL_H_312, kL_H_345, kL_H_368, kL_H_411, kL_H_444, kL_H_477, kL_H_510, kL_H_543, kL_H_576, kL_H_609, kL_H_632, kL_H_665, kL_H_698, kL_H_721, kL_H_744, kL_H_757, kL_H_780, kL_H_803, kL_H_836, kL_H_859, kL_H_872, kL_H_905, kL_H_928, kL_H_961, kL_H_994, kL_H_1017, kL_H_1040, kL_H_1063, kL_H_1106, kL_H_1150, kL_H_1184, kL_H_1217, kL_H_1250, kL_H_1293, kL_H_1316, kL_H_1369, kL_H_1412, kL_H_1455, kL_H_1498, kL_H_1541, kL_H_1574, kL_H_1617, kL_H_1640, kL_H_1663, kL_H_1676, tL_18, xL_19, xL_20, xL_21, xL_22, xL_23, xL_26, xL_27, xL_28, xL_29, xL_31, xL_32, i_ald, i_iand, i_ic, i_ic_gt, i_ild, i_isub, i_sld, i_slen, i_sw, lck_0, lck_i, lck_r, lck_n, lck_l, csum_0, csum_i, csum_r, csum_l, pops_0, pops_s, psh_n, psh_s, List.getElem?_cons_zero, List.getElem?_cons_succ, List.set_cons_zero, List.set_cons_succ, true_and, and_true, Nat.reduceAdd, Nat.reduceLeDiff, hlt, vI0, wI0, nn9, not_false_eq_true, not_true_eq_false, false_implies, true_implies, implies_true]
      refine ⟨?_, fun _ => hK h r⟩
      simp only [List.forall_mem_cons, List.not_mem_nil, false_implies, implies_true, and_true]
      exact ⟨fun _ => lc_0 r c hN hK, fun _ => lc_1 r c hN hK, fun _ => lc_2 r c hN hK, fun _ => lc_3 r c hN hK, fun _ => lc_4 r c hN hK, fun _ => lc_5 r c hN hK, fun _ => lc_6 r c hN hK, fun _ => lc_7 r c hN hK, fun _ => lc_8 r c hN hK, fun _ => lc_9 r c hN hK, fun _ => lc_10 r c hN hK, fun _ => lc_11 r c hN hK, fun _ => lc_12 r c hN hK, fun _ => lc_13 r c hN hK, fun _ => lc_14 r c hN hK, fun _ => lc_15 r c hN hK, fun _ => lc_16 r c hN hK, fun _ => lc_17 r c hN hK, fun _ => lc_18 r c hN hK, fun _ => lc_19 r c hN hK, fun _ => lc_20 r c hN hK, fun _ => lc_21 r c hN hK, fun _ => lc_22 r c hN hK, fun _ => lc_23 r c hN hK, fun _ => lc_24 r c hN hK, fun _ => lc_25 r c hN hK, fun _ => lc_26 r c hN hK, fun _ => lc_27 r c hN hK, fun _ => lc_28 r c hN hK, fun _ => lc_29 r c hN hK, fun _ => lc_30 r c hN hK, fun _ => lc_31 r c hN hK, fun _ => lc_32 r c hN hK, fun _ => lc_33 r c hN hK, fun _ => lc_34 r c hN hK, fun _ => lc_35 r c hN hK, fun _ => lc_36 r c hN hK, fun _ => lc_37 r c hN hK, fun _ => lc_38 r c hN hK, fun _ => lc_39 r c hN hK, fun _ => lc_40 r c hN hK, fun _ => lc_41 r c hN hK, fun _ => lc_42 r c hN hK, fun _ => lc_43 r c hN hK, fun _ => lc_44 r c hN hK, fun _ => lc_45 r c hN hK, fun _ => lc_46 r c hN hK⟩
    · have hlt : nI N - 5 < nI i := by rw [lawgt hN hi]; exact c
      refine Rn_go CL_H 60 ?_
      simp only [kL_H_18, kL_H_1689, kL_H_1695, kL_H_236, kL_H_299, kL_H_312, kL_H_345, kL_H_368, kL_H_411, kL_H_444, kL_H_477, kL_H_510, kL_H_543, kL_H_576, kL_H_609, kL_H_632, kL_H_665, kL_H_698, kL_H_721, kL_H_744, kL_H_757, kL_H_780, kL_H_803, kL_H_836, kL_H_859, kL_H_872, kL_H_905, kL_H_928, kL_H_961, kL_H_994, kL_H_1017, kL_H_1040, kL_H_1063, kL_H_1106, kL_H_1150, kL_H_1184, kL_H_1217, kL_H_1250, kL_H_1293, kL_H_1316, kL_H_1369, kL_H_1412, kL_H_1455, kL_H_1498, kL_H_1541, kL_H_1574, kL_H_1617, kL_H_1640, kL_H_1663, kL_H_1676, tL_18, xL_19, xL_20, xL_21, xL_22, xL_23, xL_26, xL_27, xL_28, xL_29, xL_31, xL_32, i_ald, i_iand, i_ic, i_ic_gt, i_ild, i_isub, i_sld, i_slen, i_sw, lck_0, lck_i, lck_r, lck_n, lck_l, csum_0, csum_i, csum_r, csum_l, pops_0, pops_s, psh_n, psh_s, List.getElem?_cons_zero, List.getElem?_cons_succ, List.set_cons_zero, List.set_cons_succ, true_and, and_true, Nat.reduceAdd, Nat.reduceLeDiff, hlt, not_true_eq_false, false_implies, true_implies]
      exact lawE
