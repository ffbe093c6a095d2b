theorem ct0_begin {l : Launch} : Ct l yX0_begin cX0_begin 4 none 0 S0_begin := by
  refine Ct_of (T := fun Q => T0_begin Q) (by decide) (cl0_begin) ?_
  intro av h Q hS
  unfold S0_begin at hS
  split at hS
  · exact ⟨Nat.le_of_ble_eq_true rfl, rn0_begin hS⟩
  · exact hS.elim
theorem ct0_mark {l : Launch} : Ct l yX0_mark cX0_mark 2 none 0 S0_mark := by
  refine Ct_of (T := fun Q => T0_mark Q) (by decide) (cl0_mark) ?_
  intro av h Q hS
  unfold S0_mark at hS
  split at hS
  · exact ⟨Nat.le_of_ble_eq_true rfl, rn0_mark hS⟩
  · exact hS.elim
theorem ct0_own {l : Launch} : Ct l yX0_own cX0_own 3 (some .int) 0 S0_own := by
  refine Ct_of (T := fun Q => T0_own Q) (by decide) (cl0_own) ?_
  intro av h Q hS
  unfold S0_own at hS
  split at hS
  · exact ⟨Nat.le_of_ble_eq_true rfl, rn0_own hS⟩
  · exact hS.elim
theorem ct0_parted {l : Launch} : Ct l yX0_parted cX0_parted 3 (some .int) 0 S0_parted := by
  refine Ct_of (T := fun Q => T0_parted Q) (by decide) (cl0_parted) ?_
  intro av h Q hS
  unfold S0_parted at hS
  split at hS
  · exact ⟨Nat.le_of_ble_eq_true rfl, rn0_parted hS⟩
  · exact hS.elim
theorem ct1_becomeFirst {l : Launch} : Ct l yX1_becomeFirst cX1_becomeFirst 2 none 1 S1_becomeFirst := by
  refine Ct_of (T := fun Q => T1_becomeFirst Q) (by decide) (cl1_becomeFirst) ?_
  intro av h Q hS
  unfold S1_becomeFirst at hS
  split at hS
  · exact ⟨Nat.le_of_ble_eq_true rfl, rn1_becomeFirst hS⟩
  · exact hS.elim
theorem ct1_copy {l : Launch} : Ct l yX1_copy cX1_copy 2 none 1 S1_copy := by
  refine Ct_of (T := fun Q => T1_copy Q) (by decide) (cl1_copy) ?_
  intro av h Q hS
  unfold S1_copy at hS
  split at hS
  · exact ⟨Nat.le_of_ble_eq_true rfl, rn1_copy hS⟩
  · exact hS.elim
theorem ct1_add {l : Launch} : Ct l yX1_add cX1_add 4 none 0 S1_add := by
  refine Ct_of (T := fun Q => T1_add Q) (by decide) (cl1_add) ?_
  intro av h Q hS
  unfold S1_add at hS
  split at hS
  · exact ⟨Nat.le_of_ble_eq_true rfl, rn1_add hS⟩
  · exact hS.elim
theorem ct1_has {l : Launch} : Ct l yX1_has cX1_has 2 (some .boolean) 0 S1_has := by
  refine Ct_of (T := fun Q => T1_has Q) (by decide) (cl1_has) ?_
  intro av h Q hS
  unfold S1_has at hS
  split at hS
  · exact ⟨Nat.le_of_ble_eq_true rfl, rn1_has hS⟩
  · exact hS.elim
theorem ct1_isOut {l : Launch} : Ct l yX1_isOut cX1_isOut 2 (some .boolean) 0 S1_isOut := by
  refine Ct_of (T := fun Q => T1_isOut Q) (by decide) (cl1_isOut) ?_
  intro av h Q hS
  unfold S1_isOut at hS
  split at hS
  · exact ⟨Nat.le_of_ble_eq_true rfl, rn1_isOut hS⟩
  · exact hS.elim
theorem ct1_isHeld {l : Launch} : Ct l yX1_isHeld cX1_isHeld 2 (some .boolean) 1 S1_isHeld := by
  refine Ct_of (T := fun Q => T1_isHeld Q S1_isOut S1_has) (by decide) (cl1_isHeld ct1_isOut ct1_has) ?_
  intro av h Q hS
  unfold S1_isHeld at hS
  split at hS
  · exact ⟨Nat.le_of_ble_eq_true rfl, rn1_isHeld hS⟩
  · exact hS.elim
theorem ct1_riteAt {l : Launch} : Ct l yX1_riteAt cX1_riteAt 3 (some .int) 0 S1_riteAt := by
  refine Ct_of (T := fun Q => T1_riteAt Q) (by decide) (cl1_riteAt) ?_
  intro av h Q hS
  unfold S1_riteAt at hS
  split at hS
  · exact ⟨Nat.le_of_ble_eq_true rfl, rn1_riteAt hS⟩
  · exact hS.elim
theorem ct1_thoseIn {l : Launch} : Ct l yX1_thoseIn cX1_thoseIn 4 (some .int) 0 S1_thoseIn := by
  refine Ct_of (T := fun Q => T1_thoseIn Q) (by decide) (cl1_thoseIn) ?_
  intro av h Q hS
  unfold S1_thoseIn at hS
  split at hS
  · exact ⟨Nat.le_of_ble_eq_true rfl, rn1_thoseIn hS⟩
  · exact hS.elim
theorem ctJ6_bitCount {l : Launch} : Ct l yJ6_bitCount_0f7a4 cJ6_bitCount_0f7a4 1 (some .int) 0 SJ6_bitCount := by
  refine Ct_of (T := fun Q => TJ6_bitCount Q) (by decide) (clJ6_bitCount) ?_
  intro av h Q hS
  unfold SJ6_bitCount at hS
  split at hS
  · exact ⟨Nat.le_of_ble_eq_true rfl, rnJ6_bitCount hS⟩
  · exact hS.elim
theorem ct1_needs {l : Launch} : Ct l yX1_needs cX1_needs 3 (some .int) 1 S1_needs := by
  refine Ct_of (T := fun Q => T1_needs Q S1_riteAt S1_thoseIn SJ6_bitCount) (by decide) (cl1_needs ct1_riteAt ct1_thoseIn ctJ6_bitCount) ?_
  intro av h Q hS
  unfold S1_needs at hS
  split at hS
  · exact ⟨Nat.le_of_ble_eq_true rfl, rn1_needs hS⟩
  · exact hS.elim
theorem ct1_pays {l : Launch} : Ct l yX1_pays cX1_pays 3 (some .int) 0 S1_pays := by
  refine Ct_of (T := fun Q => T1_pays Q) (by decide) (cl1_pays) ?_
  intro av h Q hS
  unfold S1_pays at hS
  split at hS
  · exact ⟨Nat.le_of_ble_eq_true rfl, rn1_pays hS⟩
  · exact hS.elim
theorem ct1_gains {l : Launch} : Ct l yX1_gains cX1_gains 3 (some .int) 0 S1_gains := by
  refine Ct_of (T := fun Q => T1_gains Q) (by decide) (cl1_gains) ?_
  intro av h Q hS
  unfold S1_gains at hS
  split at hS
  · exact ⟨Nat.le_of_ble_eq_true rfl, rn1_gains hS⟩
  · exact hS.elim
theorem ct5_heldGrace {l : Launch} : Ct l yX5_heldGrace cX5_heldGrace 1 (some .int) 1 S5_heldGrace := by
  refine Ct_of (T := fun Q => T5_heldGrace Q SJ9_min SJ9_max) (by decide) (clm_heldGrace) ?_
  intro av h Q hS
  unfold S5_heldGrace at hS
  split at hS
  · exact ⟨Nat.le_of_ble_eq_true rfl, rn5_heldGrace hS⟩
  · exact hS.elim
theorem ct1_takeTurn {l : Launch} : Ct l yX1_takeTurn cX1_takeTurn 2 none 2 S1_takeTurn := by
  refine Ct_of (T := fun Q => T1_takeTurn Q S1_isHeld S1_needs S1_pays S5_heldGrace S1_gains) (by decide) (cl1_takeTurn ct1_isHeld ct1_needs ct1_pays ct5_heldGrace ct1_gains) ?_
  intro av h Q hS
  unfold S1_takeTurn at hS
  split at hS
  · exact ⟨Nat.le_of_ble_eq_true rfl, rn1_takeTurn hS⟩
  · exact hS.elim
theorem ct1_passOccasions {l : Launch} : Ct l yX1_passOccasions cX1_passOccasions 4 none 3 S1_passOccasions := by
  refine Ct_of (T := fun Q => T1_passOccasions Q S1_isOut S1_takeTurn) (by decide) (cl1_passOccasions ct1_isOut ct1_takeTurn) ?_
  intro av h Q hS
  unfold S1_passOccasions at hS
  split at hS
  · exact ⟨Nat.le_of_ble_eq_true rfl, rn1_passOccasions hS⟩
  · exact hS.elim
theorem ct1_draw {l : Launch} : Ct l yX1_draw cX1_draw 1 (some .int) 0 S1_draw := by
  refine Ct_of (T := fun Q => T1_draw Q) (by decide) (cl1_draw) ?_
  intro av h Q hS
  unfold S1_draw at hS
  split at hS
  · exact ⟨Nat.le_of_ble_eq_true rfl, rn1_draw hS⟩
  · exact hS.elim
theorem ct1_passByDraws {l : Launch} : Ct l yX1_passByDraws cX1_passByDraws 3 none 4 S1_passByDraws := by
  refine Ct_of (T := fun Q => T1_passByDraws Q S1_draw S1_isOut S1_passOccasions) (by decide) (cl1_passByDraws ct1_draw ct1_isOut ct1_passOccasions) ?_
  intro av h Q hS
  unfold S1_passByDraws at hS
  split at hS
  · exact ⟨Nat.le_of_ble_eq_true rfl, rn1_passByDraws hS⟩
  · exact hS.elim
theorem ct1_timeTo {l : Launch} : Ct l yX1_timeTo cX1_timeTo 5 (some .int) 4 S1_timeTo := by
  refine Ct_of (T := fun Q => T1_timeTo Q S1_passOccasions) (by decide) (cl1_timeTo ct1_passOccasions) ?_
  intro av h Q hS
  unfold S1_timeTo at hS
  split at hS
  · exact ⟨Nat.le_of_ble_eq_true rfl, rn1_timeTo hS⟩
  · exact hS.elim
theorem ct1_rowPart {l : Launch} : Ct l yX1_rowPart cX1_rowPart 3 (some .int) 1 S1_rowPart := by
  refine Ct_of (T := fun Q => T1_rowPart Q S1_thoseIn) (by decide) (cl1_rowPart ct1_thoseIn) ?_
  intro av h Q hS
  unfold S1_rowPart at hS
  split at hS
  · exact ⟨Nat.le_of_ble_eq_true rfl, rn1_rowPart hS⟩
  · exact hS.elim
theorem ct1_countOut {l : Launch} : Ct l yX1_countOut cX1_countOut 1 (some .int) 1 S1_countOut := by
  refine Ct_of (T := fun Q => T1_countOut Q S1_thoseIn SJ6_bitCount) (by decide) (cl1_countOut ct1_thoseIn ctJ6_bitCount) ?_
  intro av h Q hS
  unfold S1_countOut at hS
  split at hS
  · exact ⟨Nat.le_of_ble_eq_true rfl, rn1_countOut hS⟩
  · exact hS.elim
theorem ct1_thoseHeld {l : Launch} : Ct l yX1_thoseHeld cX1_thoseHeld 3 (some .int) 2 S1_thoseHeld := by
  refine Ct_of (T := fun Q => T1_thoseHeld Q S1_isHeld) (by decide) (cl1_thoseHeld ct1_isHeld) ?_
  intro av h Q hS
  unfold S1_thoseHeld at hS
  split at hS
  · exact ⟨Nat.le_of_ble_eq_true rfl, rn1_thoseHeld hS⟩
  · exact hS.elim
theorem ct1_thoseWaiting {l : Launch} : Ct l yX1_thoseWaiting cX1_thoseWaiting 3 (some .int) 0 S1_thoseWaiting := by
  refine Ct_of (T := fun Q => T1_thoseWaiting Q) (by decide) (cl1_thoseWaiting) ?_
  intro av h Q hS
  unfold S1_thoseWaiting at hS
  split at hS
  · exact ⟨Nat.le_of_ble_eq_true rfl, rn1_thoseWaiting hS⟩
  · exact hS.elim
theorem ct1_ringFrom {l : Launch} : Ct l yX1_ringFrom cX1_ringFrom 5 (some .int) 1 S1_ringFrom := by
  refine Ct_of (T := fun Q => T1_ringFrom Q S1_has) (by decide) (cl1_ringFrom ct1_has) ?_
  intro av h Q hS
  unfold S1_ringFrom at hS
  split at hS
  · exact ⟨Nat.le_of_ble_eq_true rfl, rn1_ringFrom hS⟩
  · exact hS.elim
theorem ct1_allGrace {l : Launch} : Ct l yX1_allGrace cX1_allGrace 3 (some .int) 0 S1_allGrace := by
  refine Ct_of (T := fun Q => T1_allGrace Q) (by decide) (cl1_allGrace) ?_
  intro av h Q hS
  unfold S1_allGrace at hS
  split at hS
  · exact ⟨Nat.le_of_ble_eq_true rfl, rn1_allGrace hS⟩
  · exact hS.elim
theorem ct1_allRites {l : Launch} : Ct l yX1_allRites cX1_allRites 3 (some .int) 0 S1_allRites := by
  refine Ct_of (T := fun Q => T1_allRites Q) (by decide) (cl1_allRites) ?_
  intro av h Q hS
  unfold S1_allRites at hS
  split at hS
  · exact ⟨Nat.le_of_ble_eq_true rfl, rn1_allRites hS⟩
  · exact hS.elim
theorem ct1_crowd {l : Launch} : Ct l yX1_crowd cX1_crowd 5 (some .int) 1 S1_crowd := by
  refine Ct_of (T := fun Q => T1_crowd Q S1_thoseIn SJ6_bitCount) (by decide) (cl1_crowd ct1_thoseIn ctJ6_bitCount) ?_
  intro av h Q hS
  unfold S1_crowd at hS
  split at hS
  · exact ⟨Nat.le_of_ble_eq_true rfl, rn1_crowd hS⟩
  · exact hS.elim
theorem ct2_become {l : Launch} : Ct l yX2_become cX2_become 4 none 0 S2_become := by
  refine Ct_of (T := fun Q => T2_become Q) (by decide) (cl2_become) ?_
  intro av h Q hS
  unfold S2_become at hS
  split at hS
  · exact ⟨Nat.le_of_ble_eq_true rfl, rn2_become hS⟩
  · exact hS.elim
theorem ct2_narrowed {l : Launch} : Ct l yX2_narrowed cX2_narrowed 2 (some .int) 0 S2_narrowed := by
  refine Ct_of (T := fun Q => T2_narrowed Q) (by decide) (cl2_narrowed) ?_
  intro av h Q hS
  unfold S2_narrowed at hS
  split at hS
  · exact ⟨Nat.le_of_ble_eq_true rfl, rn2_narrowed hS⟩
  · exact hS.elim
theorem ct3_holdInmate {l : Launch} : Ct l yX3_holdInmate cX3_holdInmate 2 none 0 S3_holdInmate := by
  refine Ct_of (T := fun Q => T3_holdInmate Q) (by decide) (cl3_holdInmate) ?_
  intro av h Q hS
  unfold S3_holdInmate at hS
  split at hS
  · exact ⟨Nat.le_of_ble_eq_true rfl, rn3_holdInmate hS⟩
  · exact hS.elim
theorem ct3_holdRow {l : Launch} : Ct l yX3_holdRow cX3_holdRow 2 none 0 S3_holdRow := by
  refine Ct_of (T := fun Q => T3_holdRow Q) (by decide) (cl3_holdRow) ?_
  intro av h Q hS
  unfold S3_holdRow at hS
  split at hS
  · exact ⟨Nat.le_of_ble_eq_true rfl, rn3_holdRow hS⟩
  · exact hS.elim
theorem ct4_add {l : Launch} : Ct l yX4_add cX4_add 2 none 0 S4_add := by
  refine Ct_of (T := fun Q => T4_add Q) (by decide) (cl4_add) ?_
  intro av h Q hS
  unfold S4_add at hS
  split at hS
  · exact ⟨Nat.le_of_ble_eq_true rfl, rn4_add hS⟩
  · exact hS.elim
theorem ct4_isLetter {l : Launch} : Ct l yX4_isLetter cX4_isLetter 2 (some .boolean) 0 S4_isLetter := by
  refine Ct_of (T := fun Q => T4_isLetter Q) (by decide) (cl4_isLetter) ?_
  intro av h Q hS
  unfold S4_isLetter at hS
  split at hS
  · exact ⟨Nat.le_of_ble_eq_true rfl, rn4_isLetter hS⟩
  · exact hS.elim
theorem ct4_isDigit {l : Launch} : Ct l yX4_isDigit cX4_isDigit 2 (some .boolean) 0 S4_isDigit := by
  refine Ct_of (T := fun Q => T4_isDigit Q) (by decide) (cl4_isDigit) ?_
  intro av h Q hS
  unfold S4_isDigit at hS
  split at hS
  · exact ⟨Nat.le_of_ble_eq_true rfl, rn4_isDigit hS⟩
  · exact hS.elim
theorem ct4_step {l : Launch} : Ct l yX4_step cX4_step 1 none 1 S4_step := by
  refine Ct_of (T := fun Q => T4_step Q S4_isLetter S4_isDigit) (by decide) (cl4_step ct4_isLetter ct4_isDigit) ?_
  intro av h Q hS
  unfold S4_step at hS
  split at hS
  · exact ⟨Nat.le_of_ble_eq_true rfl, rn4_step hS⟩
  · exact hS.elim
theorem ctJ0_coder {l : Launch} : Ct l yJ0_coder_7d493 cJ0_coder_7d493 1 (some .byte) 0 SJ0_coder := by
  refine Ct_of (T := fun Q => TJ0_coder Q) (by decide) (clJ0_coder) ?_
  intro av h Q hS
  unfold SJ0_coder at hS
  split at hS
  · exact ⟨Nat.le_of_ble_eq_true rfl, rnJ0_coder hS⟩
  · exact hS.elim
theorem ctJ0_length {l : Launch} : Ct l yJ0_length_8abf5 cJ0_length_8abf5 1 (some .int) 1 SJ0_length := by
  refine Ct_of (T := fun Q => TJ0_length Q SJ0_coder) (by decide) (clJ0_length ctJ0_coder) ?_
  intro av h Q hS
  unfold SJ0_length at hS
  split at hS
  · exact ⟨Nat.le_of_ble_eq_true rfl, rnJ0_length hS⟩
  · exact hS.elim
theorem ctJ0_isLatin1 {l : Launch} : Ct l yJ0_isLatin1_aae02 cJ0_isLatin1_aae02 1 (some .boolean) 0 SJ0_isLatin1 := by
  refine Ct_of (T := fun Q => TJ0_isLatin1 Q) (by decide) (clJ0_isLatin1) ?_
  intro av h Q hS
  unfold SJ0_isLatin1 at hS
  split at hS
  · exact ⟨Nat.le_of_ble_eq_true rfl, rnJ0_isLatin1 hS⟩
  · exact hS.elim
theorem ctJ3_checkIndex {l : Launch} : Ct l yJ3_checkIndex_8e157 cJ3_checkIndex_8e157 3 (some .int) 0 SJ3_checkIndex := by
  refine Ct_of (T := fun Q => TJ3_checkIndex Q) (by decide) (clJ3_checkIndex) ?_
  intro av h Q hS
  unfold SJ3_checkIndex at hS
  split at hS
  · rename_i i n v
    have hS2 := hS
    obtain ⟨hv, -⟩ := hS
    rcases hv with e | e
    · subst e
      exact ⟨Nat.le_of_ble_eq_true rfl, rnJ3_checkIndex hS2⟩
    · subst e
      exact ⟨Nat.le_of_ble_eq_true rfl, rnJ3_checkIndex hS2⟩
  · exact hS.elim
theorem ctJ0_checkIndex {l : Launch} : Ct l yJ0_checkIndex_df160 cJ0_checkIndex_df160 2 none 1 SJ0_checkIndex := by
  refine Ct_of (T := fun Q => TJ0_checkIndex Q SJ3_checkIndex) (by decide) (clJ0_checkIndex ctJ3_checkIndex) ?_
  intro av h Q hS
  unfold SJ0_checkIndex at hS
  split at hS
  · exact ⟨Nat.le_of_ble_eq_true rfl, rnJ0_checkIndex hS⟩
  · exact hS.elim
theorem ctJ1_charAt {l : Launch} : Ct l yJ1_charAt_3b067 cJ1_charAt_3b067 2 (some .char) 2 SJ1_charAt := by
  refine Ct_of (T := fun Q => TJ1_charAt Q SJ0_checkIndex) (by decide) (clJ1_charAt ctJ0_checkIndex) ?_
  intro av h Q hS
  unfold SJ1_charAt at hS
  split at hS
  · exact ⟨Nat.le_of_ble_eq_true rfl, rnJ1_charAt hS⟩
  · exact hS.elim
theorem ctJ0_charAt {l : Launch} : Ct l yJ0_charAt_5068e cJ0_charAt_5068e 2 (some .char) 3 SJ0_charAt := by
  refine Ct_of (T := fun Q => TJ0_charAt Q SJ0_isLatin1 SJ1_charAt) (by decide) (clJ0_charAt ctJ0_isLatin1 ctJ1_charAt) ?_
  intro av h Q hS
  unfold SJ0_charAt at hS
  split at hS
  · exact ⟨Nat.le_of_ble_eq_true rfl, rnJ0_charAt hS⟩
  · exact hS.elim
theorem ct4_isName {l : Launch} : Ct l yX4_isName cX4_isName 3 (some .boolean) 4 S4_isName := by
  refine Ct_of (T := fun Q => T4_isName Q SJ0_length SJ0_charAt) (by decide) (cl4_isName ctJ0_length ctJ0_charAt) ?_
  intro av h Q hS
  unfold S4_isName at hS
  split at hS
  · exact ⟨Nat.le_of_ble_eq_true rfl, rn4_isName hS⟩
  · exact hS.elim
theorem ct4_kindNamed {l : Launch} : Ct l yX4_kindNamed cX4_kindNamed 1 (some .int) 5 S4_kindNamed := by
  refine Ct_of (T := fun Q => T4_kindNamed Q S4_isName) (by decide) (cl4_kindNamed ct4_isName) ?_
  intro av h Q hS
  unfold S4_kindNamed at hS
  split at hS
  · exact ⟨Nat.le_of_ble_eq_true rfl, rn4_kindNamed hS⟩
  · exact hS.elim
theorem ct4_lawNamed {l : Launch} : Ct l yX4_lawNamed cX4_lawNamed 1 (some .int) 5 S4_lawNamed := by
  refine Ct_of (T := fun Q => T4_lawNamed Q S4_isName) (by decide) (cl4_lawNamed ct4_isName) ?_
  intro av h Q hS
  unfold S4_lawNamed at hS
  split at hS
  · exact ⟨Nat.le_of_ble_eq_true rfl, rn4_lawNamed hS⟩
  · exact hS.elim
theorem ct4_fail {l : Launch} : Ct l yX4_fail cX4_fail 1 none 0 S4_fail := by
  refine Ct_of (T := fun Q => T4_fail Q) (by decide) (cl4_fail) ?_
  intro av h Q hS
  unfold S4_fail at hS
  split at hS
  · exact ⟨Nat.le_of_ble_eq_true rfl, rn4_fail hS⟩
  · exact hS.elim
theorem ct4_takeName {l : Launch} : Ct l yX4_takeName cX4_takeName 2 none 5 S4_takeName := by
  refine Ct_of (T := fun Q => T4_takeName Q S4_isName S4_step S4_fail) (by decide) (cl4_takeName ct4_isName ct4_step ct4_fail) ?_
  intro av h Q hS
  unfold S4_takeName at hS
  split at hS
  · exact ⟨Nat.le_of_ble_eq_true rfl, rn4_takeName hS⟩
  · exact hS.elim
theorem ct4_takeNumber {l : Launch} : Ct l yX4_takeNumber cX4_takeNumber 3 (some .int) 2 S4_takeNumber := by
  refine Ct_of (T := fun Q => T4_takeNumber Q S4_fail S4_step) (by decide) (cl4_takeNumber ct4_fail ct4_step) ?_
  intro av h Q hS
  unfold S4_takeNumber at hS
  split at hS
  · exact ⟨Nat.le_of_ble_eq_true rfl, rn4_takeNumber hS⟩
  · exact hS.elim
theorem ct4_takeEnd {l : Launch} : Ct l yX4_takeEnd cX4_takeEnd 1 none 2 S4_takeEnd := by
  refine Ct_of (T := fun Q => T4_takeEnd Q S4_step S4_fail) (by decide) (cl4_takeEnd ct4_step ct4_fail) ?_
  intro av h Q hS
  unfold S4_takeEnd at hS
  split at hS
  · exact ⟨Nat.le_of_ble_eq_true rfl, rn4_takeEnd hS⟩
  · exact hS.elim
theorem ct4_tellInmate {l : Launch} : Ct l yX4_tellInmate cX4_tellInmate 5 none 6 S4_tellInmate := by
  refine Ct_of (T := fun Q => T4_tellInmate Q S4_fail S4_step S4_takeName S4_takeNumber S4_isName S4_takeEnd S1_add) (by decide) (cl4_tellInmate ct4_fail ct4_step ct4_takeName ct4_takeNumber ct4_isName ct4_takeEnd ct1_add) ?_
  intro av h Q hS
  unfold S4_tellInmate at hS
  split at hS
  · exact ⟨Nat.le_of_ble_eq_true rfl, rn4_tellInmate hS⟩
  · exact hS.elim
theorem ct4_tellLaw {l : Launch} : Ct l yX4_tellLaw cX4_tellLaw 4 none 3 S4_tellLaw := by
  refine Ct_of (T := fun Q => T4_tellLaw Q S4_step S4_takeNumber S4_takeEnd) (by decide) (cl4_tellLaw ct4_step ct4_takeNumber ct4_takeEnd) ?_
  intro av h Q hS
  unfold S4_tellLaw at hS
  split at hS
  · exact ⟨Nat.le_of_ble_eq_true rfl, rn4_tellLaw hS⟩
  · exact hS.elim
theorem ct4_tellRite {l : Launch} : Ct l yX4_tellRite cX4_tellRite 4 none 6 S4_tellRite := by
  refine Ct_of (T := fun Q => T4_tellRite Q S4_step S4_takeNumber S4_takeName S4_takeEnd) (by decide) (cl4_tellRite ct4_step ct4_takeNumber ct4_takeName ct4_takeEnd) ?_
  intro av h Q hS
  unfold S4_tellRite at hS
  split at hS
  · exact ⟨Nat.le_of_ble_eq_true rfl, rn4_tellRite hS⟩
  · exact hS.elim
theorem ct4_tellWait {l : Launch} : Ct l yX4_tellWait cX4_tellWait 4 none 6 S4_tellWait := by
  refine Ct_of (T := fun Q => T4_tellWait Q S4_step S4_takeNumber S4_takeName S4_fail S4_takeEnd) (by decide) (cl4_tellWait ct4_step ct4_takeNumber ct4_takeName ct4_fail ct4_takeEnd) ?_
  intro av h Q hS
  unfold S4_tellWait at hS
  split at hS
  · exact ⟨Nat.le_of_ble_eq_true rfl, rn4_tellWait hS⟩
  · exact hS.elim
theorem ct4_tellOne {l : Launch} : Ct l yX4_tellOne cX4_tellOne 4 none 7 S4_tellOne := by
  refine Ct_of (T := fun Q => T4_tellOne Q S4_kindNamed S4_lawNamed S4_tellInmate S4_tellLaw S4_isName S4_tellRite S4_tellWait S4_fail) (by decide) (cl4_tellOne ct4_kindNamed ct4_lawNamed ct4_tellInmate ct4_tellLaw ct4_isName ct4_tellRite ct4_tellWait ct4_fail) ?_
  intro av h Q hS
  unfold S4_tellOne at hS
  split at hS
  · exact ⟨Nat.le_of_ble_eq_true rfl, rn4_tellOne hS⟩
  · exact hS.elim
theorem ct4_read {l : Launch} : Ct l yX4_read cX4_read 3 (some .int) 8 S4_read := by
  refine Ct_of (T := fun Q => T4_read Q S4_step S4_tellOne) (by decide) (cl4_read ct4_step ct4_tellOne) ?_
  intro av h Q hS
  unfold S4_read at hS
  split at hS
  · exact ⟨Nat.le_of_ble_eq_true rfl, rn4_read hS⟩
  · exact hS.elim
theorem ct5_feed {l : Launch} : Ct l yX5_feed cX5_feed 5 (some .int) 1 S5_feed := by
  refine Ct_of (T := fun Q => T5_feed Q S4_add) (by decide) (cl5_feed ct4_add) ?_
  intro av h Q hS
  unfold S5_feed at hS
  split at hS
  · exact ⟨Nat.le_of_ble_eq_true rfl, rn5_feed hS⟩
  · exact hS.elim
theorem ct5_gaol {l : Launch} : Ct l yX5_gaol cX5_gaol 2 (some .int) 9 S5_gaol := by
  refine Ct_of (T := fun Q => T5_gaol Q S1_becomeFirst S4_read S1_copy) (by decide) (cl5_gaol ct1_becomeFirst ct4_read ct1_copy) ?_
  intro av h Q hS
  unfold S5_gaol at hS
  split at hS
  · exact ⟨Nat.le_of_ble_eq_true rfl, rn5_gaol hS⟩
  · exact hS.elim
theorem ct5_isLaw {l : Launch} : Ct l yX5_isLaw cX5_isLaw 1 (some .boolean) 0 S5_isLaw := by
  refine Ct_of (T := fun Q => T5_isLaw Q) (by decide) (cl5_isLaw) ?_
  intro av h Q hS
  unfold S5_isLaw at hS
  split at hS
  · exact ⟨Nat.le_of_ble_eq_true rfl, rn5_isLaw hS⟩
  · exact hS.elim
theorem ct5_isWithin {l : Launch} : Ct l yX5_isWithin cX5_isWithin 2 (some .boolean) 0 S5_isWithin := by
  refine Ct_of (T := fun Q => T5_isWithin Q) (by decide) (cl5_isWithin) ?_
  intro av h Q hS
  unfold S5_isWithin at hS
  split at hS
  · exact ⟨Nat.le_of_ble_eq_true rfl, rn5_isWithin hS⟩
  · exact hS.elim
theorem ct5_set {l : Launch} : Ct l yX5_set cX5_set 4 (some .int) 1 S5_set := by
  refine Ct_of (T := fun Q => T5_set Q S5_isLaw S5_isWithin) (by decide) (cl5_set ct5_isLaw ct5_isWithin) ?_
  intro av h Q hS
  unfold S5_set at hS
  split at hS
  · exact ⟨Nat.le_of_ble_eq_true rfl, rn5_set hS⟩
  · exact hS.elim
theorem ct5_lawOf {l : Launch} : Ct l yX5_lawOf cX5_lawOf 2 (some .int) 1 S5_lawOf := by
  refine Ct_of (T := fun Q => T5_lawOf Q S5_isLaw) (by decide) (cl5_lawOf ct5_isLaw) ?_
  intro av h Q hS
  unfold S5_lawOf at hS
  split at hS
  · exact ⟨Nat.le_of_ble_eq_true rfl, rn5_lawOf hS⟩
  · exact hS.elim
theorem ct5_isKind {l : Launch} : Ct l yX5_isKind cX5_isKind 1 (some .boolean) 0 S5_isKind := by
  refine Ct_of (T := fun Q => T5_isKind Q) (by decide) (cl5_isKind) ?_
  intro av h Q hS
  unfold S5_isKind at hS
  split at hS
  · exact ⟨Nat.le_of_ble_eq_true rfl, rn5_isKind hS⟩
  · exact hS.elim
theorem ct5_isRoom {l : Launch} : Ct l yX5_isRoom cX5_isRoom 1 (some .boolean) 0 S5_isRoom := by
  refine Ct_of (T := fun Q => T5_isRoom Q) (by decide) (cl5_isRoom) ?_
  intro av h Q hS
  unfold S5_isRoom at hS
  split at hS
  · exact ⟨Nat.le_of_ble_eq_true rfl, rn5_isRoom hS⟩
  · exact hS.elim
theorem ct5_inmate {l : Launch} : Ct l yX5_inmate cX5_inmate 4 (some .int) 1 S5_inmate := by
  refine Ct_of (T := fun Q => T5_inmate Q S5_isKind S5_isWithin S5_isRoom S1_add) (by decide) (cl5_inmate ct5_isKind ct5_isWithin ct5_isRoom ct1_add) ?_
  intro av h Q hS
  unfold S5_inmate at hS
  split at hS
  · exact ⟨Nat.le_of_ble_eq_true rfl, rn5_inmate hS⟩
  · exact hS.elim
theorem ct5_of {l : Launch} : Ct l yX5_of cX5_of 3 (some .int) 2 S5_of := by
  refine Ct_of (T := fun Q => T5_of Q S1_has S1_isHeld) (by decide) (cl5_of ct1_has ct1_isHeld) ?_
  intro av h Q hS
  unfold S5_of at hS
  split at hS
  · exact ⟨Nat.le_of_ble_eq_true rfl, rn5_of hS⟩
  · exact hS.elim
theorem ct5_does {l : Launch} : Ct l yX5_does cX5_does 3 (some .int) 2 S5_does := by
  refine Ct_of (T := fun Q => T5_does Q S1_has S1_isOut S1_needs S1_pays S1_gains) (by decide) (cl5_does ct1_has ct1_isOut ct1_needs ct1_pays ct1_gains) ?_
  intro av h Q hS
  unfold S5_does at hS
  split at hS
  · exact ⟨Nat.le_of_ble_eq_true rfl, rn5_does hS⟩
  · exact hS.elim
theorem ct5_mind {l : Launch} : Ct l yX5_mind cX5_mind 4 (some .int) 1 S5_mind := by
  refine Ct_of (T := fun Q => T5_mind Q S1_has S5_isKind) (by decide) (cl5_mind ct1_has ct5_isKind) ?_
  intro av h Q hS
  unfold S5_mind at hS
  split at hS
  · exact ⟨Nat.le_of_ble_eq_true rfl, rn5_mind hS⟩
  · exact hS.elim
theorem ct5_grace {l : Launch} : Ct l yX5_grace cX5_grace 4 (some .int) 1 S5_grace := by
  refine Ct_of (T := fun Q => T5_grace Q S1_has S5_isWithin) (by decide) (cl5_grace ct1_has ct5_isWithin) ?_
  intro av h Q hS
  unfold S5_grace at hS
  split at hS
  · exact ⟨Nat.le_of_ble_eq_true rfl, rn5_grace hS⟩
  · exact hS.elim
theorem ct5_isRoomOrOut {l : Launch} : Ct l yX5_isRoomOrOut cX5_isRoomOrOut 1 (some .boolean) 0 S5_isRoomOrOut := by
  refine Ct_of (T := fun Q => T5_isRoomOrOut Q) (by decide) (cl5_isRoomOrOut) ?_
  intro av h Q hS
  unfold S5_isRoomOrOut at hS
  split at hS
  · exact ⟨Nat.le_of_ble_eq_true rfl, rn5_isRoomOrOut hS⟩
  · exact hS.elim
theorem ct5_bring {l : Launch} : Ct l yX5_bring cX5_bring 4 (some .int) 1 S5_bring := by
  refine Ct_of (T := fun Q => T5_bring Q S1_has S5_isRoomOrOut) (by decide) (cl5_bring ct1_has ct5_isRoomOrOut) ?_
  intro av h Q hS
  unfold S5_bring at hS
  split at hS
  · exact ⟨Nat.le_of_ble_eq_true rfl, rn5_bring hS⟩
  · exact hS.elim
theorem ct5_await {l : Launch} : Ct l yX5_await cX5_await 4 (some .int) 1 S5_await := by
  refine Ct_of (T := fun Q => T5_await Q S1_has) (by decide) (cl5_await ct1_has) ?_
  intro av h Q hS
  unfold S5_await at hS
  split at hS
  · exact ⟨Nat.le_of_ble_eq_true rfl, rn5_await hS⟩
  · exact hS.elim
theorem ct5_excuse {l : Launch} : Ct l yX5_excuse cX5_excuse 3 (some .int) 1 S5_excuse := by
  refine Ct_of (T := fun Q => T5_excuse Q S1_has) (by decide) (cl5_excuse ct1_has) ?_
  intro av h Q hS
  unfold S5_excuse at hS
  split at hS
  · exact ⟨Nat.le_of_ble_eq_true rfl, rn5_excuse hS⟩
  · exact hS.elim
theorem ct5_rite {l : Launch} : Ct l yX5_rite cX5_rite 4 (some .int) 1 S5_rite := by
  refine Ct_of (T := fun Q => T5_rite Q S5_isRoom S5_isWithin) (by decide) (cl5_rite ct5_isRoom ct5_isWithin) ?_
  intro av h Q hS
  unfold S5_rite at hS
  split at hS
  · exact ⟨Nat.le_of_ble_eq_true rfl, rn5_rite hS⟩
  · exact hS.elim
theorem ct5_room {l : Launch} : Ct l yX5_room cX5_room 3 (some .int) 1 S5_room := by
  refine Ct_of (T := fun Q => T5_room Q S5_isRoom S1_thoseIn) (by decide) (cl5_room ct5_isRoom ct1_thoseIn) ?_
  intro av h Q hS
  unfold S5_room at hS
  split at hS
  · exact ⟨Nat.le_of_ble_eq_true rfl, rn5_room hS⟩
  · exact hS.elim
theorem ct5_occasions {l : Launch} : Ct l yX5_occasions cX5_occasions 2 (some .int) 4 S5_occasions := by
  refine Ct_of (T := fun Q => T5_occasions Q S1_passOccasions S1_countOut) (by decide) (cl5_occasions ct1_passOccasions ct1_countOut) ?_
  intro av h Q hS
  unfold S5_occasions at hS
  split at hS
  · exact ⟨Nat.le_of_ble_eq_true rfl, rn5_occasions hS⟩
  · exact hS.elim
theorem ct5_seed {l : Launch} : Ct l yX5_seed cX5_seed 3 (some .int) 0 S5_seed := by
  refine Ct_of (T := fun Q => T5_seed Q) (by decide) (cl5_seed) ?_
  intro av h Q hS
  unfold S5_seed at hS
  split at hS
  · exact ⟨Nat.le_of_ble_eq_true rfl, rn5_seed hS⟩
  · exact hS.elim
theorem ct5_occasion {l : Launch} : Ct l yX5_occasion cX5_occasion 1 (some .int) 5 S5_occasion := by
  refine Ct_of (T := fun Q => T5_occasion Q S1_passByDraws S1_countOut) (by decide) (cl5_occasion ct1_passByDraws ct1_countOut) ?_
  intro av h Q hS
  unfold S5_occasion at hS
  split at hS
  · exact ⟨Nat.le_of_ble_eq_true rfl, rn5_occasion hS⟩
  · exact hS.elim
theorem ct5_luck {l : Launch} : Ct l yX5_luck cX5_luck 6 (some .int) 5 S5_luck := by
  refine Ct_of (T := fun Q => T5_luck Q S1_copy S1_passOccasions S1_countOut S1_passByDraws) (by decide) (cl5_luck ct1_copy ct1_passOccasions ct1_countOut ct1_passByDraws) ?_
  intro av h Q hS
  unfold S5_luck at hS
  split at hS
  · exact ⟨Nat.le_of_ble_eq_true rfl, rn5_luck hS⟩
  · exact hS.elim
theorem ct5_state {l : Launch} : Ct l yX5_state cX5_state 2 (some .int) 3 S5_state := by
  refine Ct_of (T := fun Q => T5_state Q S1_thoseIn S1_thoseHeld S1_allGrace S1_crowd S1_allRites) (by decide) (cl5_state ct1_thoseIn ct1_thoseHeld ct1_allGrace ct1_crowd ct1_allRites) ?_
  intro av h Q hS
  unfold S5_state at hS
  split at hS
  · exact ⟨Nat.le_of_ble_eq_true rfl, rn5_state hS⟩
  · exact hS.elim
theorem ct5_where {l : Launch} : Ct l yX5_where cX5_where 3 (some .int) 4 S5_where := by
  refine Ct_of (T := fun Q => T5_where Q S1_has S5_isWithin S1_copy S1_passOccasions) (by decide) (cl5_where ct1_has ct5_isWithin ct1_copy ct1_passOccasions) ?_
  intro av h Q hS
  unfold S5_where at hS
  split at hS
  · exact ⟨Nat.le_of_ble_eq_true rfl, rn5_where hS⟩
  · exact hS.elim
theorem ct5_timeNow {l : Launch} : Ct l yX5_timeNow cX5_timeNow 2 (some .int) 5 S5_timeNow := by
  refine Ct_of (T := fun Q => T5_timeNow Q S1_copy S1_timeTo) (by decide) (cl5_timeNow ct1_copy ct1_timeTo) ?_
  intro av h Q hS
  unfold S5_timeNow at hS
  split at hS
  · exact ⟨Nat.le_of_ble_eq_true rfl, rn5_timeNow hS⟩
  · exact hS.elim
theorem ct5_noneIfLate {l : Launch} : Ct l yX5_noneIfLate cX5_noneIfLate 1 (some .int) 0 S5_noneIfLate := by
  refine Ct_of (T := fun Q => T5_noneIfLate Q) (by decide) (cl5_noneIfLate) ?_
  intro av h Q hS
  unfold S5_noneIfLate at hS
  split at hS
  · exact ⟨Nat.le_of_ble_eq_true rfl, rn5_noneIfLate hS⟩
  · exact hS.elim
theorem ct5_leaves {l : Launch} : Ct l yX5_leaves cX5_leaves 2 (some .int) 6 S5_leaves := by
  refine Ct_of (T := fun Q => T5_leaves Q S1_has S5_timeNow S5_noneIfLate) (by decide) (cl5_leaves ct1_has ct5_timeNow ct5_noneIfLate) ?_
  intro av h Q hS
  unfold S5_leaves at hS
  split at hS
  · exact ⟨Nat.le_of_ble_eq_true rfl, rn5_leaves hS⟩
  · exact hS.elim
theorem ct5_empty {l : Launch} : Ct l yX5_empty cX5_empty 2 (some .int) 4 S5_empty := by
  refine Ct_of (T := fun Q => T5_empty Q S1_copy S1_countOut S1_passOccasions) (by decide) (cl5_empty ct1_copy ct1_countOut ct1_passOccasions) ?_
  intro av h Q hS
  unfold S5_empty at hS
  split at hS
  · exact ⟨Nat.le_of_ble_eq_true rfl, rn5_empty hS⟩
  · exact hS.elim
theorem ct5_passes {l : Launch} : Ct l yX5_passes cX5_passes 3 (some .int) 5 S5_passes := by
  refine Ct_of (T := fun Q => T5_passes Q S1_has S5_isRoomOrOut S1_copy S1_timeTo S5_noneIfLate) (by decide) (cl5_passes ct1_has ct5_isRoomOrOut ct1_copy ct1_timeTo ct5_noneIfLate) ?_
  intro av h Q hS
  unfold S5_passes at hS
  split at hS
  · exact ⟨Nat.le_of_ble_eq_true rfl, rn5_passes hS⟩
  · exact hS.elim
theorem ct5_knot {l : Launch} : Ct l yX5_knot cX5_knot 2 (some .int) 2 S5_knot := by
  refine Ct_of (T := fun Q => T5_knot Q S1_has S1_ringFrom) (by decide) (cl5_knot ct1_has ct1_ringFrom) ?_
  intro av h Q hS
  unfold S5_knot at hS
  split at hS
  · exact ⟨Nat.le_of_ble_eq_true rfl, rn5_knot hS⟩
  · exact hS.elim
theorem ct5_isOutIfRude {l : Launch} : Ct l yX5_isOutIfRude cX5_isOutIfRude 5 (some .boolean) 5 S5_isOutIfRude := by
  refine Ct_of (T := fun Q => T5_isOutIfRude Q S1_copy S1_timeTo) (by decide) (cl5_isOutIfRude ct1_copy ct1_timeTo) ?_
  intro av h Q hS
  unfold S5_isOutIfRude at hS
  split at hS
  · exact ⟨Nat.le_of_ble_eq_true rfl, rn5_isOutIfRude hS⟩
  · exact hS.elim
theorem ct5_rudeFor {l : Launch} : Ct l yX5_rudeFor cX5_rudeFor 7 (some .int) 6 S5_rudeFor := by
  refine Ct_of (T := fun Q => T5_rudeFor Q S1_has S5_isWithin S1_thoseWaiting SJ6_bitCount S5_isOutIfRude) (by decide) (cl5_rudeFor ct1_has ct5_isWithin ct1_thoseWaiting ctJ6_bitCount ct5_isOutIfRude) ?_
  intro av h Q hS
  unfold S5_rudeFor at hS
  split at hS
  · exact ⟨Nat.le_of_ble_eq_true rfl, rn5_rudeFor hS⟩
  · exact hS.elim
theorem ct5_graceFor {l : Launch} : Ct l yX5_graceFor cX5_graceFor 4 (some .int) 5 S5_graceFor := by
  refine Ct_of (T := fun Q => T5_graceFor Q S1_has S5_isWithin S1_copy S1_timeTo) (by decide) (cl5_graceFor ct1_has ct5_isWithin ct1_copy ct1_timeTo) ?_
  intro av h Q hS
  unfold S5_graceFor at hS
  split at hS
  · exact ⟨Nat.le_of_ble_eq_true rfl, rn5_graceFor hS⟩
  · exact hS.elim
theorem ct5_kindFor {l : Launch} : Ct l yX5_kindFor cX5_kindFor 6 (some .int) 5 S5_kindFor := by
  refine Ct_of (T := fun Q => T5_kindFor Q S1_has S1_copy S1_timeTo) (by decide) (cl5_kindFor ct1_has ct1_copy ct1_timeTo) ?_
  intro av h Q hS
  unfold S5_kindFor at hS
  split at hS
  · exact ⟨Nat.le_of_ble_eq_true rfl, rn5_kindFor hS⟩
  · exact hS.elim
theorem ct5_riteFor {l : Launch} : Ct l yX5_riteFor cX5_riteFor 6 (some .int) 6 S5_riteFor := by
  refine Ct_of (T := fun Q => T5_riteFor Q S1_has S5_timeNow S1_copy S1_timeTo) (by decide) (cl5_riteFor ct1_has ct5_timeNow ct1_copy ct1_timeTo) ?_
  intro av h Q hS
  unfold S5_riteFor at hS
  split at hS
  · exact ⟨Nat.le_of_ble_eq_true rfl, rn5_riteFor hS⟩
  · exact hS.elim
theorem ct5_hostFor {l : Launch} : Ct l yX5_hostFor cX5_hostFor 6 (some .int) 6 S5_hostFor := by
  refine Ct_of (T := fun Q => T5_hostFor Q S1_has S5_timeNow S1_copy S1_timeTo) (by decide) (cl5_hostFor ct1_has ct5_timeNow ct1_copy ct1_timeTo) ?_
  intro av h Q hS
  unfold S5_hostFor at hS
  split at hS
  · exact ⟨Nat.le_of_ble_eq_true rfl, rn5_hostFor hS⟩
  · exact hS.elim
theorem ct5_isSheet {l : Launch} : Ct l yX5_isSheet cX5_isSheet 1 (some .boolean) 0 S5_isSheet := by
  refine Ct_of (T := fun Q => T5_isSheet Q) (by decide) (cl5_isSheet) ?_
  intro av h Q hS
  unfold S5_isSheet at hS
  split at hS
  · exact ⟨Nat.le_of_ble_eq_true rfl, rn5_isSheet hS⟩
  · exact hS.elim
theorem ct5_isFitting {l : Launch} : Ct l yX5_isFitting cX5_isFitting 6 (some .boolean) 4 S5_isFitting := by
  refine Ct_of (T := fun Q => T5_isFitting Q S1_copy S1_passOccasions) (by decide) (cl5_isFitting ct1_copy ct1_passOccasions) ?_
  intro av h Q hS
  unfold S5_isFitting at hS
  split at hS
  · exact ⟨Nat.le_of_ble_eq_true rfl, rn5_isFitting hS⟩
  · exact hS.elim
theorem ct5_fits {l : Launch} : Ct l yX5_fits cX5_fits 7 (some .int) 5 S5_fits := by
  refine Ct_of (T := fun Q => T5_fits Q S5_isSheet S1_has S5_isFitting) (by decide) (cl5_fits ct5_isSheet ct1_has ct5_isFitting) ?_
  intro av h Q hS
  unfold S5_fits at hS
  split at hS
  · exact ⟨Nat.le_of_ble_eq_true rfl, rn5_fits hS⟩
  · exact hS.elim
theorem ct5_ways {l : Launch} : Ct l yX5_ways cX5_ways 5 (some .long) 0 S5_ways := by
  refine Ct_of (T := fun Q => T5_ways Q) (by decide) (cl5_ways) ?_
  intro av h Q hS
  unfold S5_ways at hS
  split at hS
  · exact ⟨Nat.le_of_ble_eq_true rfl, rn5_ways hS⟩
  · exact hS.elim
theorem ct5_partOf {l : Launch} : Ct l yX5_partOf cX5_partOf 12 (some .long) 0 S5_partOf := by
  refine Ct_of (T := fun Q => T5_partOf Q) (by decide) (cl5_partOf) ?_
  intro av h Q hS
  unfold S5_partOf at hS
  split at hS
  · exact ⟨Nat.le_of_ble_eq_true rfl, rn5_partOf hS⟩
  · exact hS.elim
theorem ct5_odds {l : Launch} : Ct l yX5_odds cX5_odds 10 (some .long) 1 S5_odds := by
  refine Ct_of (T := fun Q => T5_odds Q S5_ways S5_partOf) (by decide) (cl5_odds ct5_ways ct5_partOf) ?_
  intro av h Q hS
  unfold S5_odds at hS
  split at hS
  · exact ⟨Nat.le_of_ble_eq_true rfl, rn5_odds hS⟩
  · exact hS.elim
theorem ct5_hope {l : Launch} : Ct l yX5_hope cX5_hope 3 (some .long) 1 S5_hope := by
  refine Ct_of (T := fun Q => T5_hope Q S5_partOf) (by decide) (cl5_hope ct5_partOf) ?_
  intro av h Q hS
  unfold S5_hope at hS
  split at hS
  · exact ⟨Nat.le_of_ble_eq_true rfl, rn5_hope hS⟩
  · exact hS.elim
theorem ct5_prove {l : Launch} : Ct l yX5_prove cX5_prove 5 (some .int) 4 S5_prove := by
  refine Ct_of (T := fun Q => T5_prove Q S1_has S1_copy S1_passOccasions S1_rowPart) (by decide) (cl5_prove ct1_has ct1_copy ct1_passOccasions ct1_rowPart) ?_
  intro av h Q hS
  unfold S5_prove at hS
  split at hS
  · exact ⟨Nat.le_of_ble_eq_true rfl, rn5_prove hS⟩
  · exact hS.elim
theorem ct5_isRowPart {l : Launch} : Ct l yX5_isRowPart cX5_isRowPart 3 (some .boolean) 0 S5_isRowPart := by
  refine Ct_of (T := fun Q => T5_isRowPart Q) (by decide) (cl5_isRowPart) ?_
  intro av h Q hS
  unfold S5_isRowPart at hS
  split at hS
  · exact ⟨Nat.le_of_ble_eq_true rfl, rn5_isRowPart hS⟩
  · exact hS.elim
theorem ct5_row {l : Launch} : Ct l yX5_row cX5_row 3 (some .int) 1 S5_row := by
  refine Ct_of (T := fun Q => T5_row Q S5_isRowPart) (by decide) (cl5_row ct5_isRowPart) ?_
  intro av h Q hS
  unfold S5_row at hS
  split at hS
  · exact ⟨Nat.le_of_ble_eq_true rfl, rn5_row hS⟩
  · exact hS.elim
theorem ct5_alterRow {l : Launch} : Ct l yX5_alterRow cX5_alterRow 5 (some .int) 1 S5_alterRow := by
  refine Ct_of (T := fun Q => T5_alterRow Q S5_isRowPart) (by decide) (cl5_alterRow ct5_isRowPart) ?_
  intro av h Q hS
  unfold S5_alterRow at hS
  split at hS
  · exact ⟨Nat.le_of_ble_eq_true rfl, rn5_alterRow hS⟩
  · exact hS.elim
theorem ct5_judge {l : Launch} : Ct l yX5_judge cX5_judge 4 (some .int) 4 S5_judge := by
  refine Ct_of (T := fun Q => T5_judge Q S1_has S1_copy S1_passOccasions S1_rowPart) (by decide) (cl5_judge ct1_has ct1_copy ct1_passOccasions ct1_rowPart) ?_
  intro av h Q hS
  unfold S5_judge at hS
  split at hS
  · exact ⟨Nat.le_of_ble_eq_true rfl, rn5_judge hS⟩
  · exact hS.elim
theorem ct5_minds {l : Launch} : Ct l yX5_minds cX5_minds 7 (some .int) 2 S5_minds := by
  refine Ct_of (T := fun Q => T5_minds Q S5_isSheet S1_has S5_isWithin S5_heldGrace) (by decide) (cl5_minds ct5_isSheet ct1_has ct5_isWithin ct5_heldGrace) ?_
  intro av h Q hS
  unfold S5_minds at hS
  split at hS
  · exact ⟨Nat.le_of_ble_eq_true rfl, rn5_minds hS⟩
  · exact hS.elim
theorem ct5_sheet {l : Launch} : Ct l yX5_sheet cX5_sheet 4 (some .int) 1 S5_sheet := by
  refine Ct_of (T := fun Q => T5_sheet Q S5_isSheet S2_become) (by decide) (cl5_sheet ct5_isSheet ct2_become) ?_
  intro av h Q hS
  unfold S5_sheet at hS
  split at hS
  · exact ⟨Nat.le_of_ble_eq_true rfl, rn5_sheet hS⟩
  · exact hS.elim
theorem ct5_put {l : Launch} : Ct l yX5_put cX5_put 5 (some .int) 1 S5_put := by
  refine Ct_of (T := fun Q => T5_put Q S5_isSheet S2_narrowed) (by decide) (cl5_put ct5_isSheet ct2_narrowed) ?_
  intro av h Q hS
  unfold S5_put at hS
  split at hS
  · exact ⟨Nat.le_of_ble_eq_true rfl, rn5_put hS⟩
  · exact hS.elim
theorem ct5_item {l : Launch} : Ct l yX5_item cX5_item 5 (some .int) 1 S5_item := by
  refine Ct_of (T := fun Q => T5_item Q S5_isSheet) (by decide) (cl5_item ct5_isSheet) ?_
  intro av h Q hS
  unfold S5_item at hS
  split at hS
  · exact ⟨Nat.le_of_ble_eq_true rfl, rn5_item hS⟩
  · exact hS.elim
theorem ct5_isShelf {l : Launch} : Ct l yX5_isShelf cX5_isShelf 1 (some .boolean) 0 S5_isShelf := by
  refine Ct_of (T := fun Q => T5_isShelf Q) (by decide) (cl5_isShelf) ?_
  intro av h Q hS
  unfold S5_isShelf at hS
  split at hS
  · exact ⟨Nat.le_of_ble_eq_true rfl, rn5_isShelf hS⟩
  · exact hS.elim
theorem ct5_shelf {l : Launch} : Ct l yX5_shelf cX5_shelf 5 (some .int) 1 S5_shelf := by
  refine Ct_of (T := fun Q => T5_shelf Q S5_isShelf S1_has S3_holdInmate S5_isSheet S3_holdRow) (by decide) (cl5_shelf ct5_isShelf ct1_has ct3_holdInmate ct5_isSheet ct3_holdRow) ?_
  intro av h Q hS
  unfold S5_shelf at hS
  split at hS
  · exact ⟨Nat.le_of_ble_eq_true rfl, rn5_shelf hS⟩
  · exact hS.elim
theorem ct5_heldBy {l : Launch} : Ct l yX5_heldBy cX5_heldBy 3 (some .int) 1 S5_heldBy := by
  refine Ct_of (T := fun Q => T5_heldBy Q S1_has) (by decide) (cl5_heldBy ct1_has) ?_
  intro av h Q hS
  unfold S5_heldBy at hS
  split at hS
  · exact ⟨Nat.le_of_ble_eq_true rfl, rn5_heldBy hS⟩
  · exact hS.elim
theorem ct5_isUnder {l : Launch} : Ct l yX5_isUnder cX5_isUnder 4 (some .boolean) 1 S5_isUnder := by
  refine Ct_of (T := fun Q => T5_isUnder Q S5_isKind) (by decide) (cl5_isUnder ct5_isKind) ?_
  intro av h Q hS
  unfold S5_isUnder at hS
  split at hS
  · exact ⟨Nat.le_of_ble_eq_true rfl, rn5_isUnder hS⟩
  · exact hS.elim
theorem ct5_taken {l : Launch} : Ct l yX5_taken cX5_taken 7 (some .int) 2 S5_taken := by
  refine Ct_of (T := fun Q => T5_taken Q S5_isShelf S5_isKind S5_heldBy S5_isUnder) (by decide) (cl5_taken ct5_isShelf ct5_isKind ct5_heldBy ct5_isUnder) ?_
  intro av h Q hS
  unfold S5_taken at hS
  split at hS
  · exact ⟨Nat.le_of_ble_eq_true rfl, rn5_taken hS⟩
  · exact hS.elim
