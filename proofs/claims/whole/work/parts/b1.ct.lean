theorem ctR {l : Launch} : ∀ d, Ct l yX5_run cX5_run 5 (some .int) (d + 32) (Sr d)
  | 0 => fun _ _ _ _ hS => hS.elim
  | d + 1 => by
    refine Ct_of (T := fun Q => T5_run Q S0_mark S0_own (Sr d) S0_parted) (by decide) (cl5_run (d := d + 30) ct0_mark ct0_own (ctR d) ct0_parted) ?_
    intro av h Q hS
    unfold Sr at hS
    split at hS
    · exact ⟨Nat.le_of_ble_eq_true rfl, hS⟩
    · exact hS.elim
theorem ct5_run {l : Launch} : Ct l yX5_run cX5_run 5 (some .int) 40 S5_run := ctR 8
theorem ct5_act {l : Launch} : Ct l yX5_act cX5_act 6 (some .int) 41 S5_act := by
  refine Ct_of (T := fun Q => T5_act Q S5_isShelf S5_heldBy S0_begin S0_own S5_run) (by decide) (cl5_act ct5_isShelf ct5_heldBy ct0_begin ct0_own ct5_run) ?_
  intro av h Q hS
  unfold S5_act at hS
  split at hS
  · exact ⟨Nat.le_of_ble_eq_true rfl, rn5_act hS⟩
  · exact hS.elim
theorem ct5_trace {l : Launch} : Ct l yX5_trace cX5_trace 2 (some .int) 0 S5_trace := by
  refine Ct_of (T := fun Q => T5_trace Q) (by decide) (cl5_trace) ?_
  intro av h Q hS
  unfold S5_trace at hS
  split at hS
  · exact ⟨Nat.le_of_ble_eq_true rfl, rn5_trace hS⟩
  · exact hS.elim
theorem ct5_many {l : Launch} : Ct l yX5_many cX5_many 2 (some .int) 3 S5_many := by
  refine Ct_of (T := fun Q => T5_many Q S1_countOut S1_thoseWaiting SJ6_bitCount S1_thoseHeld) (by decide) (cl5_many ct1_countOut ct1_thoseWaiting ctJ6_bitCount ct1_thoseHeld) ?_
  intro av h Q hS
  unfold S5_many at hS
  split at hS
  · exact ⟨Nat.le_of_ble_eq_true rfl, rn5_many hS⟩
  · exact hS.elim
theorem ct5_keep {l : Launch} : Ct l yX5_keep cX5_keep 1 (some .int) 2 S5_keep := by
  refine Ct_of (T := fun Q => T5_keep Q S1_copy) (by decide) (cl5_keep ct1_copy) ?_
  intro av h Q hS
  unfold S5_keep at hS
  split at hS
  · exact ⟨Nat.le_of_ble_eq_true rfl, rn5_keep hS⟩
  · exact hS.elim
theorem ct5_again {l : Launch} : Ct l yX5_again cX5_again 1 (some .int) 2 S5_again := by
  refine Ct_of (T := fun Q => T5_again Q S1_copy) (by decide) (cl5_again ct1_copy) ?_
  intro av h Q hS
  unfold S5_again at hS
  split at hS
  · exact ⟨Nat.le_of_ble_eq_true rfl, rn5_again hS⟩
  · exact hS.elim
theorem ct6_begins {l : Launch} : Ct l yX6_begins cX6_begins 3 none 0 S6_begins := by
  refine Ct_of (T := fun Q => T6_begins Q) (by decide) (cl6_begins) ?_
  intro av h Q hS
  unfold S6_begins at hS
  split at hS
  · exact ⟨Nat.le_of_ble_eq_true rfl, rn6_begins hS⟩
  · exact hS.elim
theorem ct6_isIn {l : Launch} : Ct l yX6_isIn cX6_isIn 6 (some .boolean) 0 S6_isIn := by
  refine Ct_of (T := fun Q => T6_isIn Q) (by decide) (cl6_isIn) ?_
  intro av h Q hS
  unfold S6_isIn at hS
  split at hS
  · exact ⟨Nat.le_of_ble_eq_true rfl, rn6_isIn hS⟩
  · exact hS.elim
theorem ct6_isRoom {l : Launch} : Ct l yX6_isRoom cX6_isRoom 1 (some .boolean) 0 S6_isRoom := by
  refine Ct_of (T := fun Q => T6_isRoom Q) (by decide) (cl6_isRoom) ?_
  intro av h Q hS
  unfold S6_isRoom at hS
  split at hS
  · exact ⟨Nat.le_of_ble_eq_true rfl, rn6_isRoom hS⟩
  · exact hS.elim
theorem ct6_isOne {l : Launch} : Ct l yX6_isOne cX6_isOne 2 (some .boolean) 0 S6_isOne := by
  refine Ct_of (T := fun Q => T6_isOne Q) (by decide) (cl6_isOne) ?_
  intro av h Q hS
  unfold S6_isOne at hS
  split at hS
  · exact ⟨Nat.le_of_ble_eq_true rfl, rn6_isOne hS⟩
  · exact hS.elim
theorem ct6_its {l : Launch} : Ct l yX6_its cX6_its 3 (some .int) 0 S6_its := by
  refine Ct_of (T := fun Q => T6_its Q) (by decide) (cl6_its) ?_
  intro av h Q hS
  unfold S6_its at hS
  split at hS
  · exact ⟨Nat.le_of_ble_eq_true rfl, rn6_its hS⟩
  · exact hS.elim
theorem ct6_becomes {l : Launch} : Ct l yX6_becomes cX6_becomes 4 (some .int) 0 S6_becomes := by
  refine Ct_of (T := fun Q => T6_becomes Q) (by decide) (cl6_becomes) ?_
  intro av h Q hS
  unfold S6_becomes at hS
  split at hS
  · exact ⟨Nat.le_of_ble_eq_true rfl, rn6_becomes hS⟩
  · exact hS.elim
theorem ct6_copyRow {l : Launch} : Ct l yX6_copyRow cX6_copyRow 3 none 0 S6_copyRow := by
  refine Ct_of (T := fun Q => T6_copyRow Q) (by decide) (cl6_copyRow) ?_
  intro av h Q hS
  unfold S6_copyRow at hS
  split at hS
  · exact ⟨Nat.le_of_ble_eq_true rfl, rn6_copyRow hS⟩
  · exact hS.elim
theorem ct6_within {l : Launch} : Ct l yX6_within cX6_within 1 (some .int) 0 S6_within := by
  refine Ct_of (T := fun Q => T6_within Q) (by decide) (cl6_within) ?_
  intro av h Q hS
  unfold S6_within at hS
  split at hS
  · exact ⟨Nat.le_of_ble_eq_true rfl, rn6_within hS⟩
  · exact hS.elim
theorem ct6_size {l : Launch} : Ct l yX6_size cX6_size 3 (some .int) 0 S6_size := by
  refine Ct_of (T := fun Q => T6_size Q) (by decide) (cl6_size) ?_
  intro av h Q hS
  unfold S6_size at hS
  split at hS
  · exact ⟨Nat.le_of_ble_eq_true rfl, rn6_size hS⟩
  · exact hS.elim
theorem ct6_isUnder {l : Launch} : Ct l yX6_isUnder cX6_isUnder 2 (some .boolean) 0 S6_isUnder := by
  refine Ct_of (T := fun Q => T6_isUnder Q) (by decide) (cl6_isUnder) ?_
  intro av h Q hS
  unfold S6_isUnder at hS
  split at hS
  · exact ⟨Nat.le_of_ble_eq_true rfl, rn6_isUnder hS⟩
  · exact hS.elim
theorem ct6_feed {l : Launch} : Ct l yX6_feed cX6_feed 5 (some .int) 1 S6_feed := by
  refine Ct_of (T := fun Q => T6_feed Q S6_isIn) (by decide) (cl6_feed ct6_isIn) ?_
  intro av h Q hS
  unfold S6_feed at hS
  split at hS
  · exact ⟨Nat.le_of_ble_eq_true rfl, rn6_feed hS⟩
  · exact hS.elim
theorem ct6_isAlpha {l : Launch} : Ct l yX6_isAlpha cX6_isAlpha 1 (some .boolean) 0 S6_isAlpha := by
  refine Ct_of (T := fun Q => T6_isAlpha Q) (by decide) (cl6_isAlpha) ?_
  intro av h Q hS
  unfold S6_isAlpha at hS
  split at hS
  · exact ⟨Nat.le_of_ble_eq_true rfl, rn6_isAlpha hS⟩
  · exact hS.elim
theorem ct6_isDigit {l : Launch} : Ct l yX6_isDigit cX6_isDigit 1 (some .boolean) 0 S6_isDigit := by
  refine Ct_of (T := fun Q => T6_isDigit Q) (by decide) (cl6_isDigit) ?_
  intro av h Q hS
  unfold S6_isDigit at hS
  split at hS
  · exact ⟨Nat.le_of_ble_eq_true rfl, rn6_isDigit hS⟩
  · exact hS.elim
theorem ct6_byteAt {l : Launch} : Ct l yX6_byteAt cX6_byteAt 2 (some .int) 0 S6_byteAt := by
  refine Ct_of (T := fun Q => T6_byteAt Q) (by decide) (cl6_byteAt) ?_
  intro av h Q hS
  unfold S6_byteAt at hS
  split at hS
  · exact ⟨Nat.le_of_ble_eq_true rfl, rn6_byteAt hS⟩
  · exact hS.elim
theorem ct6_nextToken {l : Launch} : Ct l yX6_nextToken cX6_nextToken 2 none 1 S6_nextToken := by
  refine Ct_of (T := fun Q => T6_nextToken Q S6_byteAt S6_isAlpha S6_isDigit) (by decide) (cl6_nextToken ct6_byteAt ct6_isAlpha ct6_isDigit) ?_
  intro av h Q hS
  unfold S6_nextToken at hS
  split at hS
  · exact ⟨Nat.le_of_ble_eq_true rfl, rn6_nextToken hS⟩
  · exact hS.elim
theorem ct6_needs {l : Launch} : Ct l yX6_needs cX6_needs 2 none 2 S6_needs := by
  refine Ct_of (T := fun Q => T6_needs Q S6_nextToken) (by decide) (cl6_needs ct6_nextToken) ?_
  intro av h Q hS
  unfold S6_needs at hS
  split at hS
  · exact ⟨Nat.le_of_ble_eq_true rfl, rn6_needs hS⟩
  · exact hS.elim
theorem ct6_isName {l : Launch} : Ct l yX6_isName cX6_isName 6 (some .boolean) 1 S6_isName := by
  refine Ct_of (T := fun Q => T6_isName Q S6_byteAt) (by decide) (cl6_isName ct6_byteAt) ?_
  intro av h Q hS
  unfold S6_isName at hS
  split at hS
  · exact ⟨Nat.le_of_ble_eq_true rfl, rn6_isName hS⟩
  · exact hS.elim
theorem ct6_isSame {l : Launch} : Ct l yX6_isSame cX6_isSame 5 (some .boolean) 1 S6_isSame := by
  refine Ct_of (T := fun Q => T6_isSame Q S6_byteAt) (by decide) (cl6_isSame ct6_byteAt) ?_
  intro av h Q hS
  unfold S6_isSame at hS
  split at hS
  · exact ⟨Nat.le_of_ble_eq_true rfl, rn6_isSame hS⟩
  · exact hS.elim
theorem ct6_isFour {l : Launch} : Ct l yX6_isFour cX6_isFour 5 (some .boolean) 2 S6_isFour := by
  refine Ct_of (T := fun Q => T6_isFour Q S6_isName) (by decide) (cl6_isFour ct6_isName) ?_
  intro av h Q hS
  unfold S6_isFour at hS
  split at hS
  · exact ⟨Nat.le_of_ble_eq_true rfl, rn6_isFour hS⟩
  · exact hS.elim
theorem ct6_isFive {l : Launch} : Ct l yX6_isFive cX6_isFive 6 (some .boolean) 2 S6_isFive := by
  refine Ct_of (T := fun Q => T6_isFive Q S6_isName S6_byteAt) (by decide) (cl6_isFive ct6_isName ct6_byteAt) ?_
  intro av h Q hS
  unfold S6_isFive at hS
  split at hS
  · exact ⟨Nat.le_of_ble_eq_true rfl, rn6_isFive hS⟩
  · exact hS.elim
theorem ct6_kindHere {l : Launch} : Ct l yX6_kindHere cX6_kindHere 1 (some .int) 3 S6_kindHere := by
  refine Ct_of (T := fun Q => T6_kindHere Q S6_isName S6_isSame S6_byteAt S6_isFive) (by decide) (cl6_kindHere ct6_isName ct6_isSame ct6_byteAt ct6_isFive) ?_
  intro av h Q hS
  unfold S6_kindHere at hS
  split at hS
  · exact ⟨Nat.le_of_ble_eq_true rfl, rn6_kindHere hS⟩
  · exact hS.elim
theorem ct6_isNumber0 {l : Launch} : Ct l yX6_isNumber0 cX6_isNumber0 2 (some .boolean) 0 S6_isNumber0 := by
  refine Ct_of (T := fun Q => T6_isNumber0 Q) (by decide) (cl6_isNumber0) ?_
  intro av h Q hS
  unfold S6_isNumber0 at hS
  split at hS
  · exact ⟨Nat.le_of_ble_eq_true rfl, rn6_isNumber0 hS⟩
  · exact hS.elim
theorem ct6_numberTo {l : Launch} : Ct l yX6_numberTo cX6_numberTo 4 none 3 S6_numberTo := by
  refine Ct_of (T := fun Q => T6_numberTo Q S6_isNumber0 S6_needs) (by decide) (cl6_numberTo ct6_isNumber0 ct6_needs) ?_
  intro av h Q hS
  unfold S6_numberTo at hS
  split at hS
  · exact ⟨Nat.le_of_ble_eq_true rfl, rn6_numberTo hS⟩
  · exact hS.elim
theorem ct6_isTwo {l : Launch} : Ct l yX6_isTwo cX6_isTwo 3 (some .boolean) 1 S6_isTwo := by
  refine Ct_of (T := fun Q => T6_isTwo Q S6_byteAt) (by decide) (cl6_isTwo ct6_byteAt) ?_
  intro av h Q hS
  unfold S6_isTwo at hS
  split at hS
  · exact ⟨Nat.le_of_ble_eq_true rfl, rn6_isTwo hS⟩
  · exact hS.elim
theorem ct6_comes {l : Launch} : Ct l yX6_comes cX6_comes 5 none 0 S6_comes := by
  refine Ct_of (T := fun Q => T6_comes Q) (by decide) (cl6_comes) ?_
  intro av h Q hS
  unfold S6_comes at hS
  split at hS
  · exact ⟨Nat.le_of_ble_eq_true rfl, rn6_comes hS⟩
  · exact hS.elim
theorem ct6_inmateHere {l : Launch} : Ct l yX6_inmateHere cX6_inmateHere 3 none 4 S6_inmateHere := by
  refine Ct_of (T := fun Q => T6_inmateHere Q S6_needs S6_isTwo S6_comes S6_numberTo S6_isFive S6_nextToken) (by decide) (cl6_inmateHere ct6_needs ct6_isTwo ct6_comes ct6_numberTo ct6_isFive ct6_nextToken) ?_
  intro av h Q hS
  unfold S6_inmateHere at hS
  split at hS
  · exact ⟨Nat.le_of_ble_eq_true rfl, rn6_inmateHere hS⟩
  · exact hS.elim
theorem ct6_riteHere {l : Launch} : Ct l yX6_riteHere cX6_riteHere 2 none 4 S6_riteHere := by
  refine Ct_of (T := fun Q => T6_riteHere Q S6_nextToken S6_isNumber0 S6_needs S6_isTwo S6_numberTo) (by decide) (cl6_riteHere ct6_nextToken ct6_isNumber0 ct6_needs ct6_isTwo ct6_numberTo) ?_
  intro av h Q hS
  unfold S6_riteHere at hS
  split at hS
  · exact ⟨Nat.le_of_ble_eq_true rfl, rn6_riteHere hS⟩
  · exact hS.elim
theorem ct6_waitHere {l : Launch} : Ct l yX6_waitHere cX6_waitHere 3 none 3 S6_waitHere := by
  refine Ct_of (T := fun Q => T6_waitHere Q S6_nextToken S6_isNumber0 S6_needs S6_isName) (by decide) (cl6_waitHere ct6_nextToken ct6_isNumber0 ct6_needs ct6_isName) ?_
  intro av h Q hS
  unfold S6_waitHere at hS
  split at hS
  · exact ⟨Nat.le_of_ble_eq_true rfl, rn6_waitHere hS⟩
  · exact hS.elim
theorem ct6_lawHere {l : Launch} : Ct l yX6_lawHere cX6_lawHere 1 (some .int) 3 S6_lawHere := by
  refine Ct_of (T := fun Q => T6_lawHere Q S6_isName S6_isSame S6_isFour) (by decide) (cl6_lawHere ct6_isName ct6_isSame ct6_isFour) ?_
  intro av h Q hS
  unfold S6_lawHere at hS
  split at hS
  · exact ⟨Nat.le_of_ble_eq_true rfl, rn6_lawHere hS⟩
  · exact hS.elim
theorem ct6_itemHere {l : Launch} : Ct l yX6_itemHere cX6_itemHere 3 none 5 S6_itemHere := by
  refine Ct_of (T := fun Q => T6_itemHere Q S6_kindHere S6_lawHere S6_inmateHere S6_nextToken S6_numberTo S6_isFour S6_riteHere S6_waitHere S6_needs S6_byteAt) (by decide) (cl6_itemHere ct6_kindHere ct6_lawHere ct6_inmateHere ct6_nextToken ct6_numberTo ct6_isFour ct6_riteHere ct6_waitHere ct6_needs ct6_byteAt) ?_
  intro av h Q hS
  unfold S6_itemHere at hS
  split at hS
  · exact ⟨Nat.le_of_ble_eq_true rfl, rn6_itemHere hS⟩
  · exact hS.elim
theorem ct6_gaol {l : Launch} : Ct l yX6_gaol cX6_gaol 1 (some .int) 6 S6_gaol := by
  refine Ct_of (T := fun Q => T6_gaol Q S6_copyRow S6_begins S6_nextToken S6_itemHere) (by decide) (cl6_gaol ct6_copyRow ct6_begins ct6_nextToken ct6_itemHere) ?_
  intro av h Q hS
  unfold S6_gaol at hS
  split at hS
  · exact ⟨Nat.le_of_ble_eq_true rfl, rn6_gaol hS⟩
  · exact hS.elim
theorem ct6_set {l : Launch} : Ct l yX6_set cX6_set 3 (some .int) 1 S6_set := by
  refine Ct_of (T := fun Q => T6_set Q S6_isIn S6_becomes) (by decide) (cl6_set ct6_isIn ct6_becomes) ?_
  intro av h Q hS
  unfold S6_set at hS
  split at hS
  · exact ⟨Nat.le_of_ble_eq_true rfl, rn6_set hS⟩
  · exact hS.elim
theorem ct6_lawOf {l : Launch} : Ct l yX6_lawOf cX6_lawOf 2 (some .int) 1 S6_lawOf := by
  refine Ct_of (T := fun Q => T6_lawOf Q S6_isIn) (by decide) (cl6_lawOf ct6_isIn) ?_
  intro av h Q hS
  unfold S6_lawOf at hS
  split at hS
  · exact ⟨Nat.le_of_ble_eq_true rfl, rn6_lawOf hS⟩
  · exact hS.elim
theorem ct6_inmate {l : Launch} : Ct l yX6_inmate cX6_inmate 4 (some .int) 1 S6_inmate := by
  refine Ct_of (T := fun Q => T6_inmate Q S6_isIn S6_isRoom S6_comes) (by decide) (cl6_inmate ct6_isIn ct6_isRoom ct6_comes) ?_
  intro av h Q hS
  unfold S6_inmate at hS
  split at hS
  · exact ⟨Nat.le_of_ble_eq_true rfl, rn6_inmate hS⟩
  · exact hS.elim
theorem ct6_isOut {l : Launch} : Ct l yX6_isOut cX6_isOut 2 (some .boolean) 1 S6_isOut := by
  refine Ct_of (T := fun Q => T6_isOut Q S6_its) (by decide) (cl6_isOut ct6_its) ?_
  intro av h Q hS
  unfold S6_isOut at hS
  split at hS
  · exact ⟨Nat.le_of_ble_eq_true rfl, rn6_isOut hS⟩
  · exact hS.elim
theorem ct6_isKept {l : Launch} : Ct l yX6_isKept cX6_isKept 3 (some .boolean) 2 S6_isKept := by
  refine Ct_of (T := fun Q => T6_isKept Q S6_its S6_isOut) (by decide) (cl6_isKept ct6_its ct6_isOut) ?_
  intro av h Q hS
  unfold S6_isKept at hS
  split at hS
  · exact ⟨Nat.le_of_ble_eq_true rfl, rn6_isKept hS⟩
  · exact hS.elim
theorem ct6_thoseIn {l : Launch} : Ct l yX6_thoseIn cX6_thoseIn 4 (some .int) 1 S6_thoseIn := by
  refine Ct_of (T := fun Q => T6_thoseIn Q S6_its) (by decide) (cl6_thoseIn ct6_its) ?_
  intro av h Q hS
  unfold S6_thoseIn at hS
  split at hS
  · exact ⟨Nat.le_of_ble_eq_true rfl, rn6_thoseIn hS⟩
  · exact hS.elim
theorem ct6_needsOf {l : Launch} : Ct l yX6_needsOf cX6_needsOf 3 (some .int) 2 S6_needsOf := by
  refine Ct_of (T := fun Q => T6_needsOf Q S6_its S6_thoseIn S6_size) (by decide) (cl6_needsOf ct6_its ct6_thoseIn ct6_size) ?_
  intro av h Q hS
  unfold S6_needsOf at hS
  split at hS
  · exact ⟨Nat.le_of_ble_eq_true rfl, rn6_needsOf hS⟩
  · exact hS.elim
theorem ct6_paysOf {l : Launch} : Ct l yX6_paysOf cX6_paysOf 3 (some .int) 1 S6_paysOf := by
  refine Ct_of (T := fun Q => T6_paysOf Q S6_its) (by decide) (cl6_paysOf ct6_its) ?_
  intro av h Q hS
  unfold S6_paysOf at hS
  split at hS
  · exact ⟨Nat.le_of_ble_eq_true rfl, rn6_paysOf hS⟩
  · exact hS.elim
theorem ct6_gainsOf {l : Launch} : Ct l yX6_gainsOf cX6_gainsOf 3 (some .int) 1 S6_gainsOf := by
  refine Ct_of (T := fun Q => T6_gainsOf Q S6_its) (by decide) (cl6_gainsOf ct6_its) ?_
  intro av h Q hS
  unfold S6_gainsOf at hS
  split at hS
  · exact ⟨Nat.le_of_ble_eq_true rfl, rn6_gainsOf hS⟩
  · exact hS.elim
theorem ct6_of {l : Launch} : Ct l yX6_of cX6_of 3 (some .int) 3 S6_of := by
  refine Ct_of (T := fun Q => T6_of Q S6_isOne S6_isIn S6_its S6_isKept) (by decide) (cl6_of ct6_isOne ct6_isIn ct6_its ct6_isKept) ?_
  intro av h Q hS
  unfold S6_of at hS
  split at hS
  · exact ⟨Nat.le_of_ble_eq_true rfl, rn6_of hS⟩
  · exact hS.elim
theorem ct6_does {l : Launch} : Ct l yX6_does cX6_does 3 (some .int) 3 S6_does := by
  refine Ct_of (T := fun Q => T6_does Q S6_isOne S6_isIn S6_isOut S6_needsOf S6_paysOf S6_gainsOf) (by decide) (cl6_does ct6_isOne ct6_isIn ct6_isOut ct6_needsOf ct6_paysOf ct6_gainsOf) ?_
  intro av h Q hS
  unfold S6_does at hS
  split at hS
  · exact ⟨Nat.le_of_ble_eq_true rfl, rn6_does hS⟩
  · exact hS.elim
theorem ct6_mind {l : Launch} : Ct l yX6_mind cX6_mind 3 (some .int) 1 S6_mind := by
  refine Ct_of (T := fun Q => T6_mind Q S6_isOne S6_isIn S6_becomes) (by decide) (cl6_mind ct6_isOne ct6_isIn ct6_becomes) ?_
  intro av h Q hS
  unfold S6_mind at hS
  split at hS
  · exact ⟨Nat.le_of_ble_eq_true rfl, rn6_mind hS⟩
  · exact hS.elim
theorem ct6_grace {l : Launch} : Ct l yX6_grace cX6_grace 3 (some .int) 1 S6_grace := by
  refine Ct_of (T := fun Q => T6_grace Q S6_isOne S6_isIn S6_becomes) (by decide) (cl6_grace ct6_isOne ct6_isIn ct6_becomes) ?_
  intro av h Q hS
  unfold S6_grace at hS
  split at hS
  · exact ⟨Nat.le_of_ble_eq_true rfl, rn6_grace hS⟩
  · exact hS.elim
theorem ct6_bring {l : Launch} : Ct l yX6_bring cX6_bring 3 (some .int) 1 S6_bring := by
  refine Ct_of (T := fun Q => T6_bring Q S6_isOne S6_isIn S6_becomes) (by decide) (cl6_bring ct6_isOne ct6_isIn ct6_becomes) ?_
  intro av h Q hS
  unfold S6_bring at hS
  split at hS
  · exact ⟨Nat.le_of_ble_eq_true rfl, rn6_bring hS⟩
  · exact hS.elim
theorem ct6_await {l : Launch} : Ct l yX6_await cX6_await 3 (some .int) 1 S6_await := by
  refine Ct_of (T := fun Q => T6_await Q S6_isOne S6_becomes) (by decide) (cl6_await ct6_isOne ct6_becomes) ?_
  intro av h Q hS
  unfold S6_await at hS
  split at hS
  · exact ⟨Nat.le_of_ble_eq_true rfl, rn6_await hS⟩
  · exact hS.elim
theorem ct6_excuse {l : Launch} : Ct l yX6_excuse cX6_excuse 2 (some .int) 1 S6_excuse := by
  refine Ct_of (T := fun Q => T6_excuse Q S6_isOne S6_becomes) (by decide) (cl6_excuse ct6_isOne ct6_becomes) ?_
  intro av h Q hS
  unfold S6_excuse at hS
  split at hS
  · exact ⟨Nat.le_of_ble_eq_true rfl, rn6_excuse hS⟩
  · exact hS.elim
theorem ct6_rite {l : Launch} : Ct l yX6_rite cX6_rite 3 (some .int) 1 S6_rite := by
  refine Ct_of (T := fun Q => T6_rite Q S6_isRoom S6_isIn S6_becomes) (by decide) (cl6_rite ct6_isRoom ct6_isIn ct6_becomes) ?_
  intro av h Q hS
  unfold S6_rite at hS
  split at hS
  · exact ⟨Nat.le_of_ble_eq_true rfl, rn6_rite hS⟩
  · exact hS.elim
theorem ct6_room {l : Launch} : Ct l yX6_room cX6_room 3 (some .int) 2 S6_room := by
  refine Ct_of (T := fun Q => T6_room Q S6_isRoom S6_isIn S6_thoseIn) (by decide) (cl6_room ct6_isRoom ct6_isIn ct6_thoseIn) ?_
  intro av h Q hS
  unfold S6_room at hS
  split at hS
  · exact ⟨Nat.le_of_ble_eq_true rfl, rn6_room hS⟩
  · exact hS.elim
theorem ct6_goesOn {l : Launch} : Ct l yX6_goesOn cX6_goesOn 4 none 3 S6_goesOn := by
  refine Ct_of (T := fun Q => T6_goesOn Q S6_isOut S6_isKept S6_needsOf S6_paysOf S6_gainsOf S6_within) (by decide) (cl6_goesOn ct6_isOut ct6_isKept ct6_needsOf ct6_paysOf ct6_gainsOf ct6_within) ?_
  intro av h Q hS
  unfold S6_goesOn at hS
  split at hS
  · exact ⟨Nat.le_of_ble_eq_true rfl, rn6_goesOn hS⟩
  · exact hS.elim
theorem ct6_goesOnMany {l : Launch} : Ct l yX6_goesOnMany cX6_goesOnMany 3 none 4 S6_goesOnMany := by
  refine Ct_of (T := fun Q => T6_goesOnMany Q S6_goesOn) (by decide) (cl6_goesOnMany ct6_goesOn) ?_
  intro av h Q hS
  unfold S6_goesOnMany at hS
  split at hS
  · exact ⟨Nat.le_of_ble_eq_true rfl, rn6_goesOnMany hS⟩
  · exact hS.elim
theorem ct6_occasions {l : Launch} : Ct l yX6_occasions cX6_occasions 2 (some .int) 5 S6_occasions := by
  refine Ct_of (T := fun Q => T6_occasions Q S6_isIn S6_goesOnMany S6_thoseIn S6_size) (by decide) (cl6_occasions ct6_isIn ct6_goesOnMany ct6_thoseIn ct6_size) ?_
  intro av h Q hS
  unfold S6_occasions at hS
  split at hS
  · exact ⟨Nat.le_of_ble_eq_true rfl, rn6_occasions hS⟩
  · exact hS.elim
theorem ct6_seed {l : Launch} : Ct l yX6_seed cX6_seed 2 (some .int) 1 S6_seed := by
  refine Ct_of (T := fun Q => T6_seed Q S6_becomes) (by decide) (cl6_seed ct6_becomes) ?_
  intro av h Q hS
  unfold S6_seed at hS
  split at hS
  · exact ⟨Nat.le_of_ble_eq_true rfl, rn6_seed hS⟩
  · exact hS.elim
theorem ct6_drawn {l : Launch} : Ct l yX6_drawn cX6_drawn 1 (some .int) 0 S6_drawn := by
  refine Ct_of (T := fun Q => T6_drawn Q) (by decide) (cl6_drawn) ?_
  intro av h Q hS
  unfold S6_drawn at hS
  split at hS
  · exact ⟨Nat.le_of_ble_eq_true rfl, rn6_drawn hS⟩
  · exact hS.elim
theorem ct6_occasion {l : Launch} : Ct l yX6_occasion cX6_occasion 3 (some .int) 4 S6_occasion := by
  refine Ct_of (T := fun Q => T6_occasion Q S6_drawn S6_isOut S6_goesOn S6_thoseIn S6_size) (by decide) (cl6_occasion ct6_drawn ct6_isOut ct6_goesOn ct6_thoseIn ct6_size) ?_
  intro av h Q hS
  unfold S6_occasion at hS
  split at hS
  · exact ⟨Nat.le_of_ble_eq_true rfl, rn6_occasion hS⟩
  · exact hS.elim
theorem ct6_luck {l : Launch} : Ct l yX6_luck cX6_luck 6 (some .int) 5 S6_luck := by
  refine Ct_of (T := fun Q => T6_luck Q S6_isIn S6_copyRow S6_goesOn S6_thoseIn S6_size S6_occasion) (by decide) (cl6_luck ct6_isIn ct6_copyRow ct6_goesOn ct6_thoseIn ct6_size ct6_occasion) ?_
  intro av h Q hS
  unfold S6_luck at hS
  split at hS
  · exact ⟨Nat.le_of_ble_eq_true rfl, rn6_luck hS⟩
  · exact hS.elim
theorem ct6_keptOnes {l : Launch} : Ct l yX6_keptOnes cX6_keptOnes 3 (some .int) 3 S6_keptOnes := by
  refine Ct_of (T := fun Q => T6_keptOnes Q S6_isKept) (by decide) (cl6_keptOnes ct6_isKept) ?_
  intro av h Q hS
  unfold S6_keptOnes at hS
  split at hS
  · exact ⟨Nat.le_of_ble_eq_true rfl, rn6_keptOnes hS⟩
  · exact hS.elim
theorem ct6_graceOfAll {l : Launch} : Ct l yX6_graceOfAll cX6_graceOfAll 3 (some .int) 1 S6_graceOfAll := by
  refine Ct_of (T := fun Q => T6_graceOfAll Q S6_its) (by decide) (cl6_graceOfAll ct6_its) ?_
  intro av h Q hS
  unfold S6_graceOfAll at hS
  split at hS
  · exact ⟨Nat.le_of_ble_eq_true rfl, rn6_graceOfAll hS⟩
  · exact hS.elim
theorem ct6_crowd {l : Launch} : Ct l yX6_crowd cX6_crowd 5 (some .int) 2 S6_crowd := by
  refine Ct_of (T := fun Q => T6_crowd Q S6_thoseIn S6_size) (by decide) (cl6_crowd ct6_thoseIn ct6_size) ?_
  intro av h Q hS
  unfold S6_crowd at hS
  split at hS
  · exact ⟨Nat.le_of_ble_eq_true rfl, rn6_crowd hS⟩
  · exact hS.elim
theorem ct6_ritesOfAll {l : Launch} : Ct l yX6_ritesOfAll cX6_ritesOfAll 3 (some .int) 0 S6_ritesOfAll := by
  refine Ct_of (T := fun Q => T6_ritesOfAll Q) (by decide) (cl6_ritesOfAll) ?_
  intro av h Q hS
  unfold S6_ritesOfAll at hS
  split at hS
  · exact ⟨Nat.le_of_ble_eq_true rfl, rn6_ritesOfAll hS⟩
  · exact hS.elim
theorem ct6_state {l : Launch} : Ct l yX6_state cX6_state 2 (some .int) 4 S6_state := by
  refine Ct_of (T := fun Q => T6_state Q S6_thoseIn S6_keptOnes S6_graceOfAll S6_crowd S6_ritesOfAll) (by decide) (cl6_state ct6_thoseIn ct6_keptOnes ct6_graceOfAll ct6_crowd ct6_ritesOfAll) ?_
  intro av h Q hS
  unfold S6_state at hS
  split at hS
  · exact ⟨Nat.le_of_ble_eq_true rfl, rn6_state hS⟩
  · exact hS.elim
theorem ct6_where {l : Launch} : Ct l yX6_where cX6_where 4 (some .int) 5 S6_where := by
  refine Ct_of (T := fun Q => T6_where Q S6_isOne S6_isIn S6_copyRow S6_goesOnMany S6_its) (by decide) (cl6_where ct6_isOne ct6_isIn ct6_copyRow ct6_goesOnMany ct6_its) ?_
  intro av h Q hS
  unfold S6_where at hS
  split at hS
  · exact ⟨Nat.le_of_ble_eq_true rfl, rn6_where hS⟩
  · exact hS.elim
theorem ct6_passesBy {l : Launch} : Ct l yX6_passesBy cX6_passesBy 5 (some .int) 4 S6_passesBy := by
  refine Ct_of (T := fun Q => T6_passesBy Q S6_copyRow S6_its S6_goesOn) (by decide) (cl6_passesBy ct6_copyRow ct6_its ct6_goesOn) ?_
  intro av h Q hS
  unfold S6_passesBy at hS
  split at hS
  · exact ⟨Nat.le_of_ble_eq_true rfl, rn6_passesBy hS⟩
  · exact hS.elim
theorem ct6_orNone {l : Launch} : Ct l yX6_orNone cX6_orNone 1 (some .int) 0 S6_orNone := by
  refine Ct_of (T := fun Q => T6_orNone Q) (by decide) (cl6_orNone) ?_
  intro av h Q hS
  unfold S6_orNone at hS
  split at hS
  · exact ⟨Nat.le_of_ble_eq_true rfl, rn6_orNone hS⟩
  · exact hS.elim
theorem ct6_leaves {l : Launch} : Ct l yX6_leaves cX6_leaves 2 (some .int) 5 S6_leaves := by
  refine Ct_of (T := fun Q => T6_leaves Q S6_isOne S6_passesBy S6_orNone) (by decide) (cl6_leaves ct6_isOne ct6_passesBy ct6_orNone) ?_
  intro av h Q hS
  unfold S6_leaves at hS
  split at hS
  · exact ⟨Nat.le_of_ble_eq_true rfl, rn6_leaves hS⟩
  · exact hS.elim
theorem ct6_passes {l : Launch} : Ct l yX6_passes cX6_passes 3 (some .int) 5 S6_passes := by
  refine Ct_of (T := fun Q => T6_passes Q S6_isOne S6_isIn S6_passesBy S6_orNone) (by decide) (cl6_passes ct6_isOne ct6_isIn ct6_passesBy ct6_orNone) ?_
  intro av h Q hS
  unfold S6_passes at hS
  split at hS
  · exact ⟨Nat.le_of_ble_eq_true rfl, rn6_passes hS⟩
  · exact hS.elim
theorem ct6_empty {l : Launch} : Ct l yX6_empty cX6_empty 2 (some .int) 4 S6_empty := by
  refine Ct_of (T := fun Q => T6_empty Q S6_copyRow S6_thoseIn S6_size S6_goesOn S6_orNone) (by decide) (cl6_empty ct6_copyRow ct6_thoseIn ct6_size ct6_goesOn ct6_orNone) ?_
  intro av h Q hS
  unfold S6_empty at hS
  split at hS
  · exact ⟨Nat.le_of_ble_eq_true rfl, rn6_empty hS⟩
  · exact hS.elim
theorem ct6_knot {l : Launch} : Ct l yX6_knot cX6_knot 4 (some .int) 1 S6_knot := by
  refine Ct_of (T := fun Q => T6_knot Q S6_isOne S6_its) (by decide) (cl6_knot ct6_isOne ct6_its) ?_
  intro av h Q hS
  unfold S6_knot at hS
  split at hS
  · exact ⟨Nat.le_of_ble_eq_true rfl, rn6_knot hS⟩
  · exact hS.elim
theorem ct6_isShort {l : Launch} : Ct l yX6_isShort cX6_isShort 1 (some .boolean) 1 S6_isShort := by
  refine Ct_of (T := fun Q => T6_isShort Q S6_isIn) (by decide) (cl6_isShort ct6_isIn) ?_
  intro av h Q hS
  unfold S6_isShort at hS
  split at hS
  · exact ⟨Nat.le_of_ble_eq_true rfl, rn6_isShort hS⟩
  · exact hS.elim
theorem ct6_rudeFor {l : Launch} : Ct l yX6_rudeFor cX6_rudeFor 6 (some .int) 5 S6_rudeFor := by
  refine Ct_of (T := fun Q => T6_rudeFor Q S6_isOne S6_isShort S6_its S6_size S6_passesBy) (by decide) (cl6_rudeFor ct6_isOne ct6_isShort ct6_its ct6_size ct6_passesBy) ?_
  intro av h Q hS
  unfold S6_rudeFor at hS
  split at hS
  · exact ⟨Nat.le_of_ble_eq_true rfl, rn6_rudeFor hS⟩
  · exact hS.elim
theorem ct6_graceFor {l : Launch} : Ct l yX6_graceFor cX6_graceFor 7 (some .int) 5 S6_graceFor := by
  refine Ct_of (T := fun Q => T6_graceFor Q S6_isOne S6_isShort S6_passesBy) (by decide) (cl6_graceFor ct6_isOne ct6_isShort ct6_passesBy) ?_
  intro av h Q hS
  unfold S6_graceFor at hS
  split at hS
  · exact ⟨Nat.le_of_ble_eq_true rfl, rn6_graceFor hS⟩
  · exact hS.elim
theorem ct6_kindFor {l : Launch} : Ct l yX6_kindFor cX6_kindFor 8 (some .int) 5 S6_kindFor := by
  refine Ct_of (T := fun Q => T6_kindFor Q S6_isOne S6_passesBy) (by decide) (cl6_kindFor ct6_isOne ct6_passesBy) ?_
  intro av h Q hS
  unfold S6_kindFor at hS
  split at hS
  · exact ⟨Nat.le_of_ble_eq_true rfl, rn6_kindFor hS⟩
  · exact hS.elim
theorem ct6_riteFor {l : Launch} : Ct l yX6_riteFor cX6_riteFor 7 (some .int) 5 S6_riteFor := by
  refine Ct_of (T := fun Q => T6_riteFor Q S6_isOne S6_passesBy S6_becomes) (by decide) (cl6_riteFor ct6_isOne ct6_passesBy ct6_becomes) ?_
  intro av h Q hS
  unfold S6_riteFor at hS
  split at hS
  · exact ⟨Nat.le_of_ble_eq_true rfl, rn6_riteFor hS⟩
  · exact hS.elim
theorem ct6_hostFor {l : Launch} : Ct l yX6_hostFor cX6_hostFor 8 (some .int) 5 S6_hostFor := by
  refine Ct_of (T := fun Q => T6_hostFor Q S6_isOne S6_passesBy) (by decide) (cl6_hostFor ct6_isOne ct6_passesBy) ?_
  intro av h Q hS
  unfold S6_hostFor at hS
  split at hS
  · exact ⟨Nat.le_of_ble_eq_true rfl, rn6_hostFor hS⟩
  · exact hS.elim
theorem ct6_product {l : Launch} : Ct l yX6_product cX6_product 4 (some .long) 0 S6_product := by
  refine Ct_of (T := fun Q => T6_product Q) (by decide) (cl6_product) ?_
  intro av h Q hS
  unfold S6_product at hS
  split at hS
  · exact ⟨Nat.le_of_ble_eq_true rfl, rn6_product hS⟩
  · exact hS.elim
theorem ct6_partOf {l : Launch} : Ct l yX6_partOf cX6_partOf 11 (some .long) 0 S6_partOf := by
  refine Ct_of (T := fun Q => T6_partOf Q) (by decide) (cl6_partOf) ?_
  intro av h Q hS
  unfold S6_partOf at hS
  split at hS
  · exact ⟨Nat.le_of_ble_eq_true rfl, rn6_partOf hS⟩
  · exact hS.elim
theorem ct6_isTold {l : Launch} : Ct l yX6_isTold cX6_isTold 5 (some .boolean) 4 S6_isTold := by
  refine Ct_of (T := fun Q => T6_isTold Q S6_copyRow S6_goesOn S6_its) (by decide) (cl6_isTold ct6_copyRow ct6_goesOn ct6_its) ?_
  intro av h Q hS
  unfold S6_isTold at hS
  split at hS
  · exact ⟨Nat.le_of_ble_eq_true rfl, rn6_isTold hS⟩
  · exact hS.elim
theorem ct6_isSheet {l : Launch} : Ct l yX6_isSheet cX6_isSheet 1 (some .boolean) 1 S6_isSheet := by
  refine Ct_of (T := fun Q => T6_isSheet Q S6_isIn) (by decide) (cl6_isSheet ct6_isIn) ?_
  intro av h Q hS
  unfold S6_isSheet at hS
  split at hS
  · exact ⟨Nat.le_of_ble_eq_true rfl, rn6_isSheet hS⟩
  · exact hS.elim
theorem ct6_fits {l : Launch} : Ct l yX6_fits cX6_fits 10 (some .int) 5 S6_fits := by
  refine Ct_of (T := fun Q => T6_fits Q S6_isSheet S6_isOne S6_isIn S6_isTold) (by decide) (cl6_fits ct6_isSheet ct6_isOne ct6_isIn ct6_isTold) ?_
  intro av h Q hS
  unfold S6_fits at hS
  split at hS
  · exact ⟨Nat.le_of_ble_eq_true rfl, rn6_fits hS⟩
  · exact hS.elim
theorem ct6_odds {l : Launch} : Ct l yX6_odds cX6_odds 9 (some .long) 1 S6_odds := by
  refine Ct_of (T := fun Q => T6_odds Q S6_isIn S6_product S6_partOf) (by decide) (cl6_odds ct6_isIn ct6_product ct6_partOf) ?_
  intro av h Q hS
  unfold S6_odds at hS
  split at hS
  · exact ⟨Nat.le_of_ble_eq_true rfl, rn6_odds hS⟩
  · exact hS.elim
theorem ct6_hope {l : Launch} : Ct l yX6_hope cX6_hope 3 (some .long) 1 S6_hope := by
  refine Ct_of (T := fun Q => T6_hope Q S6_isIn S6_partOf) (by decide) (cl6_hope ct6_isIn ct6_partOf) ?_
  intro av h Q hS
  unfold S6_hope at hS
  split at hS
  · exact ⟨Nat.le_of_ble_eq_true rfl, rn6_hope hS⟩
  · exact hS.elim
theorem ct6_prove {l : Launch} : Ct l yX6_prove cX6_prove 4 (some .int) 4 S6_prove := by
  refine Ct_of (T := fun Q => T6_prove Q S6_isOne S6_isIn S6_copyRow S6_goesOn S6_its S6_thoseIn) (by decide) (cl6_prove ct6_isOne ct6_isIn ct6_copyRow ct6_goesOn ct6_its ct6_thoseIn) ?_
  intro av h Q hS
  unfold S6_prove at hS
  split at hS
  · exact ⟨Nat.le_of_ble_eq_true rfl, rn6_prove hS⟩
  · exact hS.elim
theorem ct6_isRow {l : Launch} : Ct l yX6_isRow cX6_isRow 3 (some .boolean) 1 S6_isRow := by
  refine Ct_of (T := fun Q => T6_isRow Q S6_isIn) (by decide) (cl6_isRow ct6_isIn) ?_
  intro av h Q hS
  unfold S6_isRow at hS
  split at hS
  · exact ⟨Nat.le_of_ble_eq_true rfl, rn6_isRow hS⟩
  · exact hS.elim
theorem ct6_row {l : Launch} : Ct l yX6_row cX6_row 3 (some .int) 2 S6_row := by
  refine Ct_of (T := fun Q => T6_row Q S6_isRow) (by decide) (cl6_row ct6_isRow) ?_
  intro av h Q hS
  unfold S6_row at hS
  split at hS
  · exact ⟨Nat.le_of_ble_eq_true rfl, rn6_row hS⟩
  · exact hS.elim
theorem ct6_alterRow {l : Launch} : Ct l yX6_alterRow cX6_alterRow 5 (some .int) 2 S6_alterRow := by
  refine Ct_of (T := fun Q => T6_alterRow Q S6_isRow) (by decide) (cl6_alterRow ct6_isRow) ?_
  intro av h Q hS
  unfold S6_alterRow at hS
  split at hS
  · exact ⟨Nat.le_of_ble_eq_true rfl, rn6_alterRow hS⟩
  · exact hS.elim
theorem ct6_judge {l : Launch} : Ct l yX6_judge cX6_judge 4 (some .int) 4 S6_judge := by
  refine Ct_of (T := fun Q => T6_judge Q S6_isOne S6_copyRow S6_goesOn S6_its S6_thoseIn) (by decide) (cl6_judge ct6_isOne ct6_copyRow ct6_goesOn ct6_its ct6_thoseIn) ?_
  intro av h Q hS
  unfold S6_judge at hS
  split at hS
  · exact ⟨Nat.le_of_ble_eq_true rfl, rn6_judge hS⟩
  · exact hS.elim
theorem ct6_isShelf {l : Launch} : Ct l yX6_isShelf cX6_isShelf 1 (some .boolean) 1 S6_isShelf := by
  refine Ct_of (T := fun Q => T6_isShelf Q S6_isIn) (by decide) (cl6_isShelf ct6_isIn) ?_
  intro av h Q hS
  unfold S6_isShelf at hS
  split at hS
  · exact ⟨Nat.le_of_ble_eq_true rfl, rn6_isShelf hS⟩
  · exact hS.elim
theorem ct6_sheet {l : Launch} : Ct l yX6_sheet cX6_sheet 5 (some .int) 2 S6_sheet := by
  refine Ct_of (T := fun Q => T6_sheet Q S6_isSheet S6_isIn) (by decide) (cl6_sheet ct6_isSheet ct6_isIn) ?_
  intro av h Q hS
  unfold S6_sheet at hS
  split at hS
  · exact ⟨Nat.le_of_ble_eq_true rfl, rn6_sheet hS⟩
  · exact hS.elim
theorem ct6_put {l : Launch} : Ct l yX6_put cX6_put 4 (some .int) 2 S6_put := by
  refine Ct_of (T := fun Q => T6_put Q S6_isSheet S6_isIn) (by decide) (cl6_put ct6_isSheet ct6_isIn) ?_
  intro av h Q hS
  unfold S6_put at hS
  split at hS
  · exact ⟨Nat.le_of_ble_eq_true rfl, rn6_put hS⟩
  · exact hS.elim
theorem ct6_lacks {l : Launch} : Ct l yX6_lacks cX6_lacks 3 (some .int) 0 S6_lacks := by
  refine Ct_of (T := fun Q => T6_lacks Q) (by decide) (cl6_lacks) ?_
  intro av h Q hS
  unfold S6_lacks at hS
  split at hS
  · exact ⟨Nat.le_of_ble_eq_true rfl, rn6_lacks hS⟩
  · exact hS.elim
theorem ct6_item {l : Launch} : Ct l yX6_item cX6_item 4 (some .int) 2 S6_item := by
  refine Ct_of (T := fun Q => T6_item Q S6_isSheet S6_isIn S6_lacks) (by decide) (cl6_item ct6_isSheet ct6_isIn ct6_lacks) ?_
  intro av h Q hS
  unfold S6_item at hS
  split at hS
  · exact ⟨Nat.le_of_ble_eq_true rfl, rn6_item hS⟩
  · exact hS.elim
theorem ct6_minds {l : Launch} : Ct l yX6_minds cX6_minds 6 (some .int) 2 S6_minds := by
  refine Ct_of (T := fun Q => T6_minds Q S6_isSheet S6_isOne S6_isIn S6_lacks S6_within) (by decide) (cl6_minds ct6_isSheet ct6_isOne ct6_isIn ct6_lacks ct6_within) ?_
  intro av h Q hS
  unfold S6_minds at hS
  split at hS
  · exact ⟨Nat.le_of_ble_eq_true rfl, rn6_minds hS⟩
  · exact hS.elim
theorem ct6_shelf {l : Launch} : Ct l yX6_shelf cX6_shelf 5 (some .int) 2 S6_shelf := by
  refine Ct_of (T := fun Q => T6_shelf Q S6_isShelf S6_isIn S6_isOne S6_isSheet) (by decide) (cl6_shelf ct6_isShelf ct6_isIn ct6_isOne ct6_isSheet) ?_
  intro av h Q hS
  unfold S6_shelf at hS
  split at hS
  · exact ⟨Nat.le_of_ble_eq_true rfl, rn6_shelf hS⟩
  · exact hS.elim
theorem ct6_heldOn {l : Launch} : Ct l yX6_heldOn cX6_heldOn 2 (some .int) 1 S6_heldOn := by
  refine Ct_of (T := fun Q => T6_heldOn Q S6_isOne) (by decide) (cl6_heldOn ct6_isOne) ?_
  intro av h Q hS
  unfold S6_heldOn at hS
  split at hS
  · exact ⟨Nat.le_of_ble_eq_true rfl, rn6_heldOn hS⟩
  · exact hS.elim
theorem ct6_taken {l : Launch} : Ct l yX6_taken cX6_taken 4 (some .int) 2 S6_taken := by
  refine Ct_of (T := fun Q => T6_taken Q S6_isShelf S6_isIn S6_heldOn S6_its S6_isUnder) (by decide) (cl6_taken ct6_isShelf ct6_isIn ct6_heldOn ct6_its ct6_isUnder) ?_
  intro av h Q hS
  unfold S6_taken at hS
  split at hS
  · exact ⟨Nat.le_of_ble_eq_true rfl, rn6_taken hS⟩
  · exact hS.elim
theorem ct6_runs {l : Launch} : Ct l yX6_runs cX6_runs 2 none 0 S6_runs := by
  refine Ct_of (T := fun Q => T6_runs Q) (by decide) (cl6_runs) ?_
  intro av h Q hS
  unfold S6_runs at hS
  split at hS
  · exact ⟨Nat.le_of_ble_eq_true rfl, rn6_runs hS⟩
  · exact hS.elim
theorem ct6_bowsPlain {l : Launch} : Ct l yX6_bowsPlain cX6_bowsPlain 2 (some .int) 1 S6_bowsPlain := by
  refine Ct_of (T := fun Q => T6_bowsPlain Q S6_runs) (by decide) (cl6_bowsPlain ct6_runs) ?_
  intro av h Q hS
  unfold S6_bowsPlain at hS
  split at hS
  · exact ⟨Nat.le_of_ble_eq_true rfl, rn6_bowsPlain hS⟩
  · exact hS.elim
theorem ct6_bowsOfDuellist {l : Launch} : Ct l yX6_bowsOfDuellist cX6_bowsOfDuellist 2 (some .int) 2 S6_bowsOfDuellist := by
  refine Ct_of (T := fun Q => T6_bowsOfDuellist Q S6_runs S6_bowsPlain) (by decide) (cl6_bowsOfDuellist ct6_runs ct6_bowsPlain) ?_
  intro av h Q hS
  unfold S6_bowsOfDuellist at hS
  split at hS
  · exact ⟨Nat.le_of_ble_eq_true rfl, rn6_bowsOfDuellist hS⟩
  · exact hS.elim
theorem ct6_bows {l : Launch} : Ct l yX6_bows cX6_bows 2 (some .int) 3 S6_bows := by
  refine Ct_of (T := fun Q => T6_bows Q S6_bowsOfDuellist S6_runs S6_bowsPlain) (by decide) (cl6_bows ct6_bowsOfDuellist ct6_runs ct6_bowsPlain) ?_
  intro av h Q hS
  unfold S6_bows at hS
  split at hS
  · exact ⟨Nat.le_of_ble_eq_true rfl, rn6_bows hS⟩
  · exact hS.elim
theorem ct6_thanksPlain {l : Launch} : Ct l yX6_thanksPlain cX6_thanksPlain 2 (some .int) 4 S6_thanksPlain := by
  refine Ct_of (T := fun Q => T6_thanksPlain Q S6_runs S6_bows) (by decide) (cl6_thanksPlain ct6_runs ct6_bows) ?_
  intro av h Q hS
  unfold S6_thanksPlain at hS
  split at hS
  · exact ⟨Nat.le_of_ble_eq_true rfl, rn6_thanksPlain hS⟩
  · exact hS.elim
theorem ct6_thanks {l : Launch} : Ct l yX6_thanks cX6_thanks 3 (some .int) 5 S6_thanks := by
  refine Ct_of (T := fun Q => T6_thanks Q S6_runs S6_thanksPlain S6_bows) (by decide) (cl6_thanks ct6_runs ct6_thanksPlain ct6_bows) ?_
  intro av h Q hS
  unfold S6_thanks at hS
  split at hS
  · exact ⟨Nat.le_of_ble_eq_true rfl, rn6_thanks hS⟩
  · exact hS.elim
theorem ct6_partsPlain {l : Launch} : Ct l yX6_partsPlain cX6_partsPlain 2 (some .int) 1 S6_partsPlain := by
  refine Ct_of (T := fun Q => T6_partsPlain Q S6_runs) (by decide) (cl6_partsPlain ct6_runs) ?_
  intro av h Q hS
  unfold S6_partsPlain at hS
  split at hS
  · exact ⟨Nat.le_of_ble_eq_true rfl, rn6_partsPlain hS⟩
  · exact hS.elim
theorem ct6_parts {l : Launch} : Ct l yX6_parts cX6_parts 3 (some .int) 4 S6_parts := by
  refine Ct_of (T := fun Q => T6_parts Q S6_runs S6_partsPlain S6_bows) (by decide) (cl6_parts ct6_runs ct6_partsPlain ct6_bows) ?_
  intro av h Q hS
  unfold S6_parts at hS
  split at hS
  · exact ⟨Nat.le_of_ble_eq_true rfl, rn6_parts hS⟩
  · exact hS.elim
theorem ct6_leavesPlain {l : Launch} : Ct l yX6_leavesPlain cX6_leavesPlain 2 (some .int) 6 S6_leavesPlain := by
  refine Ct_of (T := fun Q => T6_leavesPlain Q S6_runs S6_thanks) (by decide) (cl6_leavesPlain ct6_runs ct6_thanks) ?_
  intro av h Q hS
  unfold S6_leavesPlain at hS
  split at hS
  · exact ⟨Nat.le_of_ble_eq_true rfl, rn6_leavesPlain hS⟩
  · exact hS.elim
theorem ct6_leavesBy {l : Launch} : Ct l yX6_leavesBy cX6_leavesBy 3 (some .int) 7 S6_leavesBy := by
  refine Ct_of (T := fun Q => T6_leavesBy Q S6_runs S6_leavesPlain S6_parts) (by decide) (cl6_leavesBy ct6_runs ct6_leavesPlain ct6_parts) ?_
  intro av h Q hS
  unfold S6_leavesBy at hS
  split at hS
  · exact ⟨Nat.le_of_ble_eq_true rfl, rn6_leavesBy hS⟩
  · exact hS.elim
theorem ct6_act {l : Launch} : Ct l yX6_act cX6_act 5 (some .int) 8 S6_act := by
  refine Ct_of (T := fun Q => T6_act Q S6_isShelf S6_isIn S6_heldOn S6_its S6_bows S6_thanks S6_parts S6_leavesBy) (by decide) (cl6_act ct6_isShelf ct6_isIn ct6_heldOn ct6_its ct6_bows ct6_thanks ct6_parts ct6_leavesBy) ?_
  intro av h Q hS
  unfold S6_act at hS
  split at hS
  · exact ⟨Nat.le_of_ble_eq_true rfl, rn6_act hS⟩
  · exact hS.elim
theorem ct6_trace {l : Launch} : Ct l yX6_trace cX6_trace 2 (some .int) 1 S6_trace := by
  refine Ct_of (T := fun Q => T6_trace Q S6_isIn) (by decide) (cl6_trace ct6_isIn) ?_
  intro av h Q hS
  unfold S6_trace at hS
  split at hS
  · exact ⟨Nat.le_of_ble_eq_true rfl, rn6_trace hS⟩
  · exact hS.elim
theorem ct6_many {l : Launch} : Ct l yX6_many cX6_many 4 (some .int) 4 S6_many := by
  refine Ct_of (T := fun Q => T6_many Q S6_thoseIn S6_size S6_its S6_keptOnes) (by decide) (cl6_many ct6_thoseIn ct6_size ct6_its ct6_keptOnes) ?_
  intro av h Q hS
  unfold S6_many at hS
  split at hS
  · exact ⟨Nat.le_of_ble_eq_true rfl, rn6_many hS⟩
  · exact hS.elim
theorem ct6_keep {l : Launch} : Ct l yX6_keep cX6_keep 2 (some .int) 0 S6_keep := by
  refine Ct_of (T := fun Q => T6_keep Q) (by decide) (cl6_keep) ?_
  intro av h Q hS
  unfold S6_keep at hS
  split at hS
  · exact ⟨Nat.le_of_ble_eq_true rfl, rn6_keep hS⟩
  · exact hS.elim
theorem ct6_again {l : Launch} : Ct l yX6_again cX6_again 2 (some .int) 0 S6_again := by
  refine Ct_of (T := fun Q => T6_again Q) (by decide) (cl6_again) ?_
  intro av h Q hS
  unfold S6_again at hS
  split at hS
  · exact ⟨Nat.le_of_ble_eq_true rfl, rn6_again hS⟩
  · exact hS.elim
