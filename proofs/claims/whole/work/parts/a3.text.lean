/-! an item, the loops of both, gaol -/
def D6_itemHere : List Nat := [100]
section ITS
variable {Q : Po} {m : Nat} {K : St → Prop} {L : Lo} {s : List Value} {h : Hp} {S6_kindHere S6_lawHere S6_inmateHere S6_nextToken S6_numberTo S6_isFour S6_riteHere S6_waitHere S6_needs S6_byteAt : Sp}
theorem y6_itemHere_0 : wpn (T6_itemHere Q S6_kindHere S6_lawHere S6_inmateHere S6_nextToken S6_numberTo S6_isFour S6_riteHere S6_waitHere S6_needs S6_byteAt) D6_itemHere (m + 1) K (0, L, s, h) = i_ald 0 1 (wpn (T6_itemHere Q S6_kindHere S6_lawHere S6_inmateHere S6_nextToken S6_numberTo S6_isFour S6_riteHere S6_waitHere S6_needs S6_byteAt) D6_itemHere m K) L s h := rfl
theorem y6_itemHere_1 : wpn (T6_itemHere Q S6_kindHere S6_lawHere S6_inmateHere S6_nextToken S6_numberTo S6_isFour S6_riteHere S6_waitHere S6_needs S6_byteAt) D6_itemHere (m + 1) K (1, L, s, h) = i_cV 0 6 S6_kindHere 4 (wpn (T6_itemHere Q S6_kindHere S6_lawHere S6_inmateHere S6_nextToken S6_numberTo S6_isFour S6_riteHere S6_waitHere S6_needs S6_byteAt) D6_itemHere m K) L s h := rfl
theorem y6_itemHere_4 : wpn (T6_itemHere Q S6_kindHere S6_lawHere S6_inmateHere S6_nextToken S6_numberTo S6_isFour S6_riteHere S6_waitHere S6_needs S6_byteAt) D6_itemHere (m + 1) K (4, L, s, h) = i_ist 1 5 (wpn (T6_itemHere Q S6_kindHere S6_lawHere S6_inmateHere S6_nextToken S6_numberTo S6_isFour S6_riteHere S6_waitHere S6_needs S6_byteAt) D6_itemHere m K) L s h := rfl
theorem y6_itemHere_5 : wpn (T6_itemHere Q S6_kindHere S6_lawHere S6_inmateHere S6_nextToken S6_numberTo S6_isFour S6_riteHere S6_waitHere S6_needs S6_byteAt) D6_itemHere (m + 1) K (5, L, s, h) = i_ald 0 6 (wpn (T6_itemHere Q S6_kindHere S6_lawHere S6_inmateHere S6_nextToken S6_numberTo S6_isFour S6_riteHere S6_waitHere S6_needs S6_byteAt) D6_itemHere m K) L s h := rfl
theorem y6_itemHere_6 : wpn (T6_itemHere Q S6_kindHere S6_lawHere S6_inmateHere S6_nextToken S6_numberTo S6_isFour S6_riteHere S6_waitHere S6_needs S6_byteAt) D6_itemHere (m + 1) K (6, L, s, h) = i_cV 0 6 S6_lawHere 9 (wpn (T6_itemHere Q S6_kindHere S6_lawHere S6_inmateHere S6_nextToken S6_numberTo S6_isFour S6_riteHere S6_waitHere S6_needs S6_byteAt) D6_itemHere m K) L s h := rfl
theorem y6_itemHere_9 : wpn (T6_itemHere Q S6_kindHere S6_lawHere S6_inmateHere S6_nextToken S6_numberTo S6_isFour S6_riteHere S6_waitHere S6_needs S6_byteAt) D6_itemHere (m + 1) K (9, L, s, h) = i_ist 2 10 (wpn (T6_itemHere Q S6_kindHere S6_lawHere S6_inmateHere S6_nextToken S6_numberTo S6_isFour S6_riteHere S6_waitHere S6_needs S6_byteAt) D6_itemHere m K) L s h := rfl
theorem y6_itemHere_10 : wpn (T6_itemHere Q S6_kindHere S6_lawHere S6_inmateHere S6_nextToken S6_numberTo S6_isFour S6_riteHere S6_waitHere S6_needs S6_byteAt) D6_itemHere (m + 1) K (10, L, s, h) = i_ild 1 11 (wpn (T6_itemHere Q S6_kindHere S6_lawHere S6_inmateHere S6_nextToken S6_numberTo S6_isFour S6_riteHere S6_waitHere S6_needs S6_byteAt) D6_itemHere m K) L s h := rfl
theorem y6_itemHere_11 : wpn (T6_itemHere Q S6_kindHere S6_lawHere S6_inmateHere S6_nextToken S6_numberTo S6_isFour S6_riteHere S6_waitHere S6_needs S6_byteAt) D6_itemHere (m + 1) K (11, L, s, h) = i_if_lt 22 14 (wpn (T6_itemHere Q S6_kindHere S6_lawHere S6_inmateHere S6_nextToken S6_numberTo S6_isFour S6_riteHere S6_waitHere S6_needs S6_byteAt) D6_itemHere m K) L s h := rfl
theorem y6_itemHere_14 : wpn (T6_itemHere Q S6_kindHere S6_lawHere S6_inmateHere S6_nextToken S6_numberTo S6_isFour S6_riteHere S6_waitHere S6_needs S6_byteAt) D6_itemHere (m + 1) K (14, L, s, h) = i_ald 0 15 (wpn (T6_itemHere Q S6_kindHere S6_lawHere S6_inmateHere S6_nextToken S6_numberTo S6_isFour S6_riteHere S6_waitHere S6_needs S6_byteAt) D6_itemHere m K) L s h := rfl
theorem y6_itemHere_15 : wpn (T6_itemHere Q S6_kindHere S6_lawHere S6_inmateHere S6_nextToken S6_numberTo S6_isFour S6_riteHere S6_waitHere S6_needs S6_byteAt) D6_itemHere (m + 1) K (15, L, s, h) = i_ild 1 16 (wpn (T6_itemHere Q S6_kindHere S6_lawHere S6_inmateHere S6_nextToken S6_numberTo S6_isFour S6_riteHere S6_waitHere S6_needs S6_byteAt) D6_itemHere m K) L s h := rfl
theorem y6_itemHere_16 : wpn (T6_itemHere Q S6_kindHere S6_lawHere S6_inmateHere S6_nextToken S6_numberTo S6_isFour S6_riteHere S6_waitHere S6_needs S6_byteAt) D6_itemHere (m + 1) K (16, L, s, h) = i_cV 1 6 S6_inmateHere 19 (wpn (T6_itemHere Q S6_kindHere S6_lawHere S6_inmateHere S6_nextToken S6_numberTo S6_isFour S6_riteHere S6_waitHere S6_needs S6_byteAt) D6_itemHere m K) L s h := rfl
theorem y6_itemHere_19 : wpn (T6_itemHere Q S6_kindHere S6_lawHere S6_inmateHere S6_nextToken S6_numberTo S6_isFour S6_riteHere S6_waitHere S6_needs S6_byteAt) D6_itemHere (m + 1) K (19, L, s, h) = i_goto 100 (wpn (T6_itemHere Q S6_kindHere S6_lawHere S6_inmateHere S6_nextToken S6_numberTo S6_isFour S6_riteHere S6_waitHere S6_needs S6_byteAt) D6_itemHere m K) L s h := rfl
theorem y6_itemHere_22 : wpn (T6_itemHere Q S6_kindHere S6_lawHere S6_inmateHere S6_nextToken S6_numberTo S6_isFour S6_riteHere S6_waitHere S6_needs S6_byteAt) D6_itemHere (m + 1) K (22, L, s, h) = i_ild 2 23 (wpn (T6_itemHere Q S6_kindHere S6_lawHere S6_inmateHere S6_nextToken S6_numberTo S6_isFour S6_riteHere S6_waitHere S6_needs S6_byteAt) D6_itemHere m K) L s h := rfl
theorem y6_itemHere_23 : wpn (T6_itemHere Q S6_kindHere S6_lawHere S6_inmateHere S6_nextToken S6_numberTo S6_isFour S6_riteHere S6_waitHere S6_needs S6_byteAt) D6_itemHere (m + 1) K (23, L, s, h) = i_if_lt 51 26 (wpn (T6_itemHere Q S6_kindHere S6_lawHere S6_inmateHere S6_nextToken S6_numberTo S6_isFour S6_riteHere S6_waitHere S6_needs S6_byteAt) D6_itemHere m K) L s h := rfl
theorem y6_itemHere_26 : wpn (T6_itemHere Q S6_kindHere S6_lawHere S6_inmateHere S6_nextToken S6_numberTo S6_isFour S6_riteHere S6_waitHere S6_needs S6_byteAt) D6_itemHere (m + 1) K (26, L, s, h) = i_ald 0 27 (wpn (T6_itemHere Q S6_kindHere S6_lawHere S6_inmateHere S6_nextToken S6_numberTo S6_isFour S6_riteHere S6_waitHere S6_needs S6_byteAt) D6_itemHere m K) L s h := rfl
theorem y6_itemHere_27 : wpn (T6_itemHere Q S6_kindHere S6_lawHere S6_inmateHere S6_nextToken S6_numberTo S6_isFour S6_riteHere S6_waitHere S6_needs S6_byteAt) D6_itemHere (m + 1) K (27, L, s, h) = i_cV 0 6 S6_nextToken 30 (wpn (T6_itemHere Q S6_kindHere S6_lawHere S6_inmateHere S6_nextToken S6_numberTo S6_isFour S6_riteHere S6_waitHere S6_needs S6_byteAt) D6_itemHere m K) L s h := rfl
theorem y6_itemHere_30 : wpn (T6_itemHere Q S6_kindHere S6_lawHere S6_inmateHere S6_nextToken S6_numberTo S6_isFour S6_riteHere S6_waitHere S6_needs S6_byteAt) D6_itemHere (m + 1) K (30, L, s, h) = i_ald 0 31 (wpn (T6_itemHere Q S6_kindHere S6_lawHere S6_inmateHere S6_nextToken S6_numberTo S6_isFour S6_riteHere S6_waitHere S6_needs S6_byteAt) D6_itemHere m K) L s h := rfl
theorem y6_itemHere_31 : wpn (T6_itemHere Q S6_kindHere S6_lawHere S6_inmateHere S6_nextToken S6_numberTo S6_isFour S6_riteHere S6_waitHere S6_needs S6_byteAt) D6_itemHere (m + 1) K (31, L, s, h) = i_ild 2 32 (wpn (T6_itemHere Q S6_kindHere S6_lawHere S6_inmateHere S6_nextToken S6_numberTo S6_isFour S6_riteHere S6_waitHere S6_needs S6_byteAt) D6_itemHere m K) L s h := rfl
theorem y6_itemHere_32 : wpn (T6_itemHere Q S6_kindHere S6_lawHere S6_inmateHere S6_nextToken S6_numberTo S6_isFour S6_riteHere S6_waitHere S6_needs S6_byteAt) D6_itemHere (m + 1) K (32, L, s, h) = i_ild 2 33 (wpn (T6_itemHere Q S6_kindHere S6_lawHere S6_inmateHere S6_nextToken S6_numberTo S6_isFour S6_riteHere S6_waitHere S6_needs S6_byteAt) D6_itemHere m K) L s h := rfl
theorem y6_itemHere_33 : wpn (T6_itemHere Q S6_kindHere S6_lawHere S6_inmateHere S6_nextToken S6_numberTo S6_isFour S6_riteHere S6_waitHere S6_needs S6_byteAt) D6_itemHere (m + 1) K (33, L, s, h) = i_ic 6 35 (wpn (T6_itemHere Q S6_kindHere S6_lawHere S6_inmateHere S6_nextToken S6_numberTo S6_isFour S6_riteHere S6_waitHere S6_needs S6_byteAt) D6_itemHere m K) L s h := rfl
theorem y6_itemHere_35 : wpn (T6_itemHere Q S6_kindHere S6_lawHere S6_inmateHere S6_nextToken S6_numberTo S6_isFour S6_riteHere S6_waitHere S6_needs S6_byteAt) D6_itemHere (m + 1) K (35, L, s, h) = i_ic_ne 43 38 (wpn (T6_itemHere Q S6_kindHere S6_lawHere S6_inmateHere S6_nextToken S6_numberTo S6_isFour S6_riteHere S6_waitHere S6_needs S6_byteAt) D6_itemHere m K) L s h := rfl
theorem y6_itemHere_38 : wpn (T6_itemHere Q S6_kindHere S6_lawHere S6_inmateHere S6_nextToken S6_numberTo S6_isFour S6_riteHere S6_waitHere S6_needs S6_byteAt) D6_itemHere (m + 1) K (38, L, s, h) = i_ic 99 40 (wpn (T6_itemHere Q S6_kindHere S6_lawHere S6_inmateHere S6_nextToken S6_numberTo S6_isFour S6_riteHere S6_waitHere S6_needs S6_byteAt) D6_itemHere m K) L s h := rfl
theorem y6_itemHere_40 : wpn (T6_itemHere Q S6_kindHere S6_lawHere S6_inmateHere S6_nextToken S6_numberTo S6_isFour S6_riteHere S6_waitHere S6_needs S6_byteAt) D6_itemHere (m + 1) K (40, L, s, h) = i_goto 45 (wpn (T6_itemHere Q S6_kindHere S6_lawHere S6_inmateHere S6_nextToken S6_numberTo S6_isFour S6_riteHere S6_waitHere S6_needs S6_byteAt) D6_itemHere m K) L s h := rfl
theorem y6_itemHere_43 : wpn (T6_itemHere Q S6_kindHere S6_lawHere S6_inmateHere S6_nextToken S6_numberTo S6_isFour S6_riteHere S6_waitHere S6_needs S6_byteAt) D6_itemHere (m + 1) K (43, L, s, h) = i_ic 9 45 (wpn (T6_itemHere Q S6_kindHere S6_lawHere S6_inmateHere S6_nextToken S6_numberTo S6_isFour S6_riteHere S6_waitHere S6_needs S6_byteAt) D6_itemHere m K) L s h := rfl
theorem y6_itemHere_45 : wpn (T6_itemHere Q S6_kindHere S6_lawHere S6_inmateHere S6_nextToken S6_numberTo S6_isFour S6_riteHere S6_waitHere S6_needs S6_byteAt) D6_itemHere (m + 1) K (45, L, s, h) = i_cV 2 6 S6_numberTo 48 (wpn (T6_itemHere Q S6_kindHere S6_lawHere S6_inmateHere S6_nextToken S6_numberTo S6_isFour S6_riteHere S6_waitHere S6_needs S6_byteAt) D6_itemHere m K) L s h := rfl
theorem y6_itemHere_48 : wpn (T6_itemHere Q S6_kindHere S6_lawHere S6_inmateHere S6_nextToken S6_numberTo S6_isFour S6_riteHere S6_waitHere S6_needs S6_byteAt) D6_itemHere (m + 1) K (48, L, s, h) = i_goto 100 (wpn (T6_itemHere Q S6_kindHere S6_lawHere S6_inmateHere S6_nextToken S6_numberTo S6_isFour S6_riteHere S6_waitHere S6_needs S6_byteAt) D6_itemHere m K) L s h := rfl
theorem y6_itemHere_51 : wpn (T6_itemHere Q S6_kindHere S6_lawHere S6_inmateHere S6_nextToken S6_numberTo S6_isFour S6_riteHere S6_waitHere S6_needs S6_byteAt) D6_itemHere (m + 1) K (51, L, s, h) = i_ald 0 52 (wpn (T6_itemHere Q S6_kindHere S6_lawHere S6_inmateHere S6_nextToken S6_numberTo S6_isFour S6_riteHere S6_waitHere S6_needs S6_byteAt) D6_itemHere m K) L s h := rfl
theorem y6_itemHere_52 : wpn (T6_itemHere Q S6_kindHere S6_lawHere S6_inmateHere S6_nextToken S6_numberTo S6_isFour S6_riteHere S6_waitHere S6_needs S6_byteAt) D6_itemHere (m + 1) K (52, L, s, h) = i_ic 114 54 (wpn (T6_itemHere Q S6_kindHere S6_lawHere S6_inmateHere S6_nextToken S6_numberTo S6_isFour S6_riteHere S6_waitHere S6_needs S6_byteAt) D6_itemHere m K) L s h := rfl
theorem y6_itemHere_54 : wpn (T6_itemHere Q S6_kindHere S6_lawHere S6_inmateHere S6_nextToken S6_numberTo S6_isFour S6_riteHere S6_waitHere S6_needs S6_byteAt) D6_itemHere (m + 1) K (54, L, s, h) = i_ic 105 56 (wpn (T6_itemHere Q S6_kindHere S6_lawHere S6_inmateHere S6_nextToken S6_numberTo S6_isFour S6_riteHere S6_waitHere S6_needs S6_byteAt) D6_itemHere m K) L s h := rfl
theorem y6_itemHere_56 : wpn (T6_itemHere Q S6_kindHere S6_lawHere S6_inmateHere S6_nextToken S6_numberTo S6_isFour S6_riteHere S6_waitHere S6_needs S6_byteAt) D6_itemHere (m + 1) K (56, L, s, h) = i_ic 116 58 (wpn (T6_itemHere Q S6_kindHere S6_lawHere S6_inmateHere S6_nextToken S6_numberTo S6_isFour S6_riteHere S6_waitHere S6_needs S6_byteAt) D6_itemHere m K) L s h := rfl
theorem y6_itemHere_58 : wpn (T6_itemHere Q S6_kindHere S6_lawHere S6_inmateHere S6_nextToken S6_numberTo S6_isFour S6_riteHere S6_waitHere S6_needs S6_byteAt) D6_itemHere (m + 1) K (58, L, s, h) = i_ic 101 60 (wpn (T6_itemHere Q S6_kindHere S6_lawHere S6_inmateHere S6_nextToken S6_numberTo S6_isFour S6_riteHere S6_waitHere S6_needs S6_byteAt) D6_itemHere m K) L s h := rfl
theorem y6_itemHere_60 : wpn (T6_itemHere Q S6_kindHere S6_lawHere S6_inmateHere S6_nextToken S6_numberTo S6_isFour S6_riteHere S6_waitHere S6_needs S6_byteAt) D6_itemHere (m + 1) K (60, L, s, h) = i_cV 4 6 S6_isFour 63 (wpn (T6_itemHere Q S6_kindHere S6_lawHere S6_inmateHere S6_nextToken S6_numberTo S6_isFour S6_riteHere S6_waitHere S6_needs S6_byteAt) D6_itemHere m K) L s h := rfl
theorem y6_itemHere_63 : wpn (T6_itemHere Q S6_kindHere S6_lawHere S6_inmateHere S6_nextToken S6_numberTo S6_isFour S6_riteHere S6_waitHere S6_needs S6_byteAt) D6_itemHere (m + 1) K (63, L, s, h) = i_if_eq 73 66 (wpn (T6_itemHere Q S6_kindHere S6_lawHere S6_inmateHere S6_nextToken S6_numberTo S6_isFour S6_riteHere S6_waitHere S6_needs S6_byteAt) D6_itemHere m K) L s h := rfl
theorem y6_itemHere_66 : wpn (T6_itemHere Q S6_kindHere S6_lawHere S6_inmateHere S6_nextToken S6_numberTo S6_isFour S6_riteHere S6_waitHere S6_needs S6_byteAt) D6_itemHere (m + 1) K (66, L, s, h) = i_ald 0 67 (wpn (T6_itemHere Q S6_kindHere S6_lawHere S6_inmateHere S6_nextToken S6_numberTo S6_isFour S6_riteHere S6_waitHere S6_needs S6_byteAt) D6_itemHere m K) L s h := rfl
theorem y6_itemHere_67 : wpn (T6_itemHere Q S6_kindHere S6_lawHere S6_inmateHere S6_nextToken S6_numberTo S6_isFour S6_riteHere S6_waitHere S6_needs S6_byteAt) D6_itemHere (m + 1) K (67, L, s, h) = i_cV 0 6 S6_riteHere 70 (wpn (T6_itemHere Q S6_kindHere S6_lawHere S6_inmateHere S6_nextToken S6_numberTo S6_isFour S6_riteHere S6_waitHere S6_needs S6_byteAt) D6_itemHere m K) L s h := rfl
theorem y6_itemHere_70 : wpn (T6_itemHere Q S6_kindHere S6_lawHere S6_inmateHere S6_nextToken S6_numberTo S6_isFour S6_riteHere S6_waitHere S6_needs S6_byteAt) D6_itemHere (m + 1) K (70, L, s, h) = i_goto 100 (wpn (T6_itemHere Q S6_kindHere S6_lawHere S6_inmateHere S6_nextToken S6_numberTo S6_isFour S6_riteHere S6_waitHere S6_needs S6_byteAt) D6_itemHere m K) L s h := rfl
theorem y6_itemHere_73 : wpn (T6_itemHere Q S6_kindHere S6_lawHere S6_inmateHere S6_nextToken S6_numberTo S6_isFour S6_riteHere S6_waitHere S6_needs S6_byteAt) D6_itemHere (m + 1) K (73, L, s, h) = i_ald 0 74 (wpn (T6_itemHere Q S6_kindHere S6_lawHere S6_inmateHere S6_nextToken S6_numberTo S6_isFour S6_riteHere S6_waitHere S6_needs S6_byteAt) D6_itemHere m K) L s h := rfl
theorem y6_itemHere_74 : wpn (T6_itemHere Q S6_kindHere S6_lawHere S6_inmateHere S6_nextToken S6_numberTo S6_isFour S6_riteHere S6_waitHere S6_needs S6_byteAt) D6_itemHere (m + 1) K (74, L, s, h) = i_ic 119 76 (wpn (T6_itemHere Q S6_kindHere S6_lawHere S6_inmateHere S6_nextToken S6_numberTo S6_isFour S6_riteHere S6_waitHere S6_needs S6_byteAt) D6_itemHere m K) L s h := rfl
theorem y6_itemHere_76 : wpn (T6_itemHere Q S6_kindHere S6_lawHere S6_inmateHere S6_nextToken S6_numberTo S6_isFour S6_riteHere S6_waitHere S6_needs S6_byteAt) D6_itemHere (m + 1) K (76, L, s, h) = i_ic 97 78 (wpn (T6_itemHere Q S6_kindHere S6_lawHere S6_inmateHere S6_nextToken S6_numberTo S6_isFour S6_riteHere S6_waitHere S6_needs S6_byteAt) D6_itemHere m K) L s h := rfl
theorem y6_itemHere_78 : wpn (T6_itemHere Q S6_kindHere S6_lawHere S6_inmateHere S6_nextToken S6_numberTo S6_isFour S6_riteHere S6_waitHere S6_needs S6_byteAt) D6_itemHere (m + 1) K (78, L, s, h) = i_ic 105 80 (wpn (T6_itemHere Q S6_kindHere S6_lawHere S6_inmateHere S6_nextToken S6_numberTo S6_isFour S6_riteHere S6_waitHere S6_needs S6_byteAt) D6_itemHere m K) L s h := rfl
theorem y6_itemHere_80 : wpn (T6_itemHere Q S6_kindHere S6_lawHere S6_inmateHere S6_nextToken S6_numberTo S6_isFour S6_riteHere S6_waitHere S6_needs S6_byteAt) D6_itemHere (m + 1) K (80, L, s, h) = i_ic 116 82 (wpn (T6_itemHere Q S6_kindHere S6_lawHere S6_inmateHere S6_nextToken S6_numberTo S6_isFour S6_riteHere S6_waitHere S6_needs S6_byteAt) D6_itemHere m K) L s h := rfl
theorem y6_itemHere_82 : wpn (T6_itemHere Q S6_kindHere S6_lawHere S6_inmateHere S6_nextToken S6_numberTo S6_isFour S6_riteHere S6_waitHere S6_needs S6_byteAt) D6_itemHere (m + 1) K (82, L, s, h) = i_cV 4 6 S6_isFour 85 (wpn (T6_itemHere Q S6_kindHere S6_lawHere S6_inmateHere S6_nextToken S6_numberTo S6_isFour S6_riteHere S6_waitHere S6_needs S6_byteAt) D6_itemHere m K) L s h := rfl
theorem y6_itemHere_85 : wpn (T6_itemHere Q S6_kindHere S6_lawHere S6_inmateHere S6_nextToken S6_numberTo S6_isFour S6_riteHere S6_waitHere S6_needs S6_byteAt) D6_itemHere (m + 1) K (85, L, s, h) = i_if_eq 95 88 (wpn (T6_itemHere Q S6_kindHere S6_lawHere S6_inmateHere S6_nextToken S6_numberTo S6_isFour S6_riteHere S6_waitHere S6_needs S6_byteAt) D6_itemHere m K) L s h := rfl
theorem y6_itemHere_88 : wpn (T6_itemHere Q S6_kindHere S6_lawHere S6_inmateHere S6_nextToken S6_numberTo S6_isFour S6_riteHere S6_waitHere S6_needs S6_byteAt) D6_itemHere (m + 1) K (88, L, s, h) = i_ald 0 89 (wpn (T6_itemHere Q S6_kindHere S6_lawHere S6_inmateHere S6_nextToken S6_numberTo S6_isFour S6_riteHere S6_waitHere S6_needs S6_byteAt) D6_itemHere m K) L s h := rfl
theorem y6_itemHere_89 : wpn (T6_itemHere Q S6_kindHere S6_lawHere S6_inmateHere S6_nextToken S6_numberTo S6_isFour S6_riteHere S6_waitHere S6_needs S6_byteAt) D6_itemHere (m + 1) K (89, L, s, h) = i_cV 0 6 S6_waitHere 92 (wpn (T6_itemHere Q S6_kindHere S6_lawHere S6_inmateHere S6_nextToken S6_numberTo S6_isFour S6_riteHere S6_waitHere S6_needs S6_byteAt) D6_itemHere m K) L s h := rfl
theorem y6_itemHere_92 : wpn (T6_itemHere Q S6_kindHere S6_lawHere S6_inmateHere S6_nextToken S6_numberTo S6_isFour S6_riteHere S6_waitHere S6_needs S6_byteAt) D6_itemHere (m + 1) K (92, L, s, h) = i_goto 100 (wpn (T6_itemHere Q S6_kindHere S6_lawHere S6_inmateHere S6_nextToken S6_numberTo S6_isFour S6_riteHere S6_waitHere S6_needs S6_byteAt) D6_itemHere m K) L s h := rfl
theorem y6_itemHere_95 : wpn (T6_itemHere Q S6_kindHere S6_lawHere S6_inmateHere S6_nextToken S6_numberTo S6_isFour S6_riteHere S6_waitHere S6_needs S6_byteAt) D6_itemHere (m + 1) K (95, L, s, h) = i_ald 0 96 (wpn (T6_itemHere Q S6_kindHere S6_lawHere S6_inmateHere S6_nextToken S6_numberTo S6_isFour S6_riteHere S6_waitHere S6_needs S6_byteAt) D6_itemHere m K) L s h := rfl
theorem y6_itemHere_96 : wpn (T6_itemHere Q S6_kindHere S6_lawHere S6_inmateHere S6_nextToken S6_numberTo S6_isFour S6_riteHere S6_waitHere S6_needs S6_byteAt) D6_itemHere (m + 1) K (96, L, s, h) = i_ic 0 97 (wpn (T6_itemHere Q S6_kindHere S6_lawHere S6_inmateHere S6_nextToken S6_numberTo S6_isFour S6_riteHere S6_waitHere S6_needs S6_byteAt) D6_itemHere m K) L s h := rfl
theorem y6_itemHere_97 : wpn (T6_itemHere Q S6_kindHere S6_lawHere S6_inmateHere S6_nextToken S6_numberTo S6_isFour S6_riteHere S6_waitHere S6_needs S6_byteAt) D6_itemHere (m + 1) K (97, L, s, h) = i_cV 1 6 S6_needs 100 (wpn (T6_itemHere Q S6_kindHere S6_lawHere S6_inmateHere S6_nextToken S6_numberTo S6_isFour S6_riteHere S6_waitHere S6_needs S6_byteAt) D6_itemHere m K) L s h := rfl
theorem k6_itemHere_100 : wpn (T6_itemHere Q S6_kindHere S6_lawHere S6_inmateHere S6_nextToken S6_numberTo S6_isFour S6_riteHere S6_waitHere S6_needs S6_byteAt) D6_itemHere (m + 1) K (100, L, s, h) = K (100, L, s, h) := rfl
theorem t6_itemHere_100 : T6_itemHere Q S6_kindHere S6_lawHere S6_inmateHere S6_nextToken S6_numberTo S6_isFour S6_riteHere S6_waitHere S6_needs S6_byteAt 100 = i_ald 0 101 := rfl
theorem y6_itemHere_101 : wpn (T6_itemHere Q S6_kindHere S6_lawHere S6_inmateHere S6_nextToken S6_numberTo S6_isFour S6_riteHere S6_waitHere S6_needs S6_byteAt) D6_itemHere (m + 1) K (101, L, s, h) = i_ald 0 102 (wpn (T6_itemHere Q S6_kindHere S6_lawHere S6_inmateHere S6_nextToken S6_numberTo S6_isFour S6_riteHere S6_waitHere S6_needs S6_byteAt) D6_itemHere m K) L s h := rfl
theorem y6_itemHere_102 : wpn (T6_itemHere Q S6_kindHere S6_lawHere S6_inmateHere S6_nextToken S6_numberTo S6_isFour S6_riteHere S6_waitHere S6_needs S6_byteAt) D6_itemHere (m + 1) K (102, L, s, h) = i_get 6 7 105 (wpn (T6_itemHere Q S6_kindHere S6_lawHere S6_inmateHere S6_nextToken S6_numberTo S6_isFour S6_riteHere S6_waitHere S6_needs S6_byteAt) D6_itemHere m K) L s h := rfl
theorem y6_itemHere_105 : wpn (T6_itemHere Q S6_kindHere S6_lawHere S6_inmateHere S6_nextToken S6_numberTo S6_isFour S6_riteHere S6_waitHere S6_needs S6_byteAt) D6_itemHere (m + 1) K (105, L, s, h) = i_ic 3 106 (wpn (T6_itemHere Q S6_kindHere S6_lawHere S6_inmateHere S6_nextToken S6_numberTo S6_isFour S6_riteHere S6_waitHere S6_needs S6_byteAt) D6_itemHere m K) L s h := rfl
theorem y6_itemHere_106 : wpn (T6_itemHere Q S6_kindHere S6_lawHere S6_inmateHere S6_nextToken S6_numberTo S6_isFour S6_riteHere S6_waitHere S6_needs S6_byteAt) D6_itemHere (m + 1) K (106, L, s, h) = i_ic_ne 126 109 (wpn (T6_itemHere Q S6_kindHere S6_lawHere S6_inmateHere S6_nextToken S6_numberTo S6_isFour S6_riteHere S6_waitHere S6_needs S6_byteAt) D6_itemHere m K) L s h := rfl
theorem y6_itemHere_109 : wpn (T6_itemHere Q S6_kindHere S6_lawHere S6_inmateHere S6_nextToken S6_numberTo S6_isFour S6_riteHere S6_waitHere S6_needs S6_byteAt) D6_itemHere (m + 1) K (109, L, s, h) = i_ald 0 110 (wpn (T6_itemHere Q S6_kindHere S6_lawHere S6_inmateHere S6_nextToken S6_numberTo S6_isFour S6_riteHere S6_waitHere S6_needs S6_byteAt) D6_itemHere m K) L s h := rfl
theorem y6_itemHere_110 : wpn (T6_itemHere Q S6_kindHere S6_lawHere S6_inmateHere S6_nextToken S6_numberTo S6_isFour S6_riteHere S6_waitHere S6_needs S6_byteAt) D6_itemHere (m + 1) K (110, L, s, h) = i_ald 0 111 (wpn (T6_itemHere Q S6_kindHere S6_lawHere S6_inmateHere S6_nextToken S6_numberTo S6_isFour S6_riteHere S6_waitHere S6_needs S6_byteAt) D6_itemHere m K) L s h := rfl
theorem y6_itemHere_111 : wpn (T6_itemHere Q S6_kindHere S6_lawHere S6_inmateHere S6_nextToken S6_numberTo S6_isFour S6_riteHere S6_waitHere S6_needs S6_byteAt) D6_itemHere (m + 1) K (111, L, s, h) = i_get 6 8 114 (wpn (T6_itemHere Q S6_kindHere S6_lawHere S6_inmateHere S6_nextToken S6_numberTo S6_isFour S6_riteHere S6_waitHere S6_needs S6_byteAt) D6_itemHere m K) L s h := rfl
theorem y6_itemHere_114 : wpn (T6_itemHere Q S6_kindHere S6_lawHere S6_inmateHere S6_nextToken S6_numberTo S6_isFour S6_riteHere S6_waitHere S6_needs S6_byteAt) D6_itemHere (m + 1) K (114, L, s, h) = i_cV 1 6 S6_byteAt 117 (wpn (T6_itemHere Q S6_kindHere S6_lawHere S6_inmateHere S6_nextToken S6_numberTo S6_isFour S6_riteHere S6_waitHere S6_needs S6_byteAt) D6_itemHere m K) L s h := rfl
theorem y6_itemHere_117 : wpn (T6_itemHere Q S6_kindHere S6_lawHere S6_inmateHere S6_nextToken S6_numberTo S6_isFour S6_riteHere S6_waitHere S6_needs S6_byteAt) D6_itemHere (m + 1) K (117, L, s, h) = i_ic 59 119 (wpn (T6_itemHere Q S6_kindHere S6_lawHere S6_inmateHere S6_nextToken S6_numberTo S6_isFour S6_riteHere S6_waitHere S6_needs S6_byteAt) D6_itemHere m K) L s h := rfl
theorem y6_itemHere_119 : wpn (T6_itemHere Q S6_kindHere S6_lawHere S6_inmateHere S6_nextToken S6_numberTo S6_isFour S6_riteHere S6_waitHere S6_needs S6_byteAt) D6_itemHere (m + 1) K (119, L, s, h) = i_ic_ne 126 122 (wpn (T6_itemHere Q S6_kindHere S6_lawHere S6_inmateHere S6_nextToken S6_numberTo S6_isFour S6_riteHere S6_waitHere S6_needs S6_byteAt) D6_itemHere m K) L s h := rfl
theorem y6_itemHere_122 : wpn (T6_itemHere Q S6_kindHere S6_lawHere S6_inmateHere S6_nextToken S6_numberTo S6_isFour S6_riteHere S6_waitHere S6_needs S6_byteAt) D6_itemHere (m + 1) K (122, L, s, h) = i_ic 1 123 (wpn (T6_itemHere Q S6_kindHere S6_lawHere S6_inmateHere S6_nextToken S6_numberTo S6_isFour S6_riteHere S6_waitHere S6_needs S6_byteAt) D6_itemHere m K) L s h := rfl
theorem y6_itemHere_123 : wpn (T6_itemHere Q S6_kindHere S6_lawHere S6_inmateHere S6_nextToken S6_numberTo S6_isFour S6_riteHere S6_waitHere S6_needs S6_byteAt) D6_itemHere (m + 1) K (123, L, s, h) = i_goto 127 (wpn (T6_itemHere Q S6_kindHere S6_lawHere S6_inmateHere S6_nextToken S6_numberTo S6_isFour S6_riteHere S6_waitHere S6_needs S6_byteAt) D6_itemHere m K) L s h := rfl
theorem y6_itemHere_126 : wpn (T6_itemHere Q S6_kindHere S6_lawHere S6_inmateHere S6_nextToken S6_numberTo S6_isFour S6_riteHere S6_waitHere S6_needs S6_byteAt) D6_itemHere (m + 1) K (126, L, s, h) = i_ic 0 127 (wpn (T6_itemHere Q S6_kindHere S6_lawHere S6_inmateHere S6_nextToken S6_numberTo S6_isFour S6_riteHere S6_waitHere S6_needs S6_byteAt) D6_itemHere m K) L s h := rfl
theorem y6_itemHere_127 : wpn (T6_itemHere Q S6_kindHere S6_lawHere S6_inmateHere S6_nextToken S6_numberTo S6_isFour S6_riteHere S6_waitHere S6_needs S6_byteAt) D6_itemHere (m + 1) K (127, L, s, h) = i_cV 1 6 S6_needs 130 (wpn (T6_itemHere Q S6_kindHere S6_lawHere S6_inmateHere S6_nextToken S6_numberTo S6_isFour S6_riteHere S6_waitHere S6_needs S6_byteAt) D6_itemHere m K) L s h := rfl
theorem y6_itemHere_130 : wpn (T6_itemHere Q S6_kindHere S6_lawHere S6_inmateHere S6_nextToken S6_numberTo S6_isFour S6_riteHere S6_waitHere S6_needs S6_byteAt) D6_itemHere (m + 1) K (130, L, s, h) = i_vret Q (wpn (T6_itemHere Q S6_kindHere S6_lawHere S6_inmateHere S6_nextToken S6_numberTo S6_isFour S6_riteHere S6_waitHere S6_needs S6_byteAt) D6_itemHere m K) L s h := rfl
end ITS
theorem tlW {n : Nat} {t : Nat → Int32} {b : Hp} {Q : Po} (hc : MCt n t b) {x y : Option Value} (s : Nat → Int32) {q : Nat} (hq : q ≤ n) (hQ : ∀ s, Q none (MK n t b s q 1)) : Rn (T6_itemHere Q S6_kindHere S6_lawHere S6_inmateHere S6_nextToken S6_numberTo S6_isFour S6_riteHere S6_waitHere S6_needs S6_byteAt) (100, [some (.ref 41), x, y], [], MK n t b s q 1) := by
  have b1 : ∀ s p w, p ≤ n → TPm (MK n t b s p w) := fun s p w hp => mkTP hc s hp w
  have l2 : b 41 6 ≤ 200 := by rw [hc.1]; exact nI_le (b := 200) hc.2.1 (by decide)
  have a := st_le t hq
  have h2 := hc.2.1
  have i2 : 0 ≤ nI (st n t q) := nI_pos' (by omega)
  refine Rn_go D6_itemHere 60 ?_
  simp only [y6_itemHere_0, y6_itemHere_1, y6_itemHere_4, y6_itemHere_5, y6_itemHere_6, y6_itemHere_9, y6_itemHere_10, y6_itemHere_11, y6_itemHere_14, y6_itemHere_15, y6_itemHere_16, y6_itemHere_19, y6_itemHere_22, y6_itemHere_23, y6_itemHere_26, y6_itemHere_27, y6_itemHere_30, y6_itemHere_31, y6_itemHere_32, y6_itemHere_33, y6_itemHere_35, y6_itemHere_38, y6_itemHere_40, y6_itemHere_43, y6_itemHere_45, y6_itemHere_48, y6_itemHere_51, y6_itemHere_52, y6_itemHere_54, y6_itemHere_56, y6_itemHere_58, y6_itemHere_60, y6_itemHere_63, y6_itemHere_66, y6_itemHere_67, y6_itemHere_70, y6_itemHere_73, y6_itemHere_74, y6_itemHere_76, y6_itemHere_78, y6_itemHere_80, y6_itemHere_82, y6_itemHere_85, y6_itemHere_88, y6_itemHere_89, y6_itemHere_92, y6_itemHere_95, y6_itemHere_96, y6_itemHere_97, y6_itemHere_101, y6_itemHere_102, y6_itemHere_105, y6_itemHere_106, y6_itemHere_109, y6_itemHere_110, y6_itemHere_111, y6_itemHere_114, y6_itemHere_117, y6_itemHere_119, y6_itemHere_122, y6_itemHere_123, y6_itemHere_126, y6_itemHere_127, y6_itemHere_130, i_ald, i_cV, i_get, i_goto, i_ic, i_ic_ne, i_if_eq, i_if_lt, i_ild, i_ist, i_vret, oc_41, fv_41_0, fv_41_1, fv_41_2, fv_41_3, fv_41_4, ly_41_4, fv_41_5, fv_41_6, ly_41_6, fv_41_7, ly_41_7, fv_41_8, ly_41_8, fv_41_9, ly_41_9, fv_41_10, ly_41_10, fv_41_11, ly_41_11, fv_41_12, fv_41_13, fv_41_14, ly_41_14, fv_41_15, fv_41_16, fv_41_17, fv_41_18, fv_41_19, fv_41_20, fv_41_21, fv_41_22, ly_41_22, fv_41_23, ly_41_23, fv_41_24, ly_41_24, fv_41_25, ly_41_25, fv_41_26, ly_41_26, rd_42, al_42, rd_43, al_43, rd_44, al_44, rd_45, al_45, rd_46, al_46, rd_47, al_47, rd_48, al_48, rd_49, al_49, rd_50, al_50, rd_51, al_51, rd_52, al_52, rd_53, al_53, rd_54, al_54, rd_55, al_55, lck_0, lck_i, lck_r, lck_n, lck_l, csum_0, csum_i, csum_r, csum_l, pops_0, pops_s, psh_n, psh_s, List.getElem?_cons_zero, List.getElem?_cons_succ, List.set_cons_zero, List.set_cons_succ, true_and, and_true, Nat.reduceAdd, Nat.reduceLeDiff, t6_itemHere_100, S6_needs, S6_byteAt, b1, hq, MK_6, MK_7, MK_8, MK_11, MK_w, l2, i2, ne_1_0, true_or, or_true, false_and, hQ, nn, false_implies, true_implies, implies_true, and_true, true_and, not_true_eq_false, not_false_eq_true, eq_self]
theorem tl0 {n : Nat} {t : Nat → Int32} {b : Hp} {Q : Po} {z : Int32} {G : GG} (hc : MCt n t b) {x y : Option Value} (s : Nat → Int32) {e : Nat} (he : e ≤ n) (hg : Geq (zG z G) (mv s)) (hQ : mRes n t b z Q (endS n t (.inr (e, G)))) : Rn (T6_itemHere Q S6_kindHere S6_lawHere S6_inmateHere S6_nextToken S6_numberTo S6_isFour S6_riteHere S6_waitHere S6_needs S6_byteAt) (100, [some (.ref 41), x, y], [], MK n t b s e 0) := by
  have b1 : ∀ s p w, p ≤ n → TPm (MK n t b s p w) := fun s p w hp => mkTP hc s hp w
  have b3 : ∀ s p w, p ≤ n → stm (MK n t b s p w) = MK n t b s (nx n t p) w := fun s p w hp => mkST hc s hp w
  have l2 : b 41 6 ≤ 200 := by rw [hc.1]; exact nI_le (b := 200) hc.2.1 (by decide)
  have a := st_le t he
  have h2 := hc.2.1
  have i2 : 0 ≤ nI (st n t e) := nI_pos' (by omega)
  have se := mkSE hc s he 0
  by_cases c1 : seI n t e = 0
  · simp only [endS, c1, if_true, mRes] at hQ
    simp only [c1, not_true_eq_false] at se
    by_cases k3 : nI (kd n t (st n t e)) = 3
    · have b9 : ¬ bH (MK n t b s e 0) (nI (st n t e)) = 59 := fun q => by rw [← se]; exact ⟨k3, q⟩
      refine Rn_go D6_itemHere 60 ?_
      simp only [y6_itemHere_0, y6_itemHere_1, y6_itemHere_4, y6_itemHere_5, y6_itemHere_6, y6_itemHere_9, y6_itemHere_10, y6_itemHere_11, y6_itemHere_14, y6_itemHere_15, y6_itemHere_16, y6_itemHere_19, y6_itemHere_22, y6_itemHere_23, y6_itemHere_26, y6_itemHere_27, y6_itemHere_30, y6_itemHere_31, y6_itemHere_32, y6_itemHere_33, y6_itemHere_35, y6_itemHere_38, y6_itemHere_40, y6_itemHere_43, y6_itemHere_45, y6_itemHere_48, y6_itemHere_51, y6_itemHere_52, y6_itemHere_54, y6_itemHere_56, y6_itemHere_58, y6_itemHere_60, y6_itemHere_63, y6_itemHere_66, y6_itemHere_67, y6_itemHere_70, y6_itemHere_73, y6_itemHere_74, y6_itemHere_76, y6_itemHere_78, y6_itemHere_80, y6_itemHere_82, y6_itemHere_85, y6_itemHere_88, y6_itemHere_89, y6_itemHere_92, y6_itemHere_95, y6_itemHere_96, y6_itemHere_97, y6_itemHere_101, y6_itemHere_102, y6_itemHere_105, y6_itemHere_106, y6_itemHere_109, y6_itemHere_110, y6_itemHere_111, y6_itemHere_114, y6_itemHere_117, y6_itemHere_119, y6_itemHere_122, y6_itemHere_123, y6_itemHere_126, y6_itemHere_127, y6_itemHere_130, i_ald, i_cV, i_get, i_goto, i_ic, i_ic_ne, i_if_eq, i_if_lt, i_ild, i_ist, i_vret, oc_41, fv_41_0, fv_41_1, fv_41_2, fv_41_3, fv_41_4, ly_41_4, fv_41_5, fv_41_6, ly_41_6, fv_41_7, ly_41_7, fv_41_8, ly_41_8, fv_41_9, ly_41_9, fv_41_10, ly_41_10, fv_41_11, ly_41_11, fv_41_12, fv_41_13, fv_41_14, ly_41_14, fv_41_15, fv_41_16, fv_41_17, fv_41_18, fv_41_19, fv_41_20, fv_41_21, fv_41_22, ly_41_22, fv_41_23, ly_41_23, fv_41_24, ly_41_24, fv_41_25, ly_41_25, fv_41_26, ly_41_26, rd_42, al_42, rd_43, al_43, rd_44, al_44, rd_45, al_45, rd_46, al_46, rd_47, al_47, rd_48, al_48, rd_49, al_49, rd_50, al_50, rd_51, al_51, rd_52, al_52, rd_53, al_53, rd_54, al_54, rd_55, al_55, lck_0, lck_i, lck_r, lck_n, lck_l, csum_0, csum_i, csum_r, csum_l, pops_0, pops_s, psh_n, psh_s, List.getElem?_cons_zero, List.getElem?_cons_succ, List.set_cons_zero, List.set_cons_succ, true_and, and_true, Nat.reduceAdd, Nat.reduceLeDiff, t6_itemHere_100, S6_needs, S6_byteAt, b1, b3, he, MK_6, MK_7, MK_8, MK_11, MK_w, l2, i2, k3, b9, ne_1_0, true_or, or_true, and_false, false_and, hQ, nn, false_implies, true_implies, implies_true, and_true, true_and, not_true_eq_false, not_false_eq_true, eq_self]
    · refine Rn_go D6_itemHere 60 ?_
      simp only [y6_itemHere_0, y6_itemHere_1, y6_itemHere_4, y6_itemHere_5, y6_itemHere_6, y6_itemHere_9, y6_itemHere_10, y6_itemHere_11, y6_itemHere_14, y6_itemHere_15, y6_itemHere_16, y6_itemHere_19, y6_itemHere_22, y6_itemHere_23, y6_itemHere_26, y6_itemHere_27, y6_itemHere_30, y6_itemHere_31, y6_itemHere_32, y6_itemHere_33, y6_itemHere_35, y6_itemHere_38, y6_itemHere_40, y6_itemHere_43, y6_itemHere_45, y6_itemHere_48, y6_itemHere_51, y6_itemHere_52, y6_itemHere_54, y6_itemHere_56, y6_itemHere_58, y6_itemHere_60, y6_itemHere_63, y6_itemHere_66, y6_itemHere_67, y6_itemHere_70, y6_itemHere_73, y6_itemHere_74, y6_itemHere_76, y6_itemHere_78, y6_itemHere_80, y6_itemHere_82, y6_itemHere_85, y6_itemHere_88, y6_itemHere_89, y6_itemHere_92, y6_itemHere_95, y6_itemHere_96, y6_itemHere_97, y6_itemHere_101, y6_itemHere_102, y6_itemHere_105, y6_itemHere_106, y6_itemHere_109, y6_itemHere_110, y6_itemHere_111, y6_itemHere_114, y6_itemHere_117, y6_itemHere_119, y6_itemHere_122, y6_itemHere_123, y6_itemHere_126, y6_itemHere_127, y6_itemHere_130, i_ald, i_cV, i_get, i_goto, i_ic, i_ic_ne, i_if_eq, i_if_lt, i_ild, i_ist, i_vret, oc_41, fv_41_0, fv_41_1, fv_41_2, fv_41_3, fv_41_4, ly_41_4, fv_41_5, fv_41_6, ly_41_6, fv_41_7, ly_41_7, fv_41_8, ly_41_8, fv_41_9, ly_41_9, fv_41_10, ly_41_10, fv_41_11, ly_41_11, fv_41_12, fv_41_13, fv_41_14, ly_41_14, fv_41_15, fv_41_16, fv_41_17, fv_41_18, fv_41_19, fv_41_20, fv_41_21, fv_41_22, ly_41_22, fv_41_23, ly_41_23, fv_41_24, ly_41_24, fv_41_25, ly_41_25, fv_41_26, ly_41_26, rd_42, al_42, rd_43, al_43, rd_44, al_44, rd_45, al_45, rd_46, al_46, rd_47, al_47, rd_48, al_48, rd_49, al_49, rd_50, al_50, rd_51, al_51, rd_52, al_52, rd_53, al_53, rd_54, al_54, rd_55, al_55, lck_0, lck_i, lck_r, lck_n, lck_l, csum_0, csum_i, csum_r, csum_l, pops_0, pops_s, psh_n, psh_s, List.getElem?_cons_zero, List.getElem?_cons_succ, List.set_cons_zero, List.set_cons_succ, true_and, and_true, Nat.reduceAdd, Nat.reduceLeDiff, t6_itemHere_100, S6_needs, S6_byteAt, b1, b3, he, MK_6, MK_7, MK_8, MK_11, MK_w, l2, i2, k3, ne_1_0, true_or, or_true, and_false, false_and, hQ, nn, false_implies, true_implies, implies_true, and_true, true_and, not_true_eq_false, not_false_eq_true, eq_self]
  · simp only [endS, c1, if_false, mRes] at hQ
    simp only [c1, not_false_eq_true, eq_iff_iff, iff_true] at se
    have k3 := se.1
    have b9 := se.2
    have hF := hQ s hg
    refine Rn_go D6_itemHere 60 ?_
    simp only [y6_itemHere_0, y6_itemHere_1, y6_itemHere_4, y6_itemHere_5, y6_itemHere_6, y6_itemHere_9, y6_itemHere_10, y6_itemHere_11, y6_itemHere_14, y6_itemHere_15, y6_itemHere_16, y6_itemHere_19, y6_itemHere_22, y6_itemHere_23, y6_itemHere_26, y6_itemHere_27, y6_itemHere_30, y6_itemHere_31, y6_itemHere_32, y6_itemHere_33, y6_itemHere_35, y6_itemHere_38, y6_itemHere_40, y6_itemHere_43, y6_itemHere_45, y6_itemHere_48, y6_itemHere_51, y6_itemHere_52, y6_itemHere_54, y6_itemHere_56, y6_itemHere_58, y6_itemHere_60, y6_itemHere_63, y6_itemHere_66, y6_itemHere_67, y6_itemHere_70, y6_itemHere_73, y6_itemHere_74, y6_itemHere_76, y6_itemHere_78, y6_itemHere_80, y6_itemHere_82, y6_itemHere_85, y6_itemHere_88, y6_itemHere_89, y6_itemHere_92, y6_itemHere_95, y6_itemHere_96, y6_itemHere_97, y6_itemHere_101, y6_itemHere_102, y6_itemHere_105, y6_itemHere_106, y6_itemHere_109, y6_itemHere_110, y6_itemHere_111, y6_itemHere_114, y6_itemHere_117, y6_itemHere_119, y6_itemHere_122, y6_itemHere_123, y6_itemHere_126, y6_itemHere_127, y6_itemHere_130, i_ald, i_cV, i_get, i_goto, i_ic, i_ic_ne, i_if_eq, i_if_lt, i_ild, i_ist, i_vret, oc_41, fv_41_0, fv_41_1, fv_41_2, fv_41_3, fv_41_4, ly_41_4, fv_41_5, fv_41_6, ly_41_6, fv_41_7, ly_41_7, fv_41_8, ly_41_8, fv_41_9, ly_41_9, fv_41_10, ly_41_10, fv_41_11, ly_41_11, fv_41_12, fv_41_13, fv_41_14, ly_41_14, fv_41_15, fv_41_16, fv_41_17, fv_41_18, fv_41_19, fv_41_20, fv_41_21, fv_41_22, ly_41_22, fv_41_23, ly_41_23, fv_41_24, ly_41_24, fv_41_25, ly_41_25, fv_41_26, ly_41_26, rd_42, al_42, rd_43, al_43, rd_44, al_44, rd_45, al_45, rd_46, al_46, rd_47, al_47, rd_48, al_48, rd_49, al_49, rd_50, al_50, rd_51, al_51, rd_52, al_52, rd_53, al_53, rd_54, al_54, rd_55, al_55, lck_0, lck_i, lck_r, lck_n, lck_l, csum_0, csum_i, csum_r, csum_l, pops_0, pops_s, psh_n, psh_s, List.getElem?_cons_zero, List.getElem?_cons_succ, List.set_cons_zero, List.set_cons_succ, true_and, and_true, Nat.reduceAdd, Nat.reduceLeDiff, t6_itemHere_100, S6_needs, S6_byteAt, b1, b3, he, MK_6, MK_7, MK_8, MK_11, MK_w, l2, i2, k3, b9, ne_1_0, true_or, or_true, or_false, and_false, false_and, nn, false_implies, true_implies, implies_true, and_true, true_and, not_true_eq_false, not_false_eq_true, eq_self]
    exact hF
def xOk (n : Nat) (x : Sum Nat (Nat × GG)) : Prop := match x with
  | .inl q => q ≤ n
  | .inr (e, _) => e ≤ n
theorem oOk_x {n : Nat} {t : Nat → Int32} {p : Nat} {h : Hp} {x : Sum Nat (Nat × GG)} (hx : oOk n t p h x) : xOk n x := by
  rcases x with q | ⟨e, G⟩
  · exact hx
  · exact hx.1.2
def dmy (G : GG) : Hp := fun p k => G (p - 8) k
theorem dmy_8 (G : GG) : Hi8 (dmy G) G := fun j _ => by
  funext k
  show G j k = G (8 + j - 8) k
  rw [Nat.add_sub_cancel_left]
theorem tl {n : Nat} {t : Nat → Int32} {b : Hp} {Q : Po} {z : Int32} (hc : MCt n t b) {x y : Option Value} {o : Sum Nat (Nat × GG)} (ho : xOk n o) (hQ : mRes n t b z Q (endS n t o)) : mRes n t b z (fun v h1 => Rn (T6_itemHere Q S6_kindHere S6_lawHere S6_inmateHere S6_nextToken S6_numberTo S6_isFour S6_riteHere S6_waitHere S6_needs S6_byteAt) (100, [some (.ref 41), x, y], psh v [], h1)) o := by
  rcases o with q | ⟨e, G⟩
  · exact fun s => tlW hc s ho hQ
  · exact fun s hg => tl0 hc s ho hg hQ
def S6_itemHere : Sp := fun av hh Q => match av with | [.ref m] => m = 41 ∧ ∃ n t h s p z G, hh = MK n t h s p 0 ∧ MC n t h s p z G ∧ mRes n t h z Q (itm n t p G) | _ => False
theorem lwF_4 (N : List Nat → Int32) (h : ¬ lwF N < 0) : lwF N = 0 ∨ lwF N = 1 ∨ lwF N = 2 ∨ lwF N = 3 := by
  have := nneg4 (lwF_r N) h
  grind

theorem it_n {n : Nat} {t : Nat → Int32} {b : Hp} {Q : Po} {s : Nat → Int32} {p : Nat} {z : Int32} {G : GG} (hM : MC n t b s p z G) (c1 : kdF (nmI n t p) < 0) (c2 : lwF (nmI n t p) < 0) (c3 : nmI n t p [114, 105, 116, 101] = 0) (c4 : nmI n t p [119, 97, 105, 116] = 0) (hQ : ∀ s, Q none (MK n t b s p 1)) : Rn (T6_itemHere Q S6_kindHere S6_lawHere S6_inmateHere S6_nextToken S6_numberTo S6_isFour S6_riteHere S6_waitHere S6_needs S6_byteAt) (0, [some (.ref 41), none, none], [], MK n t b s p 0) := by
  obtain ⟨hc, hp, hI, hg⟩ := id hM
  have b1 : ∀ s p w, p ≤ n → TPm (MK n t b s p w) := fun s p w hp => mkTP hc s hp w
  have b2 : ∀ s p w, p ≤ n → TQm (MK n t b s p w) := fun s p w hp => mkTQ hc s hp w
  have b3 : ∀ s p w, p ≤ n → stm (MK n t b s p w) = MK n t b s (nx n t p) w := fun s p w hp => mkST hc s hp w
  have b4 : ∀ s p w top, p ≤ n → nuM (MK n t b s p w) top = nuI n t p top := fun s p w top hp => mkNU hc s hp w top
  have b5 := mk_rite hc s hp 0
  have b6 := mk_wait hc s hp 0
  have bk := mkKD hc s hp 0
  have bl := mkLW hc s hp 0
  have n1 : nx n t p ≤ n := nx_le t hp
  have n2 : nx n t (nx n t p) ≤ n := nx_le t n1
  rw [if_pos c2] at bl
  have m1 : (-1 : Int32) < 0 := by decide
  refine Rn_in D6_itemHere 120 ?_
  simp only [y6_itemHere_0, y6_itemHere_1, y6_itemHere_4, y6_itemHere_5, y6_itemHere_6, y6_itemHere_9, y6_itemHere_10, y6_itemHere_11, y6_itemHere_14, y6_itemHere_15, y6_itemHere_16, y6_itemHere_19, y6_itemHere_22, y6_itemHere_23, y6_itemHere_26, y6_itemHere_27, y6_itemHere_30, y6_itemHere_31, y6_itemHere_32, y6_itemHere_33, y6_itemHere_35, y6_itemHere_38, y6_itemHere_40, y6_itemHere_43, y6_itemHere_45, y6_itemHere_48, y6_itemHere_51, y6_itemHere_52, y6_itemHere_54, y6_itemHere_56, y6_itemHere_58, y6_itemHere_60, y6_itemHere_63, y6_itemHere_66, y6_itemHere_67, y6_itemHere_70, y6_itemHere_73, y6_itemHere_74, y6_itemHere_76, y6_itemHere_78, y6_itemHere_80, y6_itemHere_82, y6_itemHere_85, y6_itemHere_88, y6_itemHere_89, y6_itemHere_92, y6_itemHere_95, y6_itemHere_96, y6_itemHere_97, y6_itemHere_101, y6_itemHere_102, y6_itemHere_105, y6_itemHere_106, y6_itemHere_109, y6_itemHere_110, y6_itemHere_111, y6_itemHere_114, y6_itemHere_117, y6_itemHere_119, y6_itemHere_122, y6_itemHere_123, y6_itemHere_126, y6_itemHere_127, y6_itemHere_130, i_ald, i_cV, i_get, i_goto, i_ic, i_ic_ne, i_if_eq, i_if_lt, i_ild, i_ist, i_vret, oc_41, fv_41_0, fv_41_1, fv_41_2, fv_41_3, fv_41_4, ly_41_4, fv_41_5, fv_41_6, ly_41_6, fv_41_7, ly_41_7, fv_41_8, ly_41_8, fv_41_9, ly_41_9, fv_41_10, ly_41_10, fv_41_11, ly_41_11, fv_41_12, fv_41_13, fv_41_14, ly_41_14, fv_41_15, fv_41_16, fv_41_17, fv_41_18, fv_41_19, fv_41_20, fv_41_21, fv_41_22, ly_41_22, fv_41_23, ly_41_23, fv_41_24, ly_41_24, fv_41_25, ly_41_25, fv_41_26, ly_41_26, rd_42, al_42, rd_43, al_43, rd_44, al_44, rd_45, al_45, rd_46, al_46, rd_47, al_47, rd_48, al_48, rd_49, al_49, rd_50, al_50, rd_51, al_51, rd_52, al_52, rd_53, al_53, rd_54, al_54, rd_55, al_55, lck_0, lck_i, lck_r, lck_n, lck_l, csum_0, csum_i, csum_r, csum_l, pops_0, pops_s, psh_n, psh_s, List.getElem?_cons_zero, List.getElem?_cons_succ, List.set_cons_zero, List.set_cons_succ, true_and, and_true, Nat.reduceAdd, Nat.reduceLeDiff, k6_itemHere_100, t6_itemHere_100, S6_kindHere, S6_lawHere, S6_isFour, S6_needs, b1, b2, b5, b6, bk, bl, c1, m1, c3, c4, hp, MK_11, MK_w, or_true, and_false, nn, false_implies, true_implies, implies_true, and_true, true_and, not_true_eq_false, not_false_eq_true, eq_self]
  exact tlW hc s hp hQ
theorem it_w {n : Nat} {t : Nat → Int32} {b : Hp} {Q : Po} {s : Nat → Int32} {p : Nat} {z : Int32} {G : GG} (hM : MC n t b s p z G) (c1 : kdF (nmI n t p) < 0) (c2 : lwF (nmI n t p) < 0) (c3 : nmI n t p [114, 105, 116, 101] = 0) (c4 : ¬ nmI n t p [119, 97, 105, 116] = 0) (hQ : mRes n t b z Q (endS n t (oWai n t p G))) : Rn (T6_itemHere Q S6_kindHere S6_lawHere S6_inmateHere S6_nextToken S6_numberTo S6_isFour S6_riteHere S6_waitHere S6_needs S6_byteAt) (0, [some (.ref 41), none, none], [], MK n t b s p 0) := by
  obtain ⟨hc, hp, hI, hg⟩ := id hM
  have b1 : ∀ s p w, p ≤ n → TPm (MK n t b s p w) := fun s p w hp => mkTP hc s hp w
  have b2 : ∀ s p w, p ≤ n → TQm (MK n t b s p w) := fun s p w hp => mkTQ hc s hp w
  have b3 : ∀ s p w, p ≤ n → stm (MK n t b s p w) = MK n t b s (nx n t p) w := fun s p w hp => mkST hc s hp w
  have b4 : ∀ s p w top, p ≤ n → nuM (MK n t b s p w) top = nuI n t p top := fun s p w top hp => mkNU hc s hp w top
  have b5 := mk_rite hc s hp 0
  have b6 := mk_wait hc s hp 0
  have bk := mkKD hc s hp 0
  have bl := mkLW hc s hp 0
  have n1 : nx n t p ≤ n := nx_le t hp
  have n2 : nx n t (nx n t p) ≤ n := nx_le t n1
  rw [if_pos c2] at bl
  have m1 : (-1 : Int32) < 0 := by decide
  refine Rn_in D6_itemHere 120 ?_
  simp only [y6_itemHere_0, y6_itemHere_1, y6_itemHere_4, y6_itemHere_5, y6_itemHere_6, y6_itemHere_9, y6_itemHere_10, y6_itemHere_11, y6_itemHere_14, y6_itemHere_15, y6_itemHere_16, y6_itemHere_19, y6_itemHere_22, y6_itemHere_23, y6_itemHere_26, y6_itemHere_27, y6_itemHere_30, y6_itemHere_31, y6_itemHere_32, y6_itemHere_33, y6_itemHere_35, y6_itemHere_38, y6_itemHere_40, y6_itemHere_43, y6_itemHere_45, y6_itemHere_48, y6_itemHere_51, y6_itemHere_52, y6_itemHere_54, y6_itemHere_56, y6_itemHere_58, y6_itemHere_60, y6_itemHere_63, y6_itemHere_66, y6_itemHere_67, y6_itemHere_70, y6_itemHere_73, y6_itemHere_74, y6_itemHere_76, y6_itemHere_78, y6_itemHere_80, y6_itemHere_82, y6_itemHere_85, y6_itemHere_88, y6_itemHere_89, y6_itemHere_92, y6_itemHere_95, y6_itemHere_96, y6_itemHere_97, y6_itemHere_101, y6_itemHere_102, y6_itemHere_105, y6_itemHere_106, y6_itemHere_109, y6_itemHere_110, y6_itemHere_111, y6_itemHere_114, y6_itemHere_117, y6_itemHere_119, y6_itemHere_122, y6_itemHere_123, y6_itemHere_126, y6_itemHere_127, y6_itemHere_130, i_ald, i_cV, i_get, i_goto, i_ic, i_ic_ne, i_if_eq, i_if_lt, i_ild, i_ist, i_vret, oc_41, fv_41_0, fv_41_1, fv_41_2, fv_41_3, fv_41_4, ly_41_4, fv_41_5, fv_41_6, ly_41_6, fv_41_7, ly_41_7, fv_41_8, ly_41_8, fv_41_9, ly_41_9, fv_41_10, ly_41_10, fv_41_11, ly_41_11, fv_41_12, fv_41_13, fv_41_14, ly_41_14, fv_41_15, fv_41_16, fv_41_17, fv_41_18, fv_41_19, fv_41_20, fv_41_21, fv_41_22, ly_41_22, fv_41_23, ly_41_23, fv_41_24, ly_41_24, fv_41_25, ly_41_25, fv_41_26, ly_41_26, rd_42, al_42, rd_43, al_43, rd_44, al_44, rd_45, al_45, rd_46, al_46, rd_47, al_47, rd_48, al_48, rd_49, al_49, rd_50, al_50, rd_51, al_51, rd_52, al_52, rd_53, al_53, rd_54, al_54, rd_55, al_55, lck_0, lck_i, lck_r, lck_n, lck_l, csum_0, csum_i, csum_r, csum_l, pops_0, pops_s, psh_n, psh_s, List.getElem?_cons_zero, List.getElem?_cons_succ, List.set_cons_zero, List.set_cons_succ, true_and, and_true, Nat.reduceAdd, Nat.reduceLeDiff, k6_itemHere_100, t6_itemHere_100, S6_kindHere, S6_lawHere, S6_isFour, S6_needs, b1, b2, b5, b6, bk, bl, c1, m1, c3, c4, hp, nn, false_implies, true_implies, implies_true, and_true, true_and, not_true_eq_false, not_false_eq_true, eq_self]
  exact ⟨rfl, n, t, b, s, p, z, G, rfl, hM, tl hc (oOk_x (oWai_ok (dmy_8 G) hp hI))  hQ⟩
theorem it_r {n : Nat} {t : Nat → Int32} {b : Hp} {Q : Po} {s : Nat → Int32} {p : Nat} {z : Int32} {G : GG} (hM : MC n t b s p z G) (c1 : kdF (nmI n t p) < 0) (c2 : lwF (nmI n t p) < 0) (c3 : ¬ nmI n t p [114, 105, 116, 101] = 0) (hQ : mRes n t b z Q (endS n t (oRit n t p G))) : Rn (T6_itemHere Q S6_kindHere S6_lawHere S6_inmateHere S6_nextToken S6_numberTo S6_isFour S6_riteHere S6_waitHere S6_needs S6_byteAt) (0, [some (.ref 41), none, none], [], MK n t b s p 0) := by
  obtain ⟨hc, hp, hI, hg⟩ := id hM
  have b1 : ∀ s p w, p ≤ n → TPm (MK n t b s p w) := fun s p w hp => mkTP hc s hp w
  have b2 : ∀ s p w, p ≤ n → TQm (MK n t b s p w) := fun s p w hp => mkTQ hc s hp w
  have b3 : ∀ s p w, p ≤ n → stm (MK n t b s p w) = MK n t b s (nx n t p) w := fun s p w hp => mkST hc s hp w
  have b4 : ∀ s p w top, p ≤ n → nuM (MK n t b s p w) top = nuI n t p top := fun s p w top hp => mkNU hc s hp w top
  have b5 := mk_rite hc s hp 0
  have b6 := mk_wait hc s hp 0
  have bk := mkKD hc s hp 0
  have bl := mkLW hc s hp 0
  have n1 : nx n t p ≤ n := nx_le t hp
  have n2 : nx n t (nx n t p) ≤ n := nx_le t n1
  rw [if_pos c2] at bl
  have m1 : (-1 : Int32) < 0 := by decide
  refine Rn_in D6_itemHere 120 ?_
  simp only [y6_itemHere_0, y6_itemHere_1, y6_itemHere_4, y6_itemHere_5, y6_itemHere_6, y6_itemHere_9, y6_itemHere_10, y6_itemHere_11, y6_itemHere_14, y6_itemHere_15, y6_itemHere_16, y6_itemHere_19, y6_itemHere_22, y6_itemHere_23, y6_itemHere_26, y6_itemHere_27, y6_itemHere_30, y6_itemHere_31, y6_itemHere_32, y6_itemHere_33, y6_itemHere_35, y6_itemHere_38, y6_itemHere_40, y6_itemHere_43, y6_itemHere_45, y6_itemHere_48, y6_itemHere_51, y6_itemHere_52, y6_itemHere_54, y6_itemHere_56, y6_itemHere_58, y6_itemHere_60, y6_itemHere_63, y6_itemHere_66, y6_itemHere_67, y6_itemHere_70, y6_itemHere_73, y6_itemHere_74, y6_itemHere_76, y6_itemHere_78, y6_itemHere_80, y6_itemHere_82, y6_itemHere_85, y6_itemHere_88, y6_itemHere_89, y6_itemHere_92, y6_itemHere_95, y6_itemHere_96, y6_itemHere_97, y6_itemHere_101, y6_itemHere_102, y6_itemHere_105, y6_itemHere_106, y6_itemHere_109, y6_itemHere_110, y6_itemHere_111, y6_itemHere_114, y6_itemHere_117, y6_itemHere_119, y6_itemHere_122, y6_itemHere_123, y6_itemHere_126, y6_itemHere_127, y6_itemHere_130, i_ald, i_cV, i_get, i_goto, i_ic, i_ic_ne, i_if_eq, i_if_lt, i_ild, i_ist, i_vret, oc_41, fv_41_0, fv_41_1, fv_41_2, fv_41_3, fv_41_4, ly_41_4, fv_41_5, fv_41_6, ly_41_6, fv_41_7, ly_41_7, fv_41_8, ly_41_8, fv_41_9, ly_41_9, fv_41_10, ly_41_10, fv_41_11, ly_41_11, fv_41_12, fv_41_13, fv_41_14, ly_41_14, fv_41_15, fv_41_16, fv_41_17, fv_41_18, fv_41_19, fv_41_20, fv_41_21, fv_41_22, ly_41_22, fv_41_23, ly_41_23, fv_41_24, ly_41_24, fv_41_25, ly_41_25, fv_41_26, ly_41_26, rd_42, al_42, rd_43, al_43, rd_44, al_44, rd_45, al_45, rd_46, al_46, rd_47, al_47, rd_48, al_48, rd_49, al_49, rd_50, al_50, rd_51, al_51, rd_52, al_52, rd_53, al_53, rd_54, al_54, rd_55, al_55, lck_0, lck_i, lck_r, lck_n, lck_l, csum_0, csum_i, csum_r, csum_l, pops_0, pops_s, psh_n, psh_s, List.getElem?_cons_zero, List.getElem?_cons_succ, List.set_cons_zero, List.set_cons_succ, true_and, and_true, Nat.reduceAdd, Nat.reduceLeDiff, k6_itemHere_100, t6_itemHere_100, S6_kindHere, S6_lawHere, S6_isFour, S6_needs, b1, b2, b5, b6, bk, bl, c1, m1, c3, hp, nn, false_implies, true_implies, implies_true, and_true, true_and, not_true_eq_false, not_false_eq_true, eq_self]
  exact ⟨rfl, n, t, b, s, p, z, G, rfl, hM, tl hc (oOk_x (oRit_ok (dmy_8 G) hp hI))  hQ⟩
theorem it_i {n : Nat} {t : Nat → Int32} {b : Hp} {Q : Po} {s : Nat → Int32} {p : Nat} {z : Int32} {G : GG} (hM : MC n t b s p z G) (c1 : ¬ kdF (nmI n t p) < 0) (hQ : mRes n t b z Q (endS n t (oInm n t p G (kdF (nmI n t p))))) : Rn (T6_itemHere Q S6_kindHere S6_lawHere S6_inmateHere S6_nextToken S6_numberTo S6_isFour S6_riteHere S6_waitHere S6_needs S6_byteAt) (0, [some (.ref 41), none, none], [], MK n t b s p 0) := by
  obtain ⟨hc, hp, hI, hg⟩ := id hM
  have b1 : ∀ s p w, p ≤ n → TPm (MK n t b s p w) := fun s p w hp => mkTP hc s hp w
  have b2 : ∀ s p w, p ≤ n → TQm (MK n t b s p w) := fun s p w hp => mkTQ hc s hp w
  have b3 : ∀ s p w, p ≤ n → stm (MK n t b s p w) = MK n t b s (nx n t p) w := fun s p w hp => mkST hc s hp w
  have b4 : ∀ s p w top, p ≤ n → nuM (MK n t b s p w) top = nuI n t p top := fun s p w top hp => mkNU hc s hp w top
  have b5 := mk_rite hc s hp 0
  have b6 := mk_wait hc s hp 0
  have bk := mkKD hc s hp 0
  have bl := mkLW hc s hp 0
  have n1 : nx n t p ≤ n := nx_le t hp
  have n2 : nx n t (nx n t p) ≤ n := nx_le t n1
  refine Rn_in D6_itemHere 120 ?_
  simp only [y6_itemHere_0, y6_itemHere_1, y6_itemHere_4, y6_itemHere_5, y6_itemHere_6, y6_itemHere_9, y6_itemHere_10, y6_itemHere_11, y6_itemHere_14, y6_itemHere_15, y6_itemHere_16, y6_itemHere_19, y6_itemHere_22, y6_itemHere_23, y6_itemHere_26, y6_itemHere_27, y6_itemHere_30, y6_itemHere_31, y6_itemHere_32, y6_itemHere_33, y6_itemHere_35, y6_itemHere_38, y6_itemHere_40, y6_itemHere_43, y6_itemHere_45, y6_itemHere_48, y6_itemHere_51, y6_itemHere_52, y6_itemHere_54, y6_itemHere_56, y6_itemHere_58, y6_itemHere_60, y6_itemHere_63, y6_itemHere_66, y6_itemHere_67, y6_itemHere_70, y6_itemHere_73, y6_itemHere_74, y6_itemHere_76, y6_itemHere_78, y6_itemHere_80, y6_itemHere_82, y6_itemHere_85, y6_itemHere_88, y6_itemHere_89, y6_itemHere_92, y6_itemHere_95, y6_itemHere_96, y6_itemHere_97, y6_itemHere_101, y6_itemHere_102, y6_itemHere_105, y6_itemHere_106, y6_itemHere_109, y6_itemHere_110, y6_itemHere_111, y6_itemHere_114, y6_itemHere_117, y6_itemHere_119, y6_itemHere_122, y6_itemHere_123, y6_itemHere_126, y6_itemHere_127, y6_itemHere_130, i_ald, i_cV, i_get, i_goto, i_ic, i_ic_ne, i_if_eq, i_if_lt, i_ild, i_ist, i_vret, oc_41, fv_41_0, fv_41_1, fv_41_2, fv_41_3, fv_41_4, ly_41_4, fv_41_5, fv_41_6, ly_41_6, fv_41_7, ly_41_7, fv_41_8, ly_41_8, fv_41_9, ly_41_9, fv_41_10, ly_41_10, fv_41_11, ly_41_11, fv_41_12, fv_41_13, fv_41_14, ly_41_14, fv_41_15, fv_41_16, fv_41_17, fv_41_18, fv_41_19, fv_41_20, fv_41_21, fv_41_22, ly_41_22, fv_41_23, ly_41_23, fv_41_24, ly_41_24, fv_41_25, ly_41_25, fv_41_26, ly_41_26, rd_42, al_42, rd_43, al_43, rd_44, al_44, rd_45, al_45, rd_46, al_46, rd_47, al_47, rd_48, al_48, rd_49, al_49, rd_50, al_50, rd_51, al_51, rd_52, al_52, rd_53, al_53, rd_54, al_54, rd_55, al_55, lck_0, lck_i, lck_r, lck_n, lck_l, csum_0, csum_i, csum_r, csum_l, pops_0, pops_s, psh_n, psh_s, List.getElem?_cons_zero, List.getElem?_cons_succ, List.set_cons_zero, List.set_cons_succ, true_and, and_true, Nat.reduceAdd, Nat.reduceLeDiff, k6_itemHere_100, t6_itemHere_100, S6_kindHere, S6_lawHere, b1, b2, bk, bl, c1, hp, nn, false_implies, true_implies, implies_true, and_true, true_and, not_true_eq_false, not_false_eq_true, eq_self]
  exact ⟨rfl, n, t, b, s, p, z, G, rfl, hM, tl hc (oOk_x (oInm_ok (dmy_8 G) hp hI (nneg0 (kdF_r (nmI n t p)) c1)))  hQ⟩
theorem it_f0 {n : Nat} {t : Nat → Int32} {b : Hp} {Q : Po} {s : Nat → Int32} {p : Nat} {z : Int32} {G : GG} (hM : MC n t b s p z G) (c1 : kdF (nmI n t p) < 0) (q : lwF (nmI n t p) = 0) (c3 : nuI n t (nx n t p) 9 = 0) (hQ : ∀ s, Q none (MK n t b s (nx n t p) 1)) : Rn (T6_itemHere Q S6_kindHere S6_lawHere S6_inmateHere S6_nextToken S6_numberTo S6_isFour S6_riteHere S6_waitHere S6_needs S6_byteAt) (0, [some (.ref 41), none, none], [], MK n t b s p 0) := by
  obtain ⟨hc, hp, hI, hg⟩ := id hM
  have b1 : ∀ s p w, p ≤ n → TPm (MK n t b s p w) := fun s p w hp => mkTP hc s hp w
  have b2 : ∀ s p w, p ≤ n → TQm (MK n t b s p w) := fun s p w hp => mkTQ hc s hp w
  have b3 : ∀ s p w, p ≤ n → stm (MK n t b s p w) = MK n t b s (nx n t p) w := fun s p w hp => mkST hc s hp w
  have b4 : ∀ s p w top, p ≤ n → nuM (MK n t b s p w) top = nuI n t p top := fun s p w top hp => mkNU hc s hp w top
  have b5 := mk_rite hc s hp 0
  have b6 := mk_wait hc s hp 0
  have bk := mkKD hc s hp 0
  have bl := mkLW hc s hp 0
  have n1 : nx n t p ≤ n := nx_le t hp
  have n2 : nx n t (nx n t p) ≤ n := nx_le t n1
  rw [if_neg (by rw [q]; decide), q, show (3 : Int32) + 0 = 3 from rfl] at bl
  have m1 : ¬ (3 : Int32) < 0 := by decide
  have m2 : ((0 : Int32) ≤ 3 ∧ (3 : Int32) < 47) = True := by decide
  have m3 : ((3 : Int32) = 6) = False := by decide
  have m4 : Int32.toNatClampNeg 3 = 3 := by decide
  refine Rn_in D6_itemHere 120 ?_
  simp only [y6_itemHere_0, y6_itemHere_1, y6_itemHere_4, y6_itemHere_5, y6_itemHere_6, y6_itemHere_9, y6_itemHere_10, y6_itemHere_11, y6_itemHere_14, y6_itemHere_15, y6_itemHere_16, y6_itemHere_19, y6_itemHere_22, y6_itemHere_23, y6_itemHere_26, y6_itemHere_27, y6_itemHere_30, y6_itemHere_31, y6_itemHere_32, y6_itemHere_33, y6_itemHere_35, y6_itemHere_38, y6_itemHere_40, y6_itemHere_43, y6_itemHere_45, y6_itemHere_48, y6_itemHere_51, y6_itemHere_52, y6_itemHere_54, y6_itemHere_56, y6_itemHere_58, y6_itemHere_60, y6_itemHere_63, y6_itemHere_66, y6_itemHere_67, y6_itemHere_70, y6_itemHere_73, y6_itemHere_74, y6_itemHere_76, y6_itemHere_78, y6_itemHere_80, y6_itemHere_82, y6_itemHere_85, y6_itemHere_88, y6_itemHere_89, y6_itemHere_92, y6_itemHere_95, y6_itemHere_96, y6_itemHere_97, y6_itemHere_101, y6_itemHere_102, y6_itemHere_105, y6_itemHere_106, y6_itemHere_109, y6_itemHere_110, y6_itemHere_111, y6_itemHere_114, y6_itemHere_117, y6_itemHere_119, y6_itemHere_122, y6_itemHere_123, y6_itemHere_126, y6_itemHere_127, y6_itemHere_130, i_ald, i_cV, i_get, i_goto, i_ic, i_ic_ne, i_if_eq, i_if_lt, i_ild, i_ist, i_vret, oc_41, fv_41_0, fv_41_1, fv_41_2, fv_41_3, fv_41_4, ly_41_4, fv_41_5, fv_41_6, ly_41_6, fv_41_7, ly_41_7, fv_41_8, ly_41_8, fv_41_9, ly_41_9, fv_41_10, ly_41_10, fv_41_11, ly_41_11, fv_41_12, fv_41_13, fv_41_14, ly_41_14, fv_41_15, fv_41_16, fv_41_17, fv_41_18, fv_41_19, fv_41_20, fv_41_21, fv_41_22, ly_41_22, fv_41_23, ly_41_23, fv_41_24, ly_41_24, fv_41_25, ly_41_25, fv_41_26, ly_41_26, rd_42, al_42, rd_43, al_43, rd_44, al_44, rd_45, al_45, rd_46, al_46, rd_47, al_47, rd_48, al_48, rd_49, al_49, rd_50, al_50, rd_51, al_51, rd_52, al_52, rd_53, al_53, rd_54, al_54, rd_55, al_55, lck_0, lck_i, lck_r, lck_n, lck_l, csum_0, csum_i, csum_r, csum_l, pops_0, pops_s, psh_n, psh_s, List.getElem?_cons_zero, List.getElem?_cons_succ, List.set_cons_zero, List.set_cons_succ, true_and, and_true, Nat.reduceAdd, Nat.reduceLeDiff, k6_itemHere_100, t6_itemHere_100, S6_kindHere, S6_lawHere, S6_nextToken, S6_numberTo, b1, b2, b3, b4, bk, bl, c1, m1, m2, m3, m4, c3, hp, n1, MK_10, MK_11, MK_w, MK_s, or_true, and_false, nn, false_implies, true_implies, implies_true, and_true, true_and, not_true_eq_false, not_false_eq_true, eq_self]
  exact tlW hc s n1 hQ
theorem it_l0 {n : Nat} {t : Nat → Int32} {b : Hp} {Q : Po} {s : Nat → Int32} {p : Nat} {z : Int32} {G : GG} (hM : MC n t b s p z G) (c1 : kdF (nmI n t p) < 0) (q : lwF (nmI n t p) = 0) (c3 : ¬ nuI n t (nx n t p) 9 = 0) (hQ : mRes n t b z Q (endS n t (.inr (nx n t (nx n t p), up2 G 1 0 (vlC n t (st n t (nx n t p))))))) : Rn (T6_itemHere Q S6_kindHere S6_lawHere S6_inmateHere S6_nextToken S6_numberTo S6_isFour S6_riteHere S6_waitHere S6_needs S6_byteAt) (0, [some (.ref 41), none, none], [], MK n t b s p 0) := by
  obtain ⟨hc, hp, hI, hg⟩ := id hM
  have b1 : ∀ s p w, p ≤ n → TPm (MK n t b s p w) := fun s p w hp => mkTP hc s hp w
  have b2 : ∀ s p w, p ≤ n → TQm (MK n t b s p w) := fun s p w hp => mkTQ hc s hp w
  have b3 : ∀ s p w, p ≤ n → stm (MK n t b s p w) = MK n t b s (nx n t p) w := fun s p w hp => mkST hc s hp w
  have b4 : ∀ s p w top, p ≤ n → nuM (MK n t b s p w) top = nuI n t p top := fun s p w top hp => mkNU hc s hp w top
  have b5 := mk_rite hc s hp 0
  have b6 := mk_wait hc s hp 0
  have bk := mkKD hc s hp 0
  have bl := mkLW hc s hp 0
  have n1 : nx n t p ≤ n := nx_le t hp
  have n2 : nx n t (nx n t p) ≤ n := nx_le t n1
  rw [if_neg (by rw [q]; decide), q, show (3 : Int32) + 0 = 3 from rfl] at bl
  have m1 : ¬ (3 : Int32) < 0 := by decide
  have m2 : ((0 : Int32) ≤ 3 ∧ (3 : Int32) < 47) = True := by decide
  have m3 : ((3 : Int32) = 6) = False := by decide
  have m4 : Int32.toNatClampNeg 3 = 3 := by decide
  have e1 : vlM n t (st n t (nx n t p)) = vlC n t (st n t (nx n t p)) := (vl_rng c3).2.2
  refine Rn_in D6_itemHere 120 ?_
  simp only [y6_itemHere_0, y6_itemHere_1, y6_itemHere_4, y6_itemHere_5, y6_itemHere_6, y6_itemHere_9, y6_itemHere_10, y6_itemHere_11, y6_itemHere_14, y6_itemHere_15, y6_itemHere_16, y6_itemHere_19, y6_itemHere_22, y6_itemHere_23, y6_itemHere_26, y6_itemHere_27, y6_itemHere_30, y6_itemHere_31, y6_itemHere_32, y6_itemHere_33, y6_itemHere_35, y6_itemHere_38, y6_itemHere_40, y6_itemHere_43, y6_itemHere_45, y6_itemHere_48, y6_itemHere_51, y6_itemHere_52, y6_itemHere_54, y6_itemHere_56, y6_itemHere_58, y6_itemHere_60, y6_itemHere_63, y6_itemHere_66, y6_itemHere_67, y6_itemHere_70, y6_itemHere_73, y6_itemHere_74, y6_itemHere_76, y6_itemHere_78, y6_itemHere_80, y6_itemHere_82, y6_itemHere_85, y6_itemHere_88, y6_itemHere_89, y6_itemHere_92, y6_itemHere_95, y6_itemHere_96, y6_itemHere_97, y6_itemHere_101, y6_itemHere_102, y6_itemHere_105, y6_itemHere_106, y6_itemHere_109, y6_itemHere_110, y6_itemHere_111, y6_itemHere_114, y6_itemHere_117, y6_itemHere_119, y6_itemHere_122, y6_itemHere_123, y6_itemHere_126, y6_itemHere_127, y6_itemHere_130, i_ald, i_cV, i_get, i_goto, i_ic, i_ic_ne, i_if_eq, i_if_lt, i_ild, i_ist, i_vret, oc_41, fv_41_0, fv_41_1, fv_41_2, fv_41_3, fv_41_4, ly_41_4, fv_41_5, fv_41_6, ly_41_6, fv_41_7, ly_41_7, fv_41_8, ly_41_8, fv_41_9, ly_41_9, fv_41_10, ly_41_10, fv_41_11, ly_41_11, fv_41_12, fv_41_13, fv_41_14, ly_41_14, fv_41_15, fv_41_16, fv_41_17, fv_41_18, fv_41_19, fv_41_20, fv_41_21, fv_41_22, ly_41_22, fv_41_23, ly_41_23, fv_41_24, ly_41_24, fv_41_25, ly_41_25, fv_41_26, ly_41_26, rd_42, al_42, rd_43, al_43, rd_44, al_44, rd_45, al_45, rd_46, al_46, rd_47, al_47, rd_48, al_48, rd_49, al_49, rd_50, al_50, rd_51, al_51, rd_52, al_52, rd_53, al_53, rd_54, al_54, rd_55, al_55, lck_0, lck_i, lck_r, lck_n, lck_l, csum_0, csum_i, csum_r, csum_l, pops_0, pops_s, psh_n, psh_s, List.getElem?_cons_zero, List.getElem?_cons_succ, List.set_cons_zero, List.set_cons_succ, true_and, and_true, Nat.reduceAdd, Nat.reduceLeDiff, k6_itemHere_100, t6_itemHere_100, S6_kindHere, S6_lawHere, S6_nextToken, S6_numberTo, b1, b2, b3, b4, bk, bl, c1, m1, m2, m3, m4, c3, hp, n1, e1, MK_10, MK_11, MK_w, MK_s, or_true, or_false, and_false, nn, false_implies, true_implies, implies_true, and_true, true_and, not_true_eq_false, not_false_eq_true, eq_self]
  refine tl0 hc _ n2 ?_ hQ
  rw [show (upd s 3 (vlC n t (st n t (nx n t p)))) = upd s (3 + 0) (vlC n t (st n t (nx n t p))) from rfl, mv_u1 _ (by decide), zG_up _ _ _ _ (by decide)]
  exact Geq_up hg _ _ (by simp)
theorem it_f1 {n : Nat} {t : Nat → Int32} {b : Hp} {Q : Po} {s : Nat → Int32} {p : Nat} {z : Int32} {G : GG} (hM : MC n t b s p z G) (c1 : kdF (nmI n t p) < 0) (q : lwF (nmI n t p) = 1) (c3 : nuI n t (nx n t p) 9 = 0) (hQ : ∀ s, Q none (MK n t b s (nx n t p) 1)) : Rn (T6_itemHere Q S6_kindHere S6_lawHere S6_inmateHere S6_nextToken S6_numberTo S6_isFour S6_riteHere S6_waitHere S6_needs S6_byteAt) (0, [some (.ref 41), none, none], [], MK n t b s p 0) := by
  obtain ⟨hc, hp, hI, hg⟩ := id hM
  have b1 : ∀ s p w, p ≤ n → TPm (MK n t b s p w) := fun s p w hp => mkTP hc s hp w
  have b2 : ∀ s p w, p ≤ n → TQm (MK n t b s p w) := fun s p w hp => mkTQ hc s hp w
  have b3 : ∀ s p w, p ≤ n → stm (MK n t b s p w) = MK n t b s (nx n t p) w := fun s p w hp => mkST hc s hp w
  have b4 : ∀ s p w top, p ≤ n → nuM (MK n t b s p w) top = nuI n t p top := fun s p w top hp => mkNU hc s hp w top
  have b5 := mk_rite hc s hp 0
  have b6 := mk_wait hc s hp 0
  have bk := mkKD hc s hp 0
  have bl := mkLW hc s hp 0
  have n1 : nx n t p ≤ n := nx_le t hp
  have n2 : nx n t (nx n t p) ≤ n := nx_le t n1
  rw [if_neg (by rw [q]; decide), q, show (3 : Int32) + 1 = 4 from rfl] at bl
  have m1 : ¬ (4 : Int32) < 0 := by decide
  have m2 : ((0 : Int32) ≤ 4 ∧ (4 : Int32) < 47) = True := by decide
  have m3 : ((4 : Int32) = 6) = False := by decide
  have m4 : Int32.toNatClampNeg 4 = 4 := by decide
  refine Rn_in D6_itemHere 120 ?_
  simp only [y6_itemHere_0, y6_itemHere_1, y6_itemHere_4, y6_itemHere_5, y6_itemHere_6, y6_itemHere_9, y6_itemHere_10, y6_itemHere_11, y6_itemHere_14, y6_itemHere_15, y6_itemHere_16, y6_itemHere_19, y6_itemHere_22, y6_itemHere_23, y6_itemHere_26, y6_itemHere_27, y6_itemHere_30, y6_itemHere_31, y6_itemHere_32, y6_itemHere_33, y6_itemHere_35, y6_itemHere_38, y6_itemHere_40, y6_itemHere_43, y6_itemHere_45, y6_itemHere_48, y6_itemHere_51, y6_itemHere_52, y6_itemHere_54, y6_itemHere_56, y6_itemHere_58, y6_itemHere_60, y6_itemHere_63, y6_itemHere_66, y6_itemHere_67, y6_itemHere_70, y6_itemHere_73, y6_itemHere_74, y6_itemHere_76, y6_itemHere_78, y6_itemHere_80, y6_itemHere_82, y6_itemHere_85, y6_itemHere_88, y6_itemHere_89, y6_itemHere_92, y6_itemHere_95, y6_itemHere_96, y6_itemHere_97, y6_itemHere_101, y6_itemHere_102, y6_itemHere_105, y6_itemHere_106, y6_itemHere_109, y6_itemHere_110, y6_itemHere_111, y6_itemHere_114, y6_itemHere_117, y6_itemHere_119, y6_itemHere_122, y6_itemHere_123, y6_itemHere_126, y6_itemHere_127, y6_itemHere_130, i_ald, i_cV, i_get, i_goto, i_ic, i_ic_ne, i_if_eq, i_if_lt, i_ild, i_ist, i_vret, oc_41, fv_41_0, fv_41_1, fv_41_2, fv_41_3, fv_41_4, ly_41_4, fv_41_5, fv_41_6, ly_41_6, fv_41_7, ly_41_7, fv_41_8, ly_41_8, fv_41_9, ly_41_9, fv_41_10, ly_41_10, fv_41_11, ly_41_11, fv_41_12, fv_41_13, fv_41_14, ly_41_14, fv_41_15, fv_41_16, fv_41_17, fv_41_18, fv_41_19, fv_41_20, fv_41_21, fv_41_22, ly_41_22, fv_41_23, ly_41_23, fv_41_24, ly_41_24, fv_41_25, ly_41_25, fv_41_26, ly_41_26, rd_42, al_42, rd_43, al_43, rd_44, al_44, rd_45, al_45, rd_46, al_46, rd_47, al_47, rd_48, al_48, rd_49, al_49, rd_50, al_50, rd_51, al_51, rd_52, al_52, rd_53, al_53, rd_54, al_54, rd_55, al_55, lck_0, lck_i, lck_r, lck_n, lck_l, csum_0, csum_i, csum_r, csum_l, pops_0, pops_s, psh_n, psh_s, List.getElem?_cons_zero, List.getElem?_cons_succ, List.set_cons_zero, List.set_cons_succ, true_and, and_true, Nat.reduceAdd, Nat.reduceLeDiff, k6_itemHere_100, t6_itemHere_100, S6_kindHere, S6_lawHere, S6_nextToken, S6_numberTo, b1, b2, b3, b4, bk, bl, c1, m1, m2, m3, m4, c3, hp, n1, MK_10, MK_11, MK_w, MK_s, or_true, and_false, nn, false_implies, true_implies, implies_true, and_true, true_and, not_true_eq_false, not_false_eq_true, eq_self]
  exact tlW hc s n1 hQ
theorem it_l1 {n : Nat} {t : Nat → Int32} {b : Hp} {Q : Po} {s : Nat → Int32} {p : Nat} {z : Int32} {G : GG} (hM : MC n t b s p z G) (c1 : kdF (nmI n t p) < 0) (q : lwF (nmI n t p) = 1) (c3 : ¬ nuI n t (nx n t p) 9 = 0) (hQ : mRes n t b z Q (endS n t (.inr (nx n t (nx n t p), up2 G 1 1 (vlC n t (st n t (nx n t p))))))) : Rn (T6_itemHere Q S6_kindHere S6_lawHere S6_inmateHere S6_nextToken S6_numberTo S6_isFour S6_riteHere S6_waitHere S6_needs S6_byteAt) (0, [some (.ref 41), none, none], [], MK n t b s p 0) := by
  obtain ⟨hc, hp, hI, hg⟩ := id hM
  have b1 : ∀ s p w, p ≤ n → TPm (MK n t b s p w) := fun s p w hp => mkTP hc s hp w
  have b2 : ∀ s p w, p ≤ n → TQm (MK n t b s p w) := fun s p w hp => mkTQ hc s hp w
  have b3 : ∀ s p w, p ≤ n → stm (MK n t b s p w) = MK n t b s (nx n t p) w := fun s p w hp => mkST hc s hp w
  have b4 : ∀ s p w top, p ≤ n → nuM (MK n t b s p w) top = nuI n t p top := fun s p w top hp => mkNU hc s hp w top
  have b5 := mk_rite hc s hp 0
  have b6 := mk_wait hc s hp 0
  have bk := mkKD hc s hp 0
  have bl := mkLW hc s hp 0
  have n1 : nx n t p ≤ n := nx_le t hp
  have n2 : nx n t (nx n t p) ≤ n := nx_le t n1
  rw [if_neg (by rw [q]; decide), q, show (3 : Int32) + 1 = 4 from rfl] at bl
  have m1 : ¬ (4 : Int32) < 0 := by decide
  have m2 : ((0 : Int32) ≤ 4 ∧ (4 : Int32) < 47) = True := by decide
  have m3 : ((4 : Int32) = 6) = False := by decide
  have m4 : Int32.toNatClampNeg 4 = 4 := by decide
  have e1 : vlM n t (st n t (nx n t p)) = vlC n t (st n t (nx n t p)) := (vl_rng c3).2.2
  refine Rn_in D6_itemHere 120 ?_
  simp only [y6_itemHere_0, y6_itemHere_1, y6_itemHere_4, y6_itemHere_5, y6_itemHere_6, y6_itemHere_9, y6_itemHere_10, y6_itemHere_11, y6_itemHere_14, y6_itemHere_15, y6_itemHere_16, y6_itemHere_19, y6_itemHere_22, y6_itemHere_23, y6_itemHere_26, y6_itemHere_27, y6_itemHere_30, y6_itemHere_31, y6_itemHere_32, y6_itemHere_33, y6_itemHere_35, y6_itemHere_38, y6_itemHere_40, y6_itemHere_43, y6_itemHere_45, y6_itemHere_48, y6_itemHere_51, y6_itemHere_52, y6_itemHere_54, y6_itemHere_56, y6_itemHere_58, y6_itemHere_60, y6_itemHere_63, y6_itemHere_66, y6_itemHere_67, y6_itemHere_70, y6_itemHere_73, y6_itemHere_74, y6_itemHere_76, y6_itemHere_78, y6_itemHere_80, y6_itemHere_82, y6_itemHere_85, y6_itemHere_88, y6_itemHere_89, y6_itemHere_92, y6_itemHere_95, y6_itemHere_96, y6_itemHere_97, y6_itemHere_101, y6_itemHere_102, y6_itemHere_105, y6_itemHere_106, y6_itemHere_109, y6_itemHere_110, y6_itemHere_111, y6_itemHere_114, y6_itemHere_117, y6_itemHere_119, y6_itemHere_122, y6_itemHere_123, y6_itemHere_126, y6_itemHere_127, y6_itemHere_130, i_ald, i_cV, i_get, i_goto, i_ic, i_ic_ne, i_if_eq, i_if_lt, i_ild, i_ist, i_vret, oc_41, fv_41_0, fv_41_1, fv_41_2, fv_41_3, fv_41_4, ly_41_4, fv_41_5, fv_41_6, ly_41_6, fv_41_7, ly_41_7, fv_41_8, ly_41_8, fv_41_9, ly_41_9, fv_41_10, ly_41_10, fv_41_11, ly_41_11, fv_41_12, fv_41_13, fv_41_14, ly_41_14, fv_41_15, fv_41_16, fv_41_17, fv_41_18, fv_41_19, fv_41_20, fv_41_21, fv_41_22, ly_41_22, fv_41_23, ly_41_23, fv_41_24, ly_41_24, fv_41_25, ly_41_25, fv_41_26, ly_41_26, rd_42, al_42, rd_43, al_43, rd_44, al_44, rd_45, al_45, rd_46, al_46, rd_47, al_47, rd_48, al_48, rd_49, al_49, rd_50, al_50, rd_51, al_51, rd_52, al_52, rd_53, al_53, rd_54, al_54, rd_55, al_55, lck_0, lck_i, lck_r, lck_n, lck_l, csum_0, csum_i, csum_r, csum_l, pops_0, pops_s, psh_n, psh_s, List.getElem?_cons_zero, List.getElem?_cons_succ, List.set_cons_zero, List.set_cons_succ, true_and, and_true, Nat.reduceAdd, Nat.reduceLeDiff, k6_itemHere_100, t6_itemHere_100, S6_kindHere, S6_lawHere, S6_nextToken, S6_numberTo, b1, b2, b3, b4, bk, bl, c1, m1, m2, m3, m4, c3, hp, n1, e1, MK_10, MK_11, MK_w, MK_s, or_true, or_false, and_false, nn, false_implies, true_implies, implies_true, and_true, true_and, not_true_eq_false, not_false_eq_true, eq_self]
  refine tl0 hc _ n2 ?_ hQ
  rw [show (upd s 4 (vlC n t (st n t (nx n t p)))) = upd s (3 + 1) (vlC n t (st n t (nx n t p))) from rfl, mv_u1 _ (by decide), zG_up _ _ _ _ (by decide)]
  exact Geq_up hg _ _ (by simp)
theorem it_f2 {n : Nat} {t : Nat → Int32} {b : Hp} {Q : Po} {s : Nat → Int32} {p : Nat} {z : Int32} {G : GG} (hM : MC n t b s p z G) (c1 : kdF (nmI n t p) < 0) (q : lwF (nmI n t p) = 2) (c3 : nuI n t (nx n t p) 9 = 0) (hQ : ∀ s, Q none (MK n t b s (nx n t p) 1)) : Rn (T6_itemHere Q S6_kindHere S6_lawHere S6_inmateHere S6_nextToken S6_numberTo S6_isFour S6_riteHere S6_waitHere S6_needs S6_byteAt) (0, [some (.ref 41), none, none], [], MK n t b s p 0) := by
  obtain ⟨hc, hp, hI, hg⟩ := id hM
  have b1 : ∀ s p w, p ≤ n → TPm (MK n t b s p w) := fun s p w hp => mkTP hc s hp w
  have b2 : ∀ s p w, p ≤ n → TQm (MK n t b s p w) := fun s p w hp => mkTQ hc s hp w
  have b3 : ∀ s p w, p ≤ n → stm (MK n t b s p w) = MK n t b s (nx n t p) w := fun s p w hp => mkST hc s hp w
  have b4 : ∀ s p w top, p ≤ n → nuM (MK n t b s p w) top = nuI n t p top := fun s p w top hp => mkNU hc s hp w top
  have b5 := mk_rite hc s hp 0
  have b6 := mk_wait hc s hp 0
  have bk := mkKD hc s hp 0
  have bl := mkLW hc s hp 0
  have n1 : nx n t p ≤ n := nx_le t hp
  have n2 : nx n t (nx n t p) ≤ n := nx_le t n1
  rw [if_neg (by rw [q]; decide), q, show (3 : Int32) + 2 = 5 from rfl] at bl
  have m1 : ¬ (5 : Int32) < 0 := by decide
  have m2 : ((0 : Int32) ≤ 5 ∧ (5 : Int32) < 47) = True := by decide
  have m3 : ((5 : Int32) = 6) = False := by decide
  have m4 : Int32.toNatClampNeg 5 = 5 := by decide
  refine Rn_in D6_itemHere 120 ?_
  simp only [y6_itemHere_0, y6_itemHere_1, y6_itemHere_4, y6_itemHere_5, y6_itemHere_6, y6_itemHere_9, y6_itemHere_10, y6_itemHere_11, y6_itemHere_14, y6_itemHere_15, y6_itemHere_16, y6_itemHere_19, y6_itemHere_22, y6_itemHere_23, y6_itemHere_26, y6_itemHere_27, y6_itemHere_30, y6_itemHere_31, y6_itemHere_32, y6_itemHere_33, y6_itemHere_35, y6_itemHere_38, y6_itemHere_40, y6_itemHere_43, y6_itemHere_45, y6_itemHere_48, y6_itemHere_51, y6_itemHere_52, y6_itemHere_54, y6_itemHere_56, y6_itemHere_58, y6_itemHere_60, y6_itemHere_63, y6_itemHere_66, y6_itemHere_67, y6_itemHere_70, y6_itemHere_73, y6_itemHere_74, y6_itemHere_76, y6_itemHere_78, y6_itemHere_80, y6_itemHere_82, y6_itemHere_85, y6_itemHere_88, y6_itemHere_89, y6_itemHere_92, y6_itemHere_95, y6_itemHere_96, y6_itemHere_97, y6_itemHere_101, y6_itemHere_102, y6_itemHere_105, y6_itemHere_106, y6_itemHere_109, y6_itemHere_110, y6_itemHere_111, y6_itemHere_114, y6_itemHere_117, y6_itemHere_119, y6_itemHere_122, y6_itemHere_123, y6_itemHere_126, y6_itemHere_127, y6_itemHere_130, i_ald, i_cV, i_get, i_goto, i_ic, i_ic_ne, i_if_eq, i_if_lt, i_ild, i_ist, i_vret, oc_41, fv_41_0, fv_41_1, fv_41_2, fv_41_3, fv_41_4, ly_41_4, fv_41_5, fv_41_6, ly_41_6, fv_41_7, ly_41_7, fv_41_8, ly_41_8, fv_41_9, ly_41_9, fv_41_10, ly_41_10, fv_41_11, ly_41_11, fv_41_12, fv_41_13, fv_41_14, ly_41_14, fv_41_15, fv_41_16, fv_41_17, fv_41_18, fv_41_19, fv_41_20, fv_41_21, fv_41_22, ly_41_22, fv_41_23, ly_41_23, fv_41_24, ly_41_24, fv_41_25, ly_41_25, fv_41_26, ly_41_26, rd_42, al_42, rd_43, al_43, rd_44, al_44, rd_45, al_45, rd_46, al_46, rd_47, al_47, rd_48, al_48, rd_49, al_49, rd_50, al_50, rd_51, al_51, rd_52, al_52, rd_53, al_53, rd_54, al_54, rd_55, al_55, lck_0, lck_i, lck_r, lck_n, lck_l, csum_0, csum_i, csum_r, csum_l, pops_0, pops_s, psh_n, psh_s, List.getElem?_cons_zero, List.getElem?_cons_succ, List.set_cons_zero, List.set_cons_succ, true_and, and_true, Nat.reduceAdd, Nat.reduceLeDiff, k6_itemHere_100, t6_itemHere_100, S6_kindHere, S6_lawHere, S6_nextToken, S6_numberTo, b1, b2, b3, b4, bk, bl, c1, m1, m2, m3, m4, c3, hp, n1, MK_10, MK_11, MK_w, MK_s, or_true, and_false, nn, false_implies, true_implies, implies_true, and_true, true_and, not_true_eq_false, not_false_eq_true, eq_self]
  exact tlW hc s n1 hQ
theorem it_l2 {n : Nat} {t : Nat → Int32} {b : Hp} {Q : Po} {s : Nat → Int32} {p : Nat} {z : Int32} {G : GG} (hM : MC n t b s p z G) (c1 : kdF (nmI n t p) < 0) (q : lwF (nmI n t p) = 2) (c3 : ¬ nuI n t (nx n t p) 9 = 0) (hQ : mRes n t b z Q (endS n t (.inr (nx n t (nx n t p), up2 G 1 2 (vlC n t (st n t (nx n t p))))))) : Rn (T6_itemHere Q S6_kindHere S6_lawHere S6_inmateHere S6_nextToken S6_numberTo S6_isFour S6_riteHere S6_waitHere S6_needs S6_byteAt) (0, [some (.ref 41), none, none], [], MK n t b s p 0) := by
  obtain ⟨hc, hp, hI, hg⟩ := id hM
  have b1 : ∀ s p w, p ≤ n → TPm (MK n t b s p w) := fun s p w hp => mkTP hc s hp w
  have b2 : ∀ s p w, p ≤ n → TQm (MK n t b s p w) := fun s p w hp => mkTQ hc s hp w
  have b3 : ∀ s p w, p ≤ n → stm (MK n t b s p w) = MK n t b s (nx n t p) w := fun s p w hp => mkST hc s hp w
  have b4 : ∀ s p w top, p ≤ n → nuM (MK n t b s p w) top = nuI n t p top := fun s p w top hp => mkNU hc s hp w top
  have b5 := mk_rite hc s hp 0
  have b6 := mk_wait hc s hp 0
  have bk := mkKD hc s hp 0
  have bl := mkLW hc s hp 0
  have n1 : nx n t p ≤ n := nx_le t hp
  have n2 : nx n t (nx n t p) ≤ n := nx_le t n1
  rw [if_neg (by rw [q]; decide), q, show (3 : Int32) + 2 = 5 from rfl] at bl
  have m1 : ¬ (5 : Int32) < 0 := by decide
  have m2 : ((0 : Int32) ≤ 5 ∧ (5 : Int32) < 47) = True := by decide
  have m3 : ((5 : Int32) = 6) = False := by decide
  have m4 : Int32.toNatClampNeg 5 = 5 := by decide
  have e1 : vlM n t (st n t (nx n t p)) = vlC n t (st n t (nx n t p)) := (vl_rng c3).2.2
  refine Rn_in D6_itemHere 120 ?_
  simp only [y6_itemHere_0, y6_itemHere_1, y6_itemHere_4, y6_itemHere_5, y6_itemHere_6, y6_itemHere_9, y6_itemHere_10, y6_itemHere_11, y6_itemHere_14, y6_itemHere_15, y6_itemHere_16, y6_itemHere_19, y6_itemHere_22, y6_itemHere_23, y6_itemHere_26, y6_itemHere_27, y6_itemHere_30, y6_itemHere_31, y6_itemHere_32, y6_itemHere_33, y6_itemHere_35, y6_itemHere_38, y6_itemHere_40, y6_itemHere_43, y6_itemHere_45, y6_itemHere_48, y6_itemHere_51, y6_itemHere_52, y6_itemHere_54, y6_itemHere_56, y6_itemHere_58, y6_itemHere_60, y6_itemHere_63, y6_itemHere_66, y6_itemHere_67, y6_itemHere_70, y6_itemHere_73, y6_itemHere_74, y6_itemHere_76, y6_itemHere_78, y6_itemHere_80, y6_itemHere_82, y6_itemHere_85, y6_itemHere_88, y6_itemHere_89, y6_itemHere_92, y6_itemHere_95, y6_itemHere_96, y6_itemHere_97, y6_itemHere_101, y6_itemHere_102, y6_itemHere_105, y6_itemHere_106, y6_itemHere_109, y6_itemHere_110, y6_itemHere_111, y6_itemHere_114, y6_itemHere_117, y6_itemHere_119, y6_itemHere_122, y6_itemHere_123, y6_itemHere_126, y6_itemHere_127, y6_itemHere_130, i_ald, i_cV, i_get, i_goto, i_ic, i_ic_ne, i_if_eq, i_if_lt, i_ild, i_ist, i_vret, oc_41, fv_41_0, fv_41_1, fv_41_2, fv_41_3, fv_41_4, ly_41_4, fv_41_5, fv_41_6, ly_41_6, fv_41_7, ly_41_7, fv_41_8, ly_41_8, fv_41_9, ly_41_9, fv_41_10, ly_41_10, fv_41_11, ly_41_11, fv_41_12, fv_41_13, fv_41_14, ly_41_14, fv_41_15, fv_41_16, fv_41_17, fv_41_18, fv_41_19, fv_41_20, fv_41_21, fv_41_22, ly_41_22, fv_41_23, ly_41_23, fv_41_24, ly_41_24, fv_41_25, ly_41_25, fv_41_26, ly_41_26, rd_42, al_42, rd_43, al_43, rd_44, al_44, rd_45, al_45, rd_46, al_46, rd_47, al_47, rd_48, al_48, rd_49, al_49, rd_50, al_50, rd_51, al_51, rd_52, al_52, rd_53, al_53, rd_54, al_54, rd_55, al_55, lck_0, lck_i, lck_r, lck_n, lck_l, csum_0, csum_i, csum_r, csum_l, pops_0, pops_s, psh_n, psh_s, List.getElem?_cons_zero, List.getElem?_cons_succ, List.set_cons_zero, List.set_cons_succ, true_and, and_true, Nat.reduceAdd, Nat.reduceLeDiff, k6_itemHere_100, t6_itemHere_100, S6_kindHere, S6_lawHere, S6_nextToken, S6_numberTo, b1, b2, b3, b4, bk, bl, c1, m1, m2, m3, m4, c3, hp, n1, e1, MK_10, MK_11, MK_w, MK_s, or_true, or_false, and_false, nn, false_implies, true_implies, implies_true, and_true, true_and, not_true_eq_false, not_false_eq_true, eq_self]
  refine tl0 hc _ n2 ?_ hQ
  rw [show (upd s 5 (vlC n t (st n t (nx n t p)))) = upd s (3 + 2) (vlC n t (st n t (nx n t p))) from rfl, mv_u1 _ (by decide), zG_up _ _ _ _ (by decide)]
  exact Geq_up hg _ _ (by simp)
theorem it_f3 {n : Nat} {t : Nat → Int32} {b : Hp} {Q : Po} {s : Nat → Int32} {p : Nat} {z : Int32} {G : GG} (hM : MC n t b s p z G) (c1 : kdF (nmI n t p) < 0) (q : lwF (nmI n t p) = 3) (c3 : nuI n t (nx n t p) 99 = 0) (hQ : ∀ s, Q none (MK n t b s (nx n t p) 1)) : Rn (T6_itemHere Q S6_kindHere S6_lawHere S6_inmateHere S6_nextToken S6_numberTo S6_isFour S6_riteHere S6_waitHere S6_needs S6_byteAt) (0, [some (.ref 41), none, none], [], MK n t b s p 0) := by
  obtain ⟨hc, hp, hI, hg⟩ := id hM
  have b1 : ∀ s p w, p ≤ n → TPm (MK n t b s p w) := fun s p w hp => mkTP hc s hp w
  have b2 : ∀ s p w, p ≤ n → TQm (MK n t b s p w) := fun s p w hp => mkTQ hc s hp w
  have b3 : ∀ s p w, p ≤ n → stm (MK n t b s p w) = MK n t b s (nx n t p) w := fun s p w hp => mkST hc s hp w
  have b4 : ∀ s p w top, p ≤ n → nuM (MK n t b s p w) top = nuI n t p top := fun s p w top hp => mkNU hc s hp w top
  have b5 := mk_rite hc s hp 0
  have b6 := mk_wait hc s hp 0
  have bk := mkKD hc s hp 0
  have bl := mkLW hc s hp 0
  have n1 : nx n t p ≤ n := nx_le t hp
  have n2 : nx n t (nx n t p) ≤ n := nx_le t n1
  rw [if_neg (by rw [q]; decide), q, show (3 : Int32) + 3 = 6 from rfl] at bl
  have m1 : ¬ (6 : Int32) < 0 := by decide
  have m2 : ((0 : Int32) ≤ 6 ∧ (6 : Int32) < 47) = True := by decide
  have m3 : ((6 : Int32) = 6) = True := by decide
  have m4 : Int32.toNatClampNeg 6 = 6 := by decide
  refine Rn_in D6_itemHere 120 ?_
  simp only [y6_itemHere_0, y6_itemHere_1, y6_itemHere_4, y6_itemHere_5, y6_itemHere_6, y6_itemHere_9, y6_itemHere_10, y6_itemHere_11, y6_itemHere_14, y6_itemHere_15, y6_itemHere_16, y6_itemHere_19, y6_itemHere_22, y6_itemHere_23, y6_itemHere_26, y6_itemHere_27, y6_itemHere_30, y6_itemHere_31, y6_itemHere_32, y6_itemHere_33, y6_itemHere_35, y6_itemHere_38, y6_itemHere_40, y6_itemHere_43, y6_itemHere_45, y6_itemHere_48, y6_itemHere_51, y6_itemHere_52, y6_itemHere_54, y6_itemHere_56, y6_itemHere_58, y6_itemHere_60, y6_itemHere_63, y6_itemHere_66, y6_itemHere_67, y6_itemHere_70, y6_itemHere_73, y6_itemHere_74, y6_itemHere_76, y6_itemHere_78, y6_itemHere_80, y6_itemHere_82, y6_itemHere_85, y6_itemHere_88, y6_itemHere_89, y6_itemHere_92, y6_itemHere_95, y6_itemHere_96, y6_itemHere_97, y6_itemHere_101, y6_itemHere_102, y6_itemHere_105, y6_itemHere_106, y6_itemHere_109, y6_itemHere_110, y6_itemHere_111, y6_itemHere_114, y6_itemHere_117, y6_itemHere_119, y6_itemHere_122, y6_itemHere_123, y6_itemHere_126, y6_itemHere_127, y6_itemHere_130, i_ald, i_cV, i_get, i_goto, i_ic, i_ic_ne, i_if_eq, i_if_lt, i_ild, i_ist, i_vret, oc_41, fv_41_0, fv_41_1, fv_41_2, fv_41_3, fv_41_4, ly_41_4, fv_41_5, fv_41_6, ly_41_6, fv_41_7, ly_41_7, fv_41_8, ly_41_8, fv_41_9, ly_41_9, fv_41_10, ly_41_10, fv_41_11, ly_41_11, fv_41_12, fv_41_13, fv_41_14, ly_41_14, fv_41_15, fv_41_16, fv_41_17, fv_41_18, fv_41_19, fv_41_20, fv_41_21, fv_41_22, ly_41_22, fv_41_23, ly_41_23, fv_41_24, ly_41_24, fv_41_25, ly_41_25, fv_41_26, ly_41_26, rd_42, al_42, rd_43, al_43, rd_44, al_44, rd_45, al_45, rd_46, al_46, rd_47, al_47, rd_48, al_48, rd_49, al_49, rd_50, al_50, rd_51, al_51, rd_52, al_52, rd_53, al_53, rd_54, al_54, rd_55, al_55, lck_0, lck_i, lck_r, lck_n, lck_l, csum_0, csum_i, csum_r, csum_l, pops_0, pops_s, psh_n, psh_s, List.getElem?_cons_zero, List.getElem?_cons_succ, List.set_cons_zero, List.set_cons_succ, true_and, and_true, Nat.reduceAdd, Nat.reduceLeDiff, k6_itemHere_100, t6_itemHere_100, S6_kindHere, S6_lawHere, S6_nextToken, S6_numberTo, b1, b2, b3, b4, bk, bl, c1, m1, m2, m3, m4, c3, hp, n1, MK_10, MK_11, MK_w, MK_s, or_true, and_false, nn, false_implies, true_implies, implies_true, and_true, true_and, not_true_eq_false, not_false_eq_true, eq_self]
  exact tlW hc s n1 hQ
theorem it_l3 {n : Nat} {t : Nat → Int32} {b : Hp} {Q : Po} {s : Nat → Int32} {p : Nat} {z : Int32} {G : GG} (hM : MC n t b s p z G) (c1 : kdF (nmI n t p) < 0) (q : lwF (nmI n t p) = 3) (c3 : ¬ nuI n t (nx n t p) 99 = 0) (hQ : mRes n t b z Q (endS n t (.inr (nx n t (nx n t p), up2 G 1 3 (vlC n t (st n t (nx n t p))))))) : Rn (T6_itemHere Q S6_kindHere S6_lawHere S6_inmateHere S6_nextToken S6_numberTo S6_isFour S6_riteHere S6_waitHere S6_needs S6_byteAt) (0, [some (.ref 41), none, none], [], MK n t b s p 0) := by
  obtain ⟨hc, hp, hI, hg⟩ := id hM
  have b1 : ∀ s p w, p ≤ n → TPm (MK n t b s p w) := fun s p w hp => mkTP hc s hp w
  have b2 : ∀ s p w, p ≤ n → TQm (MK n t b s p w) := fun s p w hp => mkTQ hc s hp w
  have b3 : ∀ s p w, p ≤ n → stm (MK n t b s p w) = MK n t b s (nx n t p) w := fun s p w hp => mkST hc s hp w
  have b4 : ∀ s p w top, p ≤ n → nuM (MK n t b s p w) top = nuI n t p top := fun s p w top hp => mkNU hc s hp w top
  have b5 := mk_rite hc s hp 0
  have b6 := mk_wait hc s hp 0
  have bk := mkKD hc s hp 0
  have bl := mkLW hc s hp 0
  have n1 : nx n t p ≤ n := nx_le t hp
  have n2 : nx n t (nx n t p) ≤ n := nx_le t n1
  rw [if_neg (by rw [q]; decide), q, show (3 : Int32) + 3 = 6 from rfl] at bl
  have m1 : ¬ (6 : Int32) < 0 := by decide
  have m2 : ((0 : Int32) ≤ 6 ∧ (6 : Int32) < 47) = True := by decide
  have m3 : ((6 : Int32) = 6) = True := by decide
  have m4 : Int32.toNatClampNeg 6 = 6 := by decide
  have e1 : vlM n t (st n t (nx n t p)) = vlC n t (st n t (nx n t p)) := (vl_rng c3).2.2
  refine Rn_in D6_itemHere 120 ?_
  simp only [y6_itemHere_0, y6_itemHere_1, y6_itemHere_4, y6_itemHere_5, y6_itemHere_6, y6_itemHere_9, y6_itemHere_10, y6_itemHere_11, y6_itemHere_14, y6_itemHere_15, y6_itemHere_16, y6_itemHere_19, y6_itemHere_22, y6_itemHere_23, y6_itemHere_26, y6_itemHere_27, y6_itemHere_30, y6_itemHere_31, y6_itemHere_32, y6_itemHere_33, y6_itemHere_35, y6_itemHere_38, y6_itemHere_40, y6_itemHere_43, y6_itemHere_45, y6_itemHere_48, y6_itemHere_51, y6_itemHere_52, y6_itemHere_54, y6_itemHere_56, y6_itemHere_58, y6_itemHere_60, y6_itemHere_63, y6_itemHere_66, y6_itemHere_67, y6_itemHere_70, y6_itemHere_73, y6_itemHere_74, y6_itemHere_76, y6_itemHere_78, y6_itemHere_80, y6_itemHere_82, y6_itemHere_85, y6_itemHere_88, y6_itemHere_89, y6_itemHere_92, y6_itemHere_95, y6_itemHere_96, y6_itemHere_97, y6_itemHere_101, y6_itemHere_102, y6_itemHere_105, y6_itemHere_106, y6_itemHere_109, y6_itemHere_110, y6_itemHere_111, y6_itemHere_114, y6_itemHere_117, y6_itemHere_119, y6_itemHere_122, y6_itemHere_123, y6_itemHere_126, y6_itemHere_127, y6_itemHere_130, i_ald, i_cV, i_get, i_goto, i_ic, i_ic_ne, i_if_eq, i_if_lt, i_ild, i_ist, i_vret, oc_41, fv_41_0, fv_41_1, fv_41_2, fv_41_3, fv_41_4, ly_41_4, fv_41_5, fv_41_6, ly_41_6, fv_41_7, ly_41_7, fv_41_8, ly_41_8, fv_41_9, ly_41_9, fv_41_10, ly_41_10, fv_41_11, ly_41_11, fv_41_12, fv_41_13, fv_41_14, ly_41_14, fv_41_15, fv_41_16, fv_41_17, fv_41_18, fv_41_19, fv_41_20, fv_41_21, fv_41_22, ly_41_22, fv_41_23, ly_41_23, fv_41_24, ly_41_24, fv_41_25, ly_41_25, fv_41_26, ly_41_26, rd_42, al_42, rd_43, al_43, rd_44, al_44, rd_45, al_45, rd_46, al_46, rd_47, al_47, rd_48, al_48, rd_49, al_49, rd_50, al_50, rd_51, al_51, rd_52, al_52, rd_53, al_53, rd_54, al_54, rd_55, al_55, lck_0, lck_i, lck_r, lck_n, lck_l, csum_0, csum_i, csum_r, csum_l, pops_0, pops_s, psh_n, psh_s, List.getElem?_cons_zero, List.getElem?_cons_succ, List.set_cons_zero, List.set_cons_succ, true_and, and_true, Nat.reduceAdd, Nat.reduceLeDiff, k6_itemHere_100, t6_itemHere_100, S6_kindHere, S6_lawHere, S6_nextToken, S6_numberTo, b1, b2, b3, b4, bk, bl, c1, m1, m2, m3, m4, c3, hp, n1, e1, MK_10, MK_11, MK_w, MK_s, or_true, or_false, and_false, nn, false_implies, true_implies, implies_true, and_true, true_and, not_true_eq_false, not_false_eq_true, eq_self]
  refine tl0 hc _ n2 ?_ hQ
  rw [show (upd s 6 (vlC n t (st n t (nx n t p)))) = upd s (3 + 3) (vlC n t (st n t (nx n t p))) from rfl, mv_u1 _ (by decide), zG_up _ _ _ _ (by decide)]
  exact Geq_up hg _ _ (by simp)
theorem rn6_itemHere {h : Hp} {Q : Po} {m : Nat} (hS : S6_itemHere [.ref m] h Q) : Rn (T6_itemHere Q S6_kindHere S6_lawHere S6_inmateHere S6_nextToken S6_numberTo S6_isFour S6_riteHere S6_waitHere S6_needs S6_byteAt) (0, [some (.ref m), none, none], [], h) := by
  obtain ⟨rfl, n, t, b, s, p, z, G, rfl, hM, hQ⟩ := hS
  unfold itm at hQ
  by_cases c1 : kdF (nmI n t p) < 0
  · rw [if_pos c1] at hQ
    by_cases c2 : lwF (nmI n t p) < 0
    · rw [if_pos c2] at hQ
      by_cases c3 : nmI n t p [114, 105, 116, 101] = 0
      · rw [if_pos c3] at hQ
        by_cases c4 : nmI n t p [119, 97, 105, 116] = 0
        · rw [if_pos c4] at hQ
          exact it_n hM c1 c2 c3 c4 hQ
        · rw [if_neg c4] at hQ
          exact it_w hM c1 c2 c3 c4 hQ
      · rw [if_neg c3] at hQ
        exact it_r hM c1 c2 c3 hQ
    · rw [if_neg c2] at hQ
      rcases lwF_4 _ c2 with q | q | q | q
      · rw [q, show ix 0 = 0 from rfl, show tbT.getD 0 0 = 9 from rfl] at hQ
        by_cases c3 : nuI n t (nx n t p) 9 = 0
        · simp only [oLaw, c3, if_true, endS, mRes] at hQ
          exact it_f0 hM c1 q c3 hQ
        · simp only [oLaw, c3, if_false] at hQ
          exact it_l0 hM c1 q c3 hQ
      · rw [q, show ix 1 = 1 from rfl, show tbT.getD 1 0 = 9 from rfl] at hQ
        by_cases c3 : nuI n t (nx n t p) 9 = 0
        · simp only [oLaw, c3, if_true, endS, mRes] at hQ
          exact it_f1 hM c1 q c3 hQ
        · simp only [oLaw, c3, if_false] at hQ
          exact it_l1 hM c1 q c3 hQ
      · rw [q, show ix 2 = 2 from rfl, show tbT.getD 2 0 = 9 from rfl] at hQ
        by_cases c3 : nuI n t (nx n t p) 9 = 0
        · simp only [oLaw, c3, if_true, endS, mRes] at hQ
          exact it_f2 hM c1 q c3 hQ
        · simp only [oLaw, c3, if_false] at hQ
          exact it_l2 hM c1 q c3 hQ
      · rw [q, show ix 3 = 3 from rfl, show tbT.getD 3 0 = 99 from rfl] at hQ
        by_cases c3 : nuI n t (nx n t p) 99 = 0
        · simp only [oLaw, c3, if_true, endS, mRes] at hQ
          exact it_f3 hM c1 q c3 hQ
        · simp only [oLaw, c3, if_false] at hQ
          exact it_l3 hM c1 q c3 hQ
  · rw [if_neg c1] at hQ
    exact it_i hM c1 hQ
/-! the run of items -/
def run (n : Nat) (t : Nat → Int32) : Nat → Nat → GG → Sum Nat GG
  | 0, _, G => .inr G
  | d + 1, p, G => if kd n t (st n t p) = 0 then .inr G else match itm n t p G with
    | .inl q => .inl q
    | .inr (e, H) => run n t d e H
theorem kd_end {n p : Nat} (t : Nat → Int32) (h1 : n ≤ p) (h2 : p ≤ n) : kd n t (st n t p) = 0 := by
  have a := st_ge n t p
  unfold kd
  rw [if_neg (by omega)]
/-- the class reads -/
def cRun (n : Nat) (t : Nat → Int32) (h : Hp) (Q : Po) (x : Sum Nat GG) : Prop := match x with
  | .inl q => ∀ p G, p ≤ n → Hi8 h G → Q (some (.int (nI (st n t q)))) (CK n t (pg h 8 G) p (nI (st n t q)))
  | .inr G => ∀ p, p ≤ n → Hi8 h G → Q (some (.int (-1))) (CK n t (pg h 8 G) p (-1))
theorem lp4_readW {n : Nat} {t : Nat → Int32} {h : Hp} {Q : Po} (ht : h 23 = t) (hn : n ≤ 200) {i : Int32} {G : GG} {p q : Nat} (hG : Hi8 h G) (hp : p ≤ n) (hq : q ≤ n) (hQ : cRun n t h Q (.inl q)) : Rn (T4_read Q S4_step S4_tellOne) (16, [some (.ref 22), some (.ref 8), some (.int i)], [], CK n t (pg h 8 G) p (nI (st n t q))) := by
  have hF := hQ p G hp hG
  have c := stN (t := t) hn hq
  refine Rn_go C4_read 60 ?_
  simp only [x4_read_0, x4_read_1, x4_read_2, x4_read_5, x4_read_6, x4_read_7, x4_read_10, x4_read_11, x4_read_14, x4_read_15, k4_read_16, t4_read_16, x4_read_17, x4_read_20, x4_read_23, x4_read_24, x4_read_27, x4_read_30, x4_read_31, x4_read_34, x4_read_35, x4_read_38, x4_read_39, x4_read_40, x4_read_43, x4_read_46, x4_read_49, x4_read_50, x4_read_53, i_ald, i_cV, i_get, i_goto, i_ic, i_ic_gt, i_ic_ne, i_if_eq, i_ild, i_inc, i_iret, i_ist, i_put, oc_8, fv_8_0, fv_8_1, fv_8_2, fv_8_3, fv_8_4, fv_8_5, fv_8_6, ly_8_6, fv_8_7, ly_8_7, fv_8_8, ly_8_8, rd_9, al_9, rd_10, al_10, rd_11, al_11, rd_12, al_12, rd_13, al_13, rd_14, al_14, oc_22, fv_22_0, fv_22_1, ly_22_1, fv_22_2, ly_22_2, fv_22_3, ly_22_3, fv_22_4, ly_22_4, fv_22_5, ly_22_5, fv_22_6, ly_22_6, rd_23, al_23, lck_0, lck_i, lck_r, lck_n, lck_l, csum_0, csum_i, csum_r, csum_l, pops_0, pops_s, psh_n, psh_s, List.getElem?_cons_zero, List.getElem?_cons_succ, List.set_cons_zero, List.set_cons_succ, true_and, and_true, Nat.reduceAdd, Nat.reduceLeDiff, CK_2, CK_6, c, nn, false_implies, true_implies, implies_true, and_true, true_and, not_true_eq_false, not_false_eq_true, eq_self]
  grind
theorem lp4_read {n : Nat} {t : Nat → Int32} {h : Hp} {Q : Po} (ht : h 23 = t) (hn : n ≤ 200) : ∀ d p i G, n ≤ d + p → p ≤ n → i ≤ p → Hi8 h G → InvG G → cRun n t h Q (run n t d p G) → Rn (T4_read Q S4_step S4_tellOne) (16, [some (.ref 22), some (.ref 8), some (.int (nI i))], [], CK n t (pg h 8 G) p (-1))
  | 0, p, i, G, e, hp, hi, hG, hI, hQ => by
    have k0 : nI (kd n t (st n t p)) = 0 := by rw [kd_end t (by omega) hp]; rfl
    have hF := hQ p hp hG
    have c : ¬ 200 < nI i := nI_nlt (a := 200) (by omega) (by decide)
    refine Rn_go C4_read 60 ?_
    simp only [x4_read_0, x4_read_1, x4_read_2, x4_read_5, x4_read_6, x4_read_7, x4_read_10, x4_read_11, x4_read_14, x4_read_15, k4_read_16, t4_read_16, x4_read_17, x4_read_20, x4_read_23, x4_read_24, x4_read_27, x4_read_30, x4_read_31, x4_read_34, x4_read_35, x4_read_38, x4_read_39, x4_read_40, x4_read_43, x4_read_46, x4_read_49, x4_read_50, x4_read_53, i_ald, i_cV, i_get, i_goto, i_ic, i_ic_gt, i_ic_ne, i_if_eq, i_ild, i_inc, i_iret, i_ist, i_put, oc_8, fv_8_0, fv_8_1, fv_8_2, fv_8_3, fv_8_4, fv_8_5, fv_8_6, ly_8_6, fv_8_7, ly_8_7, fv_8_8, ly_8_8, rd_9, al_9, rd_10, al_10, rd_11, al_11, rd_12, al_12, rd_13, al_13, rd_14, al_14, oc_22, fv_22_0, fv_22_1, ly_22_1, fv_22_2, ly_22_2, fv_22_3, ly_22_3, fv_22_4, ly_22_4, fv_22_5, ly_22_5, fv_22_6, ly_22_6, rd_23, al_23, lck_0, lck_i, lck_r, lck_n, lck_l, csum_0, csum_i, csum_r, csum_l, pops_0, pops_s, psh_n, psh_s, List.getElem?_cons_zero, List.getElem?_cons_succ, List.set_cons_zero, List.set_cons_succ, true_and, and_true, Nat.reduceAdd, Nat.reduceLeDiff, CK_2, CK_6, k0, c, nn, false_implies, true_implies, implies_true, and_true, true_and, not_true_eq_false, not_false_eq_true, eq_self]
    exact hF
  | d + 1, p, i, G, e, hp, hi, hG, hI, hQ => by
    have c : ¬ 200 < nI i := nI_nlt (a := 200) (by omega) (by decide)
    rw [run] at hQ
    by_cases k : kd n t (st n t p) = 0
    · rw [if_pos k] at hQ
      have k0 : nI (kd n t (st n t p)) = 0 := by rw [k]; rfl
      have hF := hQ p hp hG
      refine Rn_go C4_read 60 ?_
      simp only [x4_read_0, x4_read_1, x4_read_2, x4_read_5, x4_read_6, x4_read_7, x4_read_10, x4_read_11, x4_read_14, x4_read_15, k4_read_16, t4_read_16, x4_read_17, x4_read_20, x4_read_23, x4_read_24, x4_read_27, x4_read_30, x4_read_31, x4_read_34, x4_read_35, x4_read_38, x4_read_39, x4_read_40, x4_read_43, x4_read_46, x4_read_49, x4_read_50, x4_read_53, i_ald, i_cV, i_get, i_goto, i_ic, i_ic_gt, i_ic_ne, i_if_eq, i_ild, i_inc, i_iret, i_ist, i_put, oc_8, fv_8_0, fv_8_1, fv_8_2, fv_8_3, fv_8_4, fv_8_5, fv_8_6, ly_8_6, fv_8_7, ly_8_7, fv_8_8, ly_8_8, rd_9, al_9, rd_10, al_10, rd_11, al_11, rd_12, al_12, rd_13, al_13, rd_14, al_14, oc_22, fv_22_0, fv_22_1, ly_22_1, fv_22_2, ly_22_2, fv_22_3, ly_22_3, fv_22_4, ly_22_4, fv_22_5, ly_22_5, fv_22_6, ly_22_6, rd_23, al_23, lck_0, lck_i, lck_r, lck_n, lck_l, csum_0, csum_i, csum_r, csum_l, pops_0, pops_s, psh_n, psh_s, List.getElem?_cons_zero, List.getElem?_cons_succ, List.set_cons_zero, List.set_cons_succ, true_and, and_true, Nat.reduceAdd, Nat.reduceLeDiff, CK_2, CK_6, k0, c, nn, false_implies, true_implies, implies_true, and_true, true_and, not_true_eq_false, not_false_eq_true, eq_self]
      exact hF
    · rw [if_neg k] at hQ
      have k0 : ¬ nI (kd n t (st n t p)) = 0 := by
        intro q
        have := kdE n t (st n t p) 0 (by decide)
        exact k (by rw [← this]; exact q)
      have ok := itm_ok hG hp hI k
      refine Rn_go C4_read 60 ?_
      simp only [x4_read_0, x4_read_1, x4_read_2, x4_read_5, x4_read_6, x4_read_7, x4_read_10, x4_read_11, x4_read_14, x4_read_15, k4_read_16, t4_read_16, x4_read_17, x4_read_20, x4_read_23, x4_read_24, x4_read_27, x4_read_30, x4_read_31, x4_read_34, x4_read_35, x4_read_38, x4_read_39, x4_read_40, x4_read_43, x4_read_46, x4_read_49, x4_read_50, x4_read_53, i_ald, i_cV, i_get, i_goto, i_ic, i_ic_gt, i_ic_ne, i_if_eq, i_ild, i_inc, i_iret, i_ist, i_put, oc_8, fv_8_0, fv_8_1, fv_8_2, fv_8_3, fv_8_4, fv_8_5, fv_8_6, ly_8_6, fv_8_7, ly_8_7, fv_8_8, ly_8_8, rd_9, al_9, rd_10, al_10, rd_11, al_11, rd_12, al_12, rd_13, al_13, rd_14, al_14, oc_22, fv_22_0, fv_22_1, ly_22_1, fv_22_2, ly_22_2, fv_22_3, ly_22_3, fv_22_4, ly_22_4, fv_22_5, ly_22_5, fv_22_6, ly_22_6, rd_23, al_23, lck_0, lck_i, lck_r, lck_n, lck_l, csum_0, csum_i, csum_r, csum_l, pops_0, pops_s, psh_n, psh_s, List.getElem?_cons_zero, List.getElem?_cons_succ, List.set_cons_zero, List.set_cons_succ, true_and, and_true, Nat.reduceAdd, Nat.reduceLeDiff, CK_2, CK_6, k0, c, nn, false_implies, true_implies, implies_true, and_true, true_and, not_true_eq_false, not_false_eq_true, eq_self]
      refine ⟨rfl, rfl, n, t, h, p, G, rfl, ⟨ht, hG, hn, hp, hI⟩, ?_⟩
      revert hQ ok
      rcases itm n t p G with q | ⟨e2, H⟩
      · intro hQ ok p2 hp2
        exact lp4_readW ht hn hG hp2 ok hQ
      · intro hQ ok
        obtain ⟨⟨o1, o2⟩, o3, o4⟩ := ok
        have ih := lp4_read ht hn d e2 (i + 1) H (by omega) o2 (by omega) o4 o3 hQ
        rw [← nI_1] at ih
        exact ih
theorem CK_u (n : Nat) (t : Nat → Int32) (h : Hp) (p : Nat) (f : Int32) (j : Nat) (x : Int32) (hj : 1 ≤ j ∧ j ≤ 6) : CK n t (up2 h 22 j x) p f = CK n t h p f := by
  unfold CK
  funext a b
  simp only [up2, upA]
  grind
def S4_read : Sp := fun av h Q => match av with | [.ref q, .ref g] => q = 22 ∧ g = 8 ∧ ∃ n, n ≤ 200 ∧ h 22 1 = nI n ∧ InvG (vg h 8) ∧ cRun n (h 23) h Q (run n (h 23) n 0 (vg h 8)) | _ => False
theorem rn4_read {h : Hp} {Q : Po} {q : Nat} {g : Nat} (hS : S4_read [.ref q, .ref g] h Q) : Rn (T4_read Q S4_step S4_tellOne) (0, [some (.ref q), some (.ref g), none], [], h) := by
  obtain ⟨rfl, rfl, n, hn, h1, hI, hQ⟩ := hS
  have nx := lp4_read (h := h) rfl hn n 0 0 (vg h 8) (by omega) (by omega) (by omega) (Hi8_0 h) hI hQ
  rw [pg_vg] at nx
  have tp : TP (up2 (up2 h 22 4 0) 22 6 (-1)) := by
    unfold TP
    have e1 : up2 (up2 h 22 4 0) 22 6 (-1) 22 1 = nI n := by simp [up2, h1]
    have e4 : up2 (up2 h 22 4 0) 22 6 (-1) 22 4 = 0 := by simp [up2]
    rw [e1, e4]
    exact ⟨⟨nI_pos' (by omega), nI_le (b := 200) hn (by decide)⟩, by decide, nI_pos' (by omega)⟩
  have es : stp (up2 (up2 h 22 4 0) 22 6 (-1)) = CK n (h 23) h 0 (-1) := by
    unfold stp
    have e1 : up2 (up2 h 22 4 0) 22 6 (-1) 22 1 = nI n := by simp [up2, h1]
    have e4 : up2 (up2 h 22 4 0) 22 6 (-1) 22 4 = 0 := by simp [up2]
    have e6 : up2 (up2 h 22 4 0) 22 6 (-1) 22 6 = -1 := by simp [up2]
    have e23 : up2 (up2 h 22 4 0) 22 6 (-1) 23 = h 23 := by rw [up2_ne (by decide), up2_ne (by decide)]
    rw [e1, e4, e6, e23, show ix (nI n) = n from ix_nI (by omega), show ix 0 = 0 from rfl, CK_u _ _ _ _ _ _ _ (by decide), CK_u _ _ _ _ _ _ _ (by decide)]
  refine Rn_in C4_read 60 ?_
  simp only [x4_read_0, x4_read_1, x4_read_2, x4_read_5, x4_read_6, x4_read_7, x4_read_10, x4_read_11, x4_read_14, x4_read_15, k4_read_16, t4_read_16, x4_read_17, x4_read_20, x4_read_23, x4_read_24, x4_read_27, x4_read_30, x4_read_31, x4_read_34, x4_read_35, x4_read_38, x4_read_39, x4_read_40, x4_read_43, x4_read_46, x4_read_49, x4_read_50, x4_read_53, i_ald, i_cV, i_get, i_goto, i_ic, i_ic_gt, i_ic_ne, i_if_eq, i_ild, i_inc, i_iret, i_ist, i_put, oc_8, fv_8_0, fv_8_1, fv_8_2, fv_8_3, fv_8_4, fv_8_5, fv_8_6, ly_8_6, fv_8_7, ly_8_7, fv_8_8, ly_8_8, rd_9, al_9, rd_10, al_10, rd_11, al_11, rd_12, al_12, rd_13, al_13, rd_14, al_14, oc_22, fv_22_0, fv_22_1, ly_22_1, fv_22_2, ly_22_2, fv_22_3, ly_22_3, fv_22_4, ly_22_4, fv_22_5, ly_22_5, fv_22_6, ly_22_6, rd_23, al_23, lck_0, lck_i, lck_r, lck_n, lck_l, csum_0, csum_i, csum_r, csum_l, pops_0, pops_s, psh_n, psh_s, List.getElem?_cons_zero, List.getElem?_cons_succ, List.set_cons_zero, List.set_cons_succ, true_and, and_true, Nat.reduceAdd, Nat.reduceLeDiff, S4_step, tp, es, nn, false_implies, true_implies, implies_true, and_true, true_and, not_true_eq_false, not_false_eq_true, eq_self]
  exact nx
