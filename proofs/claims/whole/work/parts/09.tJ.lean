/-! step tables of the methods, printed by wip/gen_tables.py -/
section TB
variable {Q : Po} {m : Nat} {K : St → Prop} {L : Lo} {s : List Value} {h : Hp} {SJ0_coder SJ0_isLatin1 SJ1_charAt SJ3_checkIndex SJ0_checkIndex : Sp}
def TJ6_bitCount (Q : Po) : Nat → Tr := nd 27 (nd 14 (nd 7 (nd 2 (nd 1 (lf 0 (i_ild 0 1)) (lf 1 (i_ild 0 2))) (nd 3 (lf 2 (i_ic 1 3)) (nd 4 (lf 3 (i_iushr 4)) (lf 4 (i_ic 1431655765 7))))) (nd 9 (nd 8 (lf 7 (i_iand 8)) (lf 8 (i_isub 9))) (nd 10 (lf 9 (i_ist 0 10)) (nd 11 (lf 10 (i_ild 0 11)) (lf 11 (i_ic 858993459 14)))))) (nd 21 (nd 16 (nd 15 (lf 14 (i_iand 15)) (lf 15 (i_ild 0 16))) (nd 17 (lf 16 (i_ic 2 17)) (nd 18 (lf 17 (i_iushr 18)) (lf 18 (i_ic 858993459 21))))) (nd 24 (nd 22 (lf 21 (i_iand 22)) (nd 23 (lf 22 (i_iadd 23)) (lf 23 (i_ist 0 24)))) (nd 25 (lf 24 (i_ild 0 25)) (nd 26 (lf 25 (i_ild 0 26)) (lf 26 (i_ic 4 27))))))) (nd 40 (nd 34 (nd 29 (nd 28 (lf 27 (i_iushr 28)) (lf 28 (i_iadd 29))) (nd 32 (lf 29 (i_ic 252645135 32)) (nd 33 (lf 32 (i_iand 33)) (lf 33 (i_ist 0 34))))) (nd 36 (nd 35 (lf 34 (i_ild 0 35)) (lf 35 (i_ild 0 36))) (nd 38 (lf 36 (i_ic 8 38)) (nd 39 (lf 38 (i_iushr 39)) (lf 39 (i_iadd 40)))))) (nd 46 (nd 42 (nd 41 (lf 40 (i_ist 0 41)) (lf 41 (i_ild 0 42))) (nd 43 (lf 42 (i_ild 0 43)) (nd 45 (lf 43 (i_ic 16 45)) (lf 45 (i_iushr 46))))) (nd 49 (nd 47 (lf 46 (i_iadd 47)) (nd 48 (lf 47 (i_ist 0 48)) (lf 48 (i_ild 0 49)))) (nd 51 (lf 49 (i_ic 63 51)) (nd 52 (lf 51 (i_iand 52)) (lf 52 (i_iret Q)))))))
def CJ6_bitCount : List Nat := []
theorem xJ6_bitCount_0 : wpn (TJ6_bitCount Q) CJ6_bitCount (m + 1) K (0, L, s, h) = i_ild 0 1 (wpn (TJ6_bitCount Q) CJ6_bitCount m K) L s h := rfl
theorem xJ6_bitCount_1 : wpn (TJ6_bitCount Q) CJ6_bitCount (m + 1) K (1, L, s, h) = i_ild 0 2 (wpn (TJ6_bitCount Q) CJ6_bitCount m K) L s h := rfl
theorem xJ6_bitCount_2 : wpn (TJ6_bitCount Q) CJ6_bitCount (m + 1) K (2, L, s, h) = i_ic 1 3 (wpn (TJ6_bitCount Q) CJ6_bitCount m K) L s h := rfl
theorem xJ6_bitCount_3 : wpn (TJ6_bitCount Q) CJ6_bitCount (m + 1) K (3, L, s, h) = i_iushr 4 (wpn (TJ6_bitCount Q) CJ6_bitCount m K) L s h := rfl
theorem xJ6_bitCount_4 : wpn (TJ6_bitCount Q) CJ6_bitCount (m + 1) K (4, L, s, h) = i_ic 1431655765 7 (wpn (TJ6_bitCount Q) CJ6_bitCount m K) L s h := rfl
theorem xJ6_bitCount_7 : wpn (TJ6_bitCount Q) CJ6_bitCount (m + 1) K (7, L, s, h) = i_iand 8 (wpn (TJ6_bitCount Q) CJ6_bitCount m K) L s h := rfl
theorem xJ6_bitCount_8 : wpn (TJ6_bitCount Q) CJ6_bitCount (m + 1) K (8, L, s, h) = i_isub 9 (wpn (TJ6_bitCount Q) CJ6_bitCount m K) L s h := rfl
theorem xJ6_bitCount_9 : wpn (TJ6_bitCount Q) CJ6_bitCount (m + 1) K (9, L, s, h) = i_ist 0 10 (wpn (TJ6_bitCount Q) CJ6_bitCount m K) L s h := rfl
theorem xJ6_bitCount_10 : wpn (TJ6_bitCount Q) CJ6_bitCount (m + 1) K (10, L, s, h) = i_ild 0 11 (wpn (TJ6_bitCount Q) CJ6_bitCount m K) L s h := rfl
theorem xJ6_bitCount_11 : wpn (TJ6_bitCount Q) CJ6_bitCount (m + 1) K (11, L, s, h) = i_ic 858993459 14 (wpn (TJ6_bitCount Q) CJ6_bitCount m K) L s h := rfl
theorem xJ6_bitCount_14 : wpn (TJ6_bitCount Q) CJ6_bitCount (m + 1) K (14, L, s, h) = i_iand 15 (wpn (TJ6_bitCount Q) CJ6_bitCount m K) L s h := rfl
theorem xJ6_bitCount_15 : wpn (TJ6_bitCount Q) CJ6_bitCount (m + 1) K (15, L, s, h) = i_ild 0 16 (wpn (TJ6_bitCount Q) CJ6_bitCount m K) L s h := rfl
theorem xJ6_bitCount_16 : wpn (TJ6_bitCount Q) CJ6_bitCount (m + 1) K (16, L, s, h) = i_ic 2 17 (wpn (TJ6_bitCount Q) CJ6_bitCount m K) L s h := rfl
theorem xJ6_bitCount_17 : wpn (TJ6_bitCount Q) CJ6_bitCount (m + 1) K (17, L, s, h) = i_iushr 18 (wpn (TJ6_bitCount Q) CJ6_bitCount m K) L s h := rfl
theorem xJ6_bitCount_18 : wpn (TJ6_bitCount Q) CJ6_bitCount (m + 1) K (18, L, s, h) = i_ic 858993459 21 (wpn (TJ6_bitCount Q) CJ6_bitCount m K) L s h := rfl
theorem xJ6_bitCount_21 : wpn (TJ6_bitCount Q) CJ6_bitCount (m + 1) K (21, L, s, h) = i_iand 22 (wpn (TJ6_bitCount Q) CJ6_bitCount m K) L s h := rfl
theorem xJ6_bitCount_22 : wpn (TJ6_bitCount Q) CJ6_bitCount (m + 1) K (22, L, s, h) = i_iadd 23 (wpn (TJ6_bitCount Q) CJ6_bitCount m K) L s h := rfl
theorem xJ6_bitCount_23 : wpn (TJ6_bitCount Q) CJ6_bitCount (m + 1) K (23, L, s, h) = i_ist 0 24 (wpn (TJ6_bitCount Q) CJ6_bitCount m K) L s h := rfl
theorem xJ6_bitCount_24 : wpn (TJ6_bitCount Q) CJ6_bitCount (m + 1) K (24, L, s, h) = i_ild 0 25 (wpn (TJ6_bitCount Q) CJ6_bitCount m K) L s h := rfl
theorem xJ6_bitCount_25 : wpn (TJ6_bitCount Q) CJ6_bitCount (m + 1) K (25, L, s, h) = i_ild 0 26 (wpn (TJ6_bitCount Q) CJ6_bitCount m K) L s h := rfl
theorem xJ6_bitCount_26 : wpn (TJ6_bitCount Q) CJ6_bitCount (m + 1) K (26, L, s, h) = i_ic 4 27 (wpn (TJ6_bitCount Q) CJ6_bitCount m K) L s h := rfl
theorem xJ6_bitCount_27 : wpn (TJ6_bitCount Q) CJ6_bitCount (m + 1) K (27, L, s, h) = i_iushr 28 (wpn (TJ6_bitCount Q) CJ6_bitCount m K) L s h := rfl
theorem xJ6_bitCount_28 : wpn (TJ6_bitCount Q) CJ6_bitCount (m + 1) K (28, L, s, h) = i_iadd 29 (wpn (TJ6_bitCount Q) CJ6_bitCount m K) L s h := rfl
theorem xJ6_bitCount_29 : wpn (TJ6_bitCount Q) CJ6_bitCount (m + 1) K (29, L, s, h) = i_ic 252645135 32 (wpn (TJ6_bitCount Q) CJ6_bitCount m K) L s h := rfl
theorem xJ6_bitCount_32 : wpn (TJ6_bitCount Q) CJ6_bitCount (m + 1) K (32, L, s, h) = i_iand 33 (wpn (TJ6_bitCount Q) CJ6_bitCount m K) L s h := rfl
theorem xJ6_bitCount_33 : wpn (TJ6_bitCount Q) CJ6_bitCount (m + 1) K (33, L, s, h) = i_ist 0 34 (wpn (TJ6_bitCount Q) CJ6_bitCount m K) L s h := rfl
theorem xJ6_bitCount_34 : wpn (TJ6_bitCount Q) CJ6_bitCount (m + 1) K (34, L, s, h) = i_ild 0 35 (wpn (TJ6_bitCount Q) CJ6_bitCount m K) L s h := rfl
theorem xJ6_bitCount_35 : wpn (TJ6_bitCount Q) CJ6_bitCount (m + 1) K (35, L, s, h) = i_ild 0 36 (wpn (TJ6_bitCount Q) CJ6_bitCount m K) L s h := rfl
theorem xJ6_bitCount_36 : wpn (TJ6_bitCount Q) CJ6_bitCount (m + 1) K (36, L, s, h) = i_ic 8 38 (wpn (TJ6_bitCount Q) CJ6_bitCount m K) L s h := rfl
theorem xJ6_bitCount_38 : wpn (TJ6_bitCount Q) CJ6_bitCount (m + 1) K (38, L, s, h) = i_iushr 39 (wpn (TJ6_bitCount Q) CJ6_bitCount m K) L s h := rfl
theorem xJ6_bitCount_39 : wpn (TJ6_bitCount Q) CJ6_bitCount (m + 1) K (39, L, s, h) = i_iadd 40 (wpn (TJ6_bitCount Q) CJ6_bitCount m K) L s h := rfl
theorem xJ6_bitCount_40 : wpn (TJ6_bitCount Q) CJ6_bitCount (m + 1) K (40, L, s, h) = i_ist 0 41 (wpn (TJ6_bitCount Q) CJ6_bitCount m K) L s h := rfl
theorem xJ6_bitCount_41 : wpn (TJ6_bitCount Q) CJ6_bitCount (m + 1) K (41, L, s, h) = i_ild 0 42 (wpn (TJ6_bitCount Q) CJ6_bitCount m K) L s h := rfl
theorem xJ6_bitCount_42 : wpn (TJ6_bitCount Q) CJ6_bitCount (m + 1) K (42, L, s, h) = i_ild 0 43 (wpn (TJ6_bitCount Q) CJ6_bitCount m K) L s h := rfl
theorem xJ6_bitCount_43 : wpn (TJ6_bitCount Q) CJ6_bitCount (m + 1) K (43, L, s, h) = i_ic 16 45 (wpn (TJ6_bitCount Q) CJ6_bitCount m K) L s h := rfl
theorem xJ6_bitCount_45 : wpn (TJ6_bitCount Q) CJ6_bitCount (m + 1) K (45, L, s, h) = i_iushr 46 (wpn (TJ6_bitCount Q) CJ6_bitCount m K) L s h := rfl
theorem xJ6_bitCount_46 : wpn (TJ6_bitCount Q) CJ6_bitCount (m + 1) K (46, L, s, h) = i_iadd 47 (wpn (TJ6_bitCount Q) CJ6_bitCount m K) L s h := rfl
theorem xJ6_bitCount_47 : wpn (TJ6_bitCount Q) CJ6_bitCount (m + 1) K (47, L, s, h) = i_ist 0 48 (wpn (TJ6_bitCount Q) CJ6_bitCount m K) L s h := rfl
theorem xJ6_bitCount_48 : wpn (TJ6_bitCount Q) CJ6_bitCount (m + 1) K (48, L, s, h) = i_ild 0 49 (wpn (TJ6_bitCount Q) CJ6_bitCount m K) L s h := rfl
theorem xJ6_bitCount_49 : wpn (TJ6_bitCount Q) CJ6_bitCount (m + 1) K (49, L, s, h) = i_ic 63 51 (wpn (TJ6_bitCount Q) CJ6_bitCount m K) L s h := rfl
theorem xJ6_bitCount_51 : wpn (TJ6_bitCount Q) CJ6_bitCount (m + 1) K (51, L, s, h) = i_iand 52 (wpn (TJ6_bitCount Q) CJ6_bitCount m K) L s h := rfl
theorem xJ6_bitCount_52 : wpn (TJ6_bitCount Q) CJ6_bitCount (m + 1) K (52, L, s, h) = i_iret Q (wpn (TJ6_bitCount Q) CJ6_bitCount m K) L s h := rfl
def TJ9_max (Q : Po) : Nat → Tr := nd 5 (nd 1 (lf 0 (i_ild 0 1)) (nd 2 (lf 1 (i_ild 1 2)) (lf 2 (i_ic_lt 9 5)))) (nd 9 (nd 6 (lf 5 (i_ild 0 6)) (lf 6 (i_goto 10))) (nd 10 (lf 9 (i_ild 1 10)) (lf 10 (i_iret Q))))
def CJ9_max : List Nat := []
theorem xJ9_max_0 : wpn (TJ9_max Q) CJ9_max (m + 1) K (0, L, s, h) = i_ild 0 1 (wpn (TJ9_max Q) CJ9_max m K) L s h := rfl
theorem xJ9_max_1 : wpn (TJ9_max Q) CJ9_max (m + 1) K (1, L, s, h) = i_ild 1 2 (wpn (TJ9_max Q) CJ9_max m K) L s h := rfl
theorem xJ9_max_2 : wpn (TJ9_max Q) CJ9_max (m + 1) K (2, L, s, h) = i_ic_lt 9 5 (wpn (TJ9_max Q) CJ9_max m K) L s h := rfl
theorem xJ9_max_5 : wpn (TJ9_max Q) CJ9_max (m + 1) K (5, L, s, h) = i_ild 0 6 (wpn (TJ9_max Q) CJ9_max m K) L s h := rfl
theorem xJ9_max_6 : wpn (TJ9_max Q) CJ9_max (m + 1) K (6, L, s, h) = i_goto 10 (wpn (TJ9_max Q) CJ9_max m K) L s h := rfl
theorem xJ9_max_9 : wpn (TJ9_max Q) CJ9_max (m + 1) K (9, L, s, h) = i_ild 1 10 (wpn (TJ9_max Q) CJ9_max m K) L s h := rfl
theorem xJ9_max_10 : wpn (TJ9_max Q) CJ9_max (m + 1) K (10, L, s, h) = i_iret Q (wpn (TJ9_max Q) CJ9_max m K) L s h := rfl
def TJ9_min (Q : Po) : Nat → Tr := nd 5 (nd 1 (lf 0 (i_ild 0 1)) (nd 2 (lf 1 (i_ild 1 2)) (lf 2 (i_ic_gt 9 5)))) (nd 9 (nd 6 (lf 5 (i_ild 0 6)) (lf 6 (i_goto 10))) (nd 10 (lf 9 (i_ild 1 10)) (lf 10 (i_iret Q))))
def CJ9_min : List Nat := []
theorem xJ9_min_0 : wpn (TJ9_min Q) CJ9_min (m + 1) K (0, L, s, h) = i_ild 0 1 (wpn (TJ9_min Q) CJ9_min m K) L s h := rfl
theorem xJ9_min_1 : wpn (TJ9_min Q) CJ9_min (m + 1) K (1, L, s, h) = i_ild 1 2 (wpn (TJ9_min Q) CJ9_min m K) L s h := rfl
theorem xJ9_min_2 : wpn (TJ9_min Q) CJ9_min (m + 1) K (2, L, s, h) = i_ic_gt 9 5 (wpn (TJ9_min Q) CJ9_min m K) L s h := rfl
theorem xJ9_min_5 : wpn (TJ9_min Q) CJ9_min (m + 1) K (5, L, s, h) = i_ild 0 6 (wpn (TJ9_min Q) CJ9_min m K) L s h := rfl
theorem xJ9_min_6 : wpn (TJ9_min Q) CJ9_min (m + 1) K (6, L, s, h) = i_goto 10 (wpn (TJ9_min Q) CJ9_min m K) L s h := rfl
theorem xJ9_min_9 : wpn (TJ9_min Q) CJ9_min (m + 1) K (9, L, s, h) = i_ild 1 10 (wpn (TJ9_min Q) CJ9_min m K) L s h := rfl
theorem xJ9_min_10 : wpn (TJ9_min Q) CJ9_min (m + 1) K (10, L, s, h) = i_iret Q (wpn (TJ9_min Q) CJ9_min m K) L s h := rfl
def TJ0_length (Q : Po) (SJ0_coder : Sp) : Nat → Tr := nd 5 (nd 1 (lf 0 (i_ald 0 1)) (nd 4 (lf 1 (i_sgv 4)) (lf 4 (i_balen 5)))) (nd 9 (nd 6 (lf 5 (i_ald 0 6)) (lf 6 (i_cE 0 SJ0_coder 9))) (nd 10 (lf 9 (i_ishr 10)) (lf 10 (i_iret Q))))
def CJ0_length : List Nat := []
theorem xJ0_length_0 : wpn (TJ0_length Q SJ0_coder) CJ0_length (m + 1) K (0, L, s, h) = i_ald 0 1 (wpn (TJ0_length Q SJ0_coder) CJ0_length m K) L s h := rfl
theorem xJ0_length_1 : wpn (TJ0_length Q SJ0_coder) CJ0_length (m + 1) K (1, L, s, h) = i_sgv 4 (wpn (TJ0_length Q SJ0_coder) CJ0_length m K) L s h := rfl
theorem xJ0_length_4 : wpn (TJ0_length Q SJ0_coder) CJ0_length (m + 1) K (4, L, s, h) = i_balen 5 (wpn (TJ0_length Q SJ0_coder) CJ0_length m K) L s h := rfl
theorem xJ0_length_5 : wpn (TJ0_length Q SJ0_coder) CJ0_length (m + 1) K (5, L, s, h) = i_ald 0 6 (wpn (TJ0_length Q SJ0_coder) CJ0_length m K) L s h := rfl
theorem xJ0_length_6 : wpn (TJ0_length Q SJ0_coder) CJ0_length (m + 1) K (6, L, s, h) = i_cE 0 SJ0_coder 9 (wpn (TJ0_length Q SJ0_coder) CJ0_length m K) L s h := rfl
theorem xJ0_length_9 : wpn (TJ0_length Q SJ0_coder) CJ0_length (m + 1) K (9, L, s, h) = i_ishr 10 (wpn (TJ0_length Q SJ0_coder) CJ0_length m K) L s h := rfl
theorem xJ0_length_10 : wpn (TJ0_length Q SJ0_coder) CJ0_length (m + 1) K (10, L, s, h) = i_iret Q (wpn (TJ0_length Q SJ0_coder) CJ0_length m K) L s h := rfl
def TJ0_charAt (Q : Po) (SJ0_isLatin1 SJ1_charAt : Sp) : Nat → Tr := nd 8 (nd 4 (nd 1 (lf 0 (i_ald 0 1)) (lf 1 (i_cE 0 SJ0_isLatin1 4))) (nd 7 (lf 4 (i_if_eq 16 7)) (lf 7 (i_ald 0 8)))) (nd 12 (nd 11 (lf 8 (i_sgv 11)) (lf 11 (i_ild 1 12))) (nd 15 (lf 12 (i_cS 2 SJ1_charAt 15)) (lf 15 (i_cret Q))))
def CJ0_charAt : List Nat := []
theorem xJ0_charAt_0 : wpn (TJ0_charAt Q SJ0_isLatin1 SJ1_charAt) CJ0_charAt (m + 1) K (0, L, s, h) = i_ald 0 1 (wpn (TJ0_charAt Q SJ0_isLatin1 SJ1_charAt) CJ0_charAt m K) L s h := rfl
theorem xJ0_charAt_1 : wpn (TJ0_charAt Q SJ0_isLatin1 SJ1_charAt) CJ0_charAt (m + 1) K (1, L, s, h) = i_cE 0 SJ0_isLatin1 4 (wpn (TJ0_charAt Q SJ0_isLatin1 SJ1_charAt) CJ0_charAt m K) L s h := rfl
theorem xJ0_charAt_4 : wpn (TJ0_charAt Q SJ0_isLatin1 SJ1_charAt) CJ0_charAt (m + 1) K (4, L, s, h) = i_if_eq 16 7 (wpn (TJ0_charAt Q SJ0_isLatin1 SJ1_charAt) CJ0_charAt m K) L s h := rfl
theorem xJ0_charAt_7 : wpn (TJ0_charAt Q SJ0_isLatin1 SJ1_charAt) CJ0_charAt (m + 1) K (7, L, s, h) = i_ald 0 8 (wpn (TJ0_charAt Q SJ0_isLatin1 SJ1_charAt) CJ0_charAt m K) L s h := rfl
theorem xJ0_charAt_8 : wpn (TJ0_charAt Q SJ0_isLatin1 SJ1_charAt) CJ0_charAt (m + 1) K (8, L, s, h) = i_sgv 11 (wpn (TJ0_charAt Q SJ0_isLatin1 SJ1_charAt) CJ0_charAt m K) L s h := rfl
theorem xJ0_charAt_11 : wpn (TJ0_charAt Q SJ0_isLatin1 SJ1_charAt) CJ0_charAt (m + 1) K (11, L, s, h) = i_ild 1 12 (wpn (TJ0_charAt Q SJ0_isLatin1 SJ1_charAt) CJ0_charAt m K) L s h := rfl
theorem xJ0_charAt_12 : wpn (TJ0_charAt Q SJ0_isLatin1 SJ1_charAt) CJ0_charAt (m + 1) K (12, L, s, h) = i_cS 2 SJ1_charAt 15 (wpn (TJ0_charAt Q SJ0_isLatin1 SJ1_charAt) CJ0_charAt m K) L s h := rfl
theorem xJ0_charAt_15 : wpn (TJ0_charAt Q SJ0_isLatin1 SJ1_charAt) CJ0_charAt (m + 1) K (15, L, s, h) = i_cret Q (wpn (TJ0_charAt Q SJ0_isLatin1 SJ1_charAt) CJ0_charAt m K) L s h := rfl
def TJ0_coder (Q : Po) : Nat → Tr := nd 7 (nd 3 (lf 0 (i_ic 1 3)) (nd 6 (lf 3 (i_if_eq 13 6)) (lf 6 (i_ald 0 7)))) (nd 13 (nd 10 (lf 7 (i_sgc 10)) (lf 10 (i_goto 14))) (nd 14 (lf 13 (i_ic 1 14)) (lf 14 (i_bret Q))))
def CJ0_coder : List Nat := []
theorem xJ0_coder_0 : wpn (TJ0_coder Q) CJ0_coder (m + 1) K (0, L, s, h) = i_ic 1 3 (wpn (TJ0_coder Q) CJ0_coder m K) L s h := rfl
theorem xJ0_coder_3 : wpn (TJ0_coder Q) CJ0_coder (m + 1) K (3, L, s, h) = i_if_eq 13 6 (wpn (TJ0_coder Q) CJ0_coder m K) L s h := rfl
theorem xJ0_coder_6 : wpn (TJ0_coder Q) CJ0_coder (m + 1) K (6, L, s, h) = i_ald 0 7 (wpn (TJ0_coder Q) CJ0_coder m K) L s h := rfl
theorem xJ0_coder_7 : wpn (TJ0_coder Q) CJ0_coder (m + 1) K (7, L, s, h) = i_sgc 10 (wpn (TJ0_coder Q) CJ0_coder m K) L s h := rfl
theorem xJ0_coder_10 : wpn (TJ0_coder Q) CJ0_coder (m + 1) K (10, L, s, h) = i_goto 14 (wpn (TJ0_coder Q) CJ0_coder m K) L s h := rfl
theorem xJ0_coder_13 : wpn (TJ0_coder Q) CJ0_coder (m + 1) K (13, L, s, h) = i_ic 1 14 (wpn (TJ0_coder Q) CJ0_coder m K) L s h := rfl
theorem xJ0_coder_14 : wpn (TJ0_coder Q) CJ0_coder (m + 1) K (14, L, s, h) = i_bret Q (wpn (TJ0_coder Q) CJ0_coder m K) L s h := rfl
def TJ0_isLatin1 (Q : Po) : Nat → Tr := nd 10 (nd 6 (nd 3 (lf 0 (i_ic 1 3)) (lf 3 (i_if_eq 17 6))) (nd 7 (lf 6 (i_ald 0 7)) (lf 7 (i_sgc 10)))) (nd 14 (nd 13 (lf 10 (i_if_ne 17 13)) (lf 13 (i_ic 1 14))) (nd 17 (lf 14 (i_goto 18)) (nd 18 (lf 17 (i_ic 0 18)) (lf 18 (i_zret Q)))))
def CJ0_isLatin1 : List Nat := []
theorem xJ0_isLatin1_0 : wpn (TJ0_isLatin1 Q) CJ0_isLatin1 (m + 1) K (0, L, s, h) = i_ic 1 3 (wpn (TJ0_isLatin1 Q) CJ0_isLatin1 m K) L s h := rfl
theorem xJ0_isLatin1_3 : wpn (TJ0_isLatin1 Q) CJ0_isLatin1 (m + 1) K (3, L, s, h) = i_if_eq 17 6 (wpn (TJ0_isLatin1 Q) CJ0_isLatin1 m K) L s h := rfl
theorem xJ0_isLatin1_6 : wpn (TJ0_isLatin1 Q) CJ0_isLatin1 (m + 1) K (6, L, s, h) = i_ald 0 7 (wpn (TJ0_isLatin1 Q) CJ0_isLatin1 m K) L s h := rfl
theorem xJ0_isLatin1_7 : wpn (TJ0_isLatin1 Q) CJ0_isLatin1 (m + 1) K (7, L, s, h) = i_sgc 10 (wpn (TJ0_isLatin1 Q) CJ0_isLatin1 m K) L s h := rfl
theorem xJ0_isLatin1_10 : wpn (TJ0_isLatin1 Q) CJ0_isLatin1 (m + 1) K (10, L, s, h) = i_if_ne 17 13 (wpn (TJ0_isLatin1 Q) CJ0_isLatin1 m K) L s h := rfl
theorem xJ0_isLatin1_13 : wpn (TJ0_isLatin1 Q) CJ0_isLatin1 (m + 1) K (13, L, s, h) = i_ic 1 14 (wpn (TJ0_isLatin1 Q) CJ0_isLatin1 m K) L s h := rfl
theorem xJ0_isLatin1_14 : wpn (TJ0_isLatin1 Q) CJ0_isLatin1 (m + 1) K (14, L, s, h) = i_goto 18 (wpn (TJ0_isLatin1 Q) CJ0_isLatin1 m K) L s h := rfl
theorem xJ0_isLatin1_17 : wpn (TJ0_isLatin1 Q) CJ0_isLatin1 (m + 1) K (17, L, s, h) = i_ic 0 18 (wpn (TJ0_isLatin1 Q) CJ0_isLatin1 m K) L s h := rfl
theorem xJ0_isLatin1_18 : wpn (TJ0_isLatin1 Q) CJ0_isLatin1 (m + 1) K (18, L, s, h) = i_zret Q (wpn (TJ0_isLatin1 Q) CJ0_isLatin1 m K) L s h := rfl
def TJ0_checkIndex (Q : Po) (SJ3_checkIndex : Sp) : Nat → Tr := nd 5 (nd 1 (lf 0 (i_ild 0 1)) (nd 2 (lf 1 (i_ild 1 2)) (lf 2 (i_gsf 5)))) (nd 8 (lf 5 (i_cS 3 SJ3_checkIndex 8)) (nd 9 (lf 8 (i_pop 9)) (lf 9 (i_vret Q))))
def CJ0_checkIndex : List Nat := []
theorem xJ0_checkIndex_0 : wpn (TJ0_checkIndex Q SJ3_checkIndex) CJ0_checkIndex (m + 1) K (0, L, s, h) = i_ild 0 1 (wpn (TJ0_checkIndex Q SJ3_checkIndex) CJ0_checkIndex m K) L s h := rfl
theorem xJ0_checkIndex_1 : wpn (TJ0_checkIndex Q SJ3_checkIndex) CJ0_checkIndex (m + 1) K (1, L, s, h) = i_ild 1 2 (wpn (TJ0_checkIndex Q SJ3_checkIndex) CJ0_checkIndex m K) L s h := rfl
theorem xJ0_checkIndex_2 : wpn (TJ0_checkIndex Q SJ3_checkIndex) CJ0_checkIndex (m + 1) K (2, L, s, h) = i_gsf 5 (wpn (TJ0_checkIndex Q SJ3_checkIndex) CJ0_checkIndex m K) L s h := rfl
theorem xJ0_checkIndex_5 : wpn (TJ0_checkIndex Q SJ3_checkIndex) CJ0_checkIndex (m + 1) K (5, L, s, h) = i_cS 3 SJ3_checkIndex 8 (wpn (TJ0_checkIndex Q SJ3_checkIndex) CJ0_checkIndex m K) L s h := rfl
theorem xJ0_checkIndex_8 : wpn (TJ0_checkIndex Q SJ3_checkIndex) CJ0_checkIndex (m + 1) K (8, L, s, h) = i_pop 9 (wpn (TJ0_checkIndex Q SJ3_checkIndex) CJ0_checkIndex m K) L s h := rfl
theorem xJ0_checkIndex_9 : wpn (TJ0_checkIndex Q SJ3_checkIndex) CJ0_checkIndex (m + 1) K (9, L, s, h) = i_vret Q (wpn (TJ0_checkIndex Q SJ3_checkIndex) CJ0_checkIndex m K) L s h := rfl
def TJ1_charAt (Q : Po) (SJ0_checkIndex : Sp) : Nat → Tr := nd 7 (nd 2 (nd 1 (lf 0 (i_ild 1 1)) (lf 1 (i_ald 0 2))) (nd 3 (lf 2 (i_balen 3)) (nd 6 (lf 3 (i_cS 2 SJ0_checkIndex 6)) (lf 6 (i_ald 0 7))))) (nd 12 (nd 8 (lf 7 (i_ild 1 8)) (nd 9 (lf 8 (i_bald 9)) (lf 9 (i_ic 255 12)))) (nd 13 (lf 12 (i_iand 13)) (nd 14 (lf 13 (i_i2c 14)) (lf 14 (i_cret Q)))))
def CJ1_charAt : List Nat := []
theorem xJ1_charAt_0 : wpn (TJ1_charAt Q SJ0_checkIndex) CJ1_charAt (m + 1) K (0, L, s, h) = i_ild 1 1 (wpn (TJ1_charAt Q SJ0_checkIndex) CJ1_charAt m K) L s h := rfl
theorem xJ1_charAt_1 : wpn (TJ1_charAt Q SJ0_checkIndex) CJ1_charAt (m + 1) K (1, L, s, h) = i_ald 0 2 (wpn (TJ1_charAt Q SJ0_checkIndex) CJ1_charAt m K) L s h := rfl
theorem xJ1_charAt_2 : wpn (TJ1_charAt Q SJ0_checkIndex) CJ1_charAt (m + 1) K (2, L, s, h) = i_balen 3 (wpn (TJ1_charAt Q SJ0_checkIndex) CJ1_charAt m K) L s h := rfl
theorem xJ1_charAt_3 : wpn (TJ1_charAt Q SJ0_checkIndex) CJ1_charAt (m + 1) K (3, L, s, h) = i_cS 2 SJ0_checkIndex 6 (wpn (TJ1_charAt Q SJ0_checkIndex) CJ1_charAt m K) L s h := rfl
theorem xJ1_charAt_6 : wpn (TJ1_charAt Q SJ0_checkIndex) CJ1_charAt (m + 1) K (6, L, s, h) = i_ald 0 7 (wpn (TJ1_charAt Q SJ0_checkIndex) CJ1_charAt m K) L s h := rfl
theorem xJ1_charAt_7 : wpn (TJ1_charAt Q SJ0_checkIndex) CJ1_charAt (m + 1) K (7, L, s, h) = i_ild 1 8 (wpn (TJ1_charAt Q SJ0_checkIndex) CJ1_charAt m K) L s h := rfl
theorem xJ1_charAt_8 : wpn (TJ1_charAt Q SJ0_checkIndex) CJ1_charAt (m + 1) K (8, L, s, h) = i_bald 9 (wpn (TJ1_charAt Q SJ0_checkIndex) CJ1_charAt m K) L s h := rfl
theorem xJ1_charAt_9 : wpn (TJ1_charAt Q SJ0_checkIndex) CJ1_charAt (m + 1) K (9, L, s, h) = i_ic 255 12 (wpn (TJ1_charAt Q SJ0_checkIndex) CJ1_charAt m K) L s h := rfl
theorem xJ1_charAt_12 : wpn (TJ1_charAt Q SJ0_checkIndex) CJ1_charAt (m + 1) K (12, L, s, h) = i_iand 13 (wpn (TJ1_charAt Q SJ0_checkIndex) CJ1_charAt m K) L s h := rfl
theorem xJ1_charAt_13 : wpn (TJ1_charAt Q SJ0_checkIndex) CJ1_charAt (m + 1) K (13, L, s, h) = i_i2c 14 (wpn (TJ1_charAt Q SJ0_checkIndex) CJ1_charAt m K) L s h := rfl
theorem xJ1_charAt_14 : wpn (TJ1_charAt Q SJ0_checkIndex) CJ1_charAt (m + 1) K (14, L, s, h) = i_cret Q (wpn (TJ1_charAt Q SJ0_checkIndex) CJ1_charAt m K) L s h := rfl
def TJ3_checkIndex (Q : Po) : Nat → Tr := nd 5 (nd 1 (lf 0 (i_ild 0 1)) (nd 4 (lf 1 (i_if_lt 9 4)) (lf 4 (i_ild 0 5)))) (nd 16 (nd 6 (lf 5 (i_ild 1 6)) (lf 6 (i_ic_lt 16 9))) (nd 17 (lf 16 (i_ild 0 17)) (lf 17 (i_iret Q))))
def CJ3_checkIndex : List Nat := []
theorem xJ3_checkIndex_0 : wpn (TJ3_checkIndex Q) CJ3_checkIndex (m + 1) K (0, L, s, h) = i_ild 0 1 (wpn (TJ3_checkIndex Q) CJ3_checkIndex m K) L s h := rfl
theorem xJ3_checkIndex_1 : wpn (TJ3_checkIndex Q) CJ3_checkIndex (m + 1) K (1, L, s, h) = i_if_lt 9 4 (wpn (TJ3_checkIndex Q) CJ3_checkIndex m K) L s h := rfl
theorem xJ3_checkIndex_4 : wpn (TJ3_checkIndex Q) CJ3_checkIndex (m + 1) K (4, L, s, h) = i_ild 0 5 (wpn (TJ3_checkIndex Q) CJ3_checkIndex m K) L s h := rfl
theorem xJ3_checkIndex_5 : wpn (TJ3_checkIndex Q) CJ3_checkIndex (m + 1) K (5, L, s, h) = i_ild 1 6 (wpn (TJ3_checkIndex Q) CJ3_checkIndex m K) L s h := rfl
theorem xJ3_checkIndex_6 : wpn (TJ3_checkIndex Q) CJ3_checkIndex (m + 1) K (6, L, s, h) = i_ic_lt 16 9 (wpn (TJ3_checkIndex Q) CJ3_checkIndex m K) L s h := rfl
theorem xJ3_checkIndex_16 : wpn (TJ3_checkIndex Q) CJ3_checkIndex (m + 1) K (16, L, s, h) = i_ild 0 17 (wpn (TJ3_checkIndex Q) CJ3_checkIndex m K) L s h := rfl
theorem xJ3_checkIndex_17 : wpn (TJ3_checkIndex Q) CJ3_checkIndex (m + 1) K (17, L, s, h) = i_iret Q (wpn (TJ3_checkIndex Q) CJ3_checkIndex m K) L s h := rfl
end TB
