/-! step tables of the methods, printed by wip/gen_tables.py -/
section TB
variable {Q : Po} {m : Nat} {K : St → Prop} {L : Lo} {s : List Value} {h : Hp} {S1_isOut S1_has S1_riteAt S1_thoseIn SJ6_bitCount S1_takeTurn S1_isHeld S1_needs S1_pays S5_heldGrace S1_gains S1_draw S1_passOccasions : Sp}
def T1_becomeFirst (Q : Po) : Nat → Tr := nd 22 (nd 10 (nd 5 (nd 3 (lf 0 (i_rc 90 3)) (nd 4 (lf 3 (i_ic 0 4)) (lf 4 (i_ald 0 5)))) (nd 8 (lf 5 (i_get 1 0 8)) (nd 9 (lf 8 (i_ic 0 9)) (lf 9 (i_ic 4 10))))) (nd 15 (nd 13 (lf 10 (i_copy 13)) (nd 14 (lf 13 (i_ic 0 14)) (lf 14 (i_ist 1 15)))) (nd 18 (nd 16 (lf 15 (i_ild 1 16)) (lf 16 (i_ic 8 18))) (nd 21 (lf 18 (i_ic_ge 35 21)) (lf 21 (i_ald 0 22)))))) (nd 35 (nd 28 (nd 25 (lf 22 (i_get 1 1 25)) (nd 26 (lf 25 (i_ild 1 26)) (lf 26 (i_ic 10 28)))) (nd 29 (lf 28 (i_iast 29)) (nd 32 (lf 29 (i_inc 1 1 32)) (lf 32 (i_goto 15))))) (nd 40 (nd 36 (lf 35 (i_ald 0 36)) (nd 37 (lf 36 (i_ic 0 37)) (lf 37 (i_put 1 6 40)))) (nd 42 (nd 41 (lf 40 (i_ald 0 41)) (lf 41 (i_ic 0 42))) (nd 45 (lf 42 (i_put 1 7 45)) (lf 45 (i_vret Q))))))
def C1_becomeFirst : List Nat := [15]
theorem x1_becomeFirst_0 : wpn (T1_becomeFirst Q) C1_becomeFirst (m + 1) K (0, L, s, h) = i_rc 90 3 (wpn (T1_becomeFirst Q) C1_becomeFirst m K) L s h := rfl
theorem x1_becomeFirst_3 : wpn (T1_becomeFirst Q) C1_becomeFirst (m + 1) K (3, L, s, h) = i_ic 0 4 (wpn (T1_becomeFirst Q) C1_becomeFirst m K) L s h := rfl
theorem x1_becomeFirst_4 : wpn (T1_becomeFirst Q) C1_becomeFirst (m + 1) K (4, L, s, h) = i_ald 0 5 (wpn (T1_becomeFirst Q) C1_becomeFirst m K) L s h := rfl
theorem x1_becomeFirst_5 : wpn (T1_becomeFirst Q) C1_becomeFirst (m + 1) K (5, L, s, h) = i_get 1 0 8 (wpn (T1_becomeFirst Q) C1_becomeFirst m K) L s h := rfl
theorem x1_becomeFirst_8 : wpn (T1_becomeFirst Q) C1_becomeFirst (m + 1) K (8, L, s, h) = i_ic 0 9 (wpn (T1_becomeFirst Q) C1_becomeFirst m K) L s h := rfl
theorem x1_becomeFirst_9 : wpn (T1_becomeFirst Q) C1_becomeFirst (m + 1) K (9, L, s, h) = i_ic 4 10 (wpn (T1_becomeFirst Q) C1_becomeFirst m K) L s h := rfl
theorem x1_becomeFirst_10 : wpn (T1_becomeFirst Q) C1_becomeFirst (m + 1) K (10, L, s, h) = i_copy 13 (wpn (T1_becomeFirst Q) C1_becomeFirst m K) L s h := rfl
theorem x1_becomeFirst_13 : wpn (T1_becomeFirst Q) C1_becomeFirst (m + 1) K (13, L, s, h) = i_ic 0 14 (wpn (T1_becomeFirst Q) C1_becomeFirst m K) L s h := rfl
theorem x1_becomeFirst_14 : wpn (T1_becomeFirst Q) C1_becomeFirst (m + 1) K (14, L, s, h) = i_ist 1 15 (wpn (T1_becomeFirst Q) C1_becomeFirst m K) L s h := rfl
theorem k1_becomeFirst_15 : wpn (T1_becomeFirst Q) C1_becomeFirst (m + 1) K (15, L, s, h) = K (15, L, s, h) := rfl
theorem t1_becomeFirst_15 : T1_becomeFirst Q 15 = i_ild 1 16 := rfl
theorem x1_becomeFirst_16 : wpn (T1_becomeFirst Q) C1_becomeFirst (m + 1) K (16, L, s, h) = i_ic 8 18 (wpn (T1_becomeFirst Q) C1_becomeFirst m K) L s h := rfl
theorem x1_becomeFirst_18 : wpn (T1_becomeFirst Q) C1_becomeFirst (m + 1) K (18, L, s, h) = i_ic_ge 35 21 (wpn (T1_becomeFirst Q) C1_becomeFirst m K) L s h := rfl
theorem x1_becomeFirst_21 : wpn (T1_becomeFirst Q) C1_becomeFirst (m + 1) K (21, L, s, h) = i_ald 0 22 (wpn (T1_becomeFirst Q) C1_becomeFirst m K) L s h := rfl
theorem x1_becomeFirst_22 : wpn (T1_becomeFirst Q) C1_becomeFirst (m + 1) K (22, L, s, h) = i_get 1 1 25 (wpn (T1_becomeFirst Q) C1_becomeFirst m K) L s h := rfl
theorem x1_becomeFirst_25 : wpn (T1_becomeFirst Q) C1_becomeFirst (m + 1) K (25, L, s, h) = i_ild 1 26 (wpn (T1_becomeFirst Q) C1_becomeFirst m K) L s h := rfl
theorem x1_becomeFirst_26 : wpn (T1_becomeFirst Q) C1_becomeFirst (m + 1) K (26, L, s, h) = i_ic 10 28 (wpn (T1_becomeFirst Q) C1_becomeFirst m K) L s h := rfl
theorem x1_becomeFirst_28 : wpn (T1_becomeFirst Q) C1_becomeFirst (m + 1) K (28, L, s, h) = i_iast 29 (wpn (T1_becomeFirst Q) C1_becomeFirst m K) L s h := rfl
theorem x1_becomeFirst_29 : wpn (T1_becomeFirst Q) C1_becomeFirst (m + 1) K (29, L, s, h) = i_inc 1 1 32 (wpn (T1_becomeFirst Q) C1_becomeFirst m K) L s h := rfl
theorem x1_becomeFirst_32 : wpn (T1_becomeFirst Q) C1_becomeFirst (m + 1) K (32, L, s, h) = i_goto 15 (wpn (T1_becomeFirst Q) C1_becomeFirst m K) L s h := rfl
theorem x1_becomeFirst_35 : wpn (T1_becomeFirst Q) C1_becomeFirst (m + 1) K (35, L, s, h) = i_ald 0 36 (wpn (T1_becomeFirst Q) C1_becomeFirst m K) L s h := rfl
theorem x1_becomeFirst_36 : wpn (T1_becomeFirst Q) C1_becomeFirst (m + 1) K (36, L, s, h) = i_ic 0 37 (wpn (T1_becomeFirst Q) C1_becomeFirst m K) L s h := rfl
theorem x1_becomeFirst_37 : wpn (T1_becomeFirst Q) C1_becomeFirst (m + 1) K (37, L, s, h) = i_put 1 6 40 (wpn (T1_becomeFirst Q) C1_becomeFirst m K) L s h := rfl
theorem x1_becomeFirst_40 : wpn (T1_becomeFirst Q) C1_becomeFirst (m + 1) K (40, L, s, h) = i_ald 0 41 (wpn (T1_becomeFirst Q) C1_becomeFirst m K) L s h := rfl
theorem x1_becomeFirst_41 : wpn (T1_becomeFirst Q) C1_becomeFirst (m + 1) K (41, L, s, h) = i_ic 0 42 (wpn (T1_becomeFirst Q) C1_becomeFirst m K) L s h := rfl
theorem x1_becomeFirst_42 : wpn (T1_becomeFirst Q) C1_becomeFirst (m + 1) K (42, L, s, h) = i_put 1 7 45 (wpn (T1_becomeFirst Q) C1_becomeFirst m K) L s h := rfl
theorem x1_becomeFirst_45 : wpn (T1_becomeFirst Q) C1_becomeFirst (m + 1) K (45, L, s, h) = i_vret Q (wpn (T1_becomeFirst Q) C1_becomeFirst m K) L s h := rfl
def T1_copy (Q : Po) : Nat → Tr := nd 54 (nd 26 (nd 11 (nd 5 (nd 1 (lf 0 (i_ald 1 1)) (nd 4 (lf 1 (i_get 1 0 4)) (lf 4 (i_ic 0 5)))) (nd 9 (nd 6 (lf 5 (i_ald 0 6)) (lf 6 (i_get 1 0 9))) (nd 10 (lf 9 (i_ic 0 10)) (lf 10 (i_ic 4 11))))) (nd 19 (nd 15 (nd 14 (lf 11 (i_copy 14)) (lf 14 (i_ald 1 15))) (nd 18 (lf 15 (i_get 1 1 18)) (lf 18 (i_ic 0 19)))) (nd 23 (nd 20 (lf 19 (i_ald 0 20)) (lf 20 (i_get 1 1 23))) (nd 24 (lf 23 (i_ic 0 24)) (lf 24 (i_ic 8 26)))))) (nd 39 (nd 33 (nd 29 (lf 26 (i_copy 29)) (nd 30 (lf 29 (i_ald 1 30)) (lf 30 (i_get 1 2 33)))) (nd 35 (nd 34 (lf 33 (i_ic 0 34)) (lf 34 (i_ald 0 35))) (nd 38 (lf 35 (i_get 1 2 38)) (lf 38 (i_ic 0 39))))) (nd 48 (nd 44 (nd 41 (lf 39 (i_ic 8 41)) (lf 41 (i_copy 44))) (nd 45 (lf 44 (i_ald 1 45)) (lf 45 (i_get 1 3 48)))) (nd 50 (nd 49 (lf 48 (i_ic 0 49)) (lf 49 (i_ald 0 50))) (nd 53 (lf 50 (i_get 1 3 53)) (lf 53 (i_ic 0 54))))))) (nd 83 (nd 68 (nd 60 (nd 56 (lf 54 (i_ic 8 56)) (nd 59 (lf 56 (i_copy 59)) (lf 59 (i_ald 1 60)))) (nd 64 (nd 63 (lf 60 (i_get 1 4 63)) (lf 63 (i_ic 0 64))) (nd 65 (lf 64 (i_ald 0 65)) (lf 65 (i_get 1 4 68))))) (nd 75 (nd 71 (nd 69 (lf 68 (i_ic 0 69)) (lf 69 (i_ic 8 71))) (nd 74 (lf 71 (i_copy 74)) (lf 74 (i_ald 1 75)))) (nd 79 (nd 78 (lf 75 (i_get 1 5 78)) (lf 78 (i_ic 0 79))) (nd 80 (lf 79 (i_ald 0 80)) (lf 80 (i_get 1 5 83)))))) (nd 98 (nd 90 (nd 86 (nd 84 (lf 83 (i_ic 0 84)) (lf 84 (i_ic 8 86))) (nd 89 (lf 86 (i_copy 89)) (lf 89 (i_ald 0 90)))) (nd 94 (nd 91 (lf 90 (i_ald 1 91)) (lf 91 (i_get 1 6 94))) (nd 97 (lf 94 (i_put 1 6 97)) (lf 97 (i_ald 0 98))))) (nd 106 (nd 102 (nd 99 (lf 98 (i_ald 1 99)) (lf 99 (i_get 1 7 102))) (nd 105 (lf 102 (i_put 1 7 105)) (lf 105 (i_ald 0 106)))) (nd 110 (nd 107 (lf 106 (i_ald 1 107)) (lf 107 (i_get 1 8 110))) (nd 113 (lf 110 (i_put 1 8 113)) (lf 113 (i_vret Q)))))))
def C1_copy : List Nat := []
theorem x1_copy_0 : wpn (T1_copy Q) C1_copy (m + 1) K (0, L, s, h) = i_ald 1 1 (wpn (T1_copy Q) C1_copy m K) L s h := rfl
theorem x1_copy_1 : wpn (T1_copy Q) C1_copy (m + 1) K (1, L, s, h) = i_get 1 0 4 (wpn (T1_copy Q) C1_copy m K) L s h := rfl
theorem x1_copy_4 : wpn (T1_copy Q) C1_copy (m + 1) K (4, L, s, h) = i_ic 0 5 (wpn (T1_copy Q) C1_copy m K) L s h := rfl
theorem x1_copy_5 : wpn (T1_copy Q) C1_copy (m + 1) K (5, L, s, h) = i_ald 0 6 (wpn (T1_copy Q) C1_copy m K) L s h := rfl
theorem x1_copy_6 : wpn (T1_copy Q) C1_copy (m + 1) K (6, L, s, h) = i_get 1 0 9 (wpn (T1_copy Q) C1_copy m K) L s h := rfl
theorem x1_copy_9 : wpn (T1_copy Q) C1_copy (m + 1) K (9, L, s, h) = i_ic 0 10 (wpn (T1_copy Q) C1_copy m K) L s h := rfl
theorem x1_copy_10 : wpn (T1_copy Q) C1_copy (m + 1) K (10, L, s, h) = i_ic 4 11 (wpn (T1_copy Q) C1_copy m K) L s h := rfl
theorem x1_copy_11 : wpn (T1_copy Q) C1_copy (m + 1) K (11, L, s, h) = i_copy 14 (wpn (T1_copy Q) C1_copy m K) L s h := rfl
theorem x1_copy_14 : wpn (T1_copy Q) C1_copy (m + 1) K (14, L, s, h) = i_ald 1 15 (wpn (T1_copy Q) C1_copy m K) L s h := rfl
theorem x1_copy_15 : wpn (T1_copy Q) C1_copy (m + 1) K (15, L, s, h) = i_get 1 1 18 (wpn (T1_copy Q) C1_copy m K) L s h := rfl
theorem x1_copy_18 : wpn (T1_copy Q) C1_copy (m + 1) K (18, L, s, h) = i_ic 0 19 (wpn (T1_copy Q) C1_copy m K) L s h := rfl
theorem x1_copy_19 : wpn (T1_copy Q) C1_copy (m + 1) K (19, L, s, h) = i_ald 0 20 (wpn (T1_copy Q) C1_copy m K) L s h := rfl
theorem x1_copy_20 : wpn (T1_copy Q) C1_copy (m + 1) K (20, L, s, h) = i_get 1 1 23 (wpn (T1_copy Q) C1_copy m K) L s h := rfl
theorem x1_copy_23 : wpn (T1_copy Q) C1_copy (m + 1) K (23, L, s, h) = i_ic 0 24 (wpn (T1_copy Q) C1_copy m K) L s h := rfl
theorem x1_copy_24 : wpn (T1_copy Q) C1_copy (m + 1) K (24, L, s, h) = i_ic 8 26 (wpn (T1_copy Q) C1_copy m K) L s h := rfl
theorem x1_copy_26 : wpn (T1_copy Q) C1_copy (m + 1) K (26, L, s, h) = i_copy 29 (wpn (T1_copy Q) C1_copy m K) L s h := rfl
theorem x1_copy_29 : wpn (T1_copy Q) C1_copy (m + 1) K (29, L, s, h) = i_ald 1 30 (wpn (T1_copy Q) C1_copy m K) L s h := rfl
theorem x1_copy_30 : wpn (T1_copy Q) C1_copy (m + 1) K (30, L, s, h) = i_get 1 2 33 (wpn (T1_copy Q) C1_copy m K) L s h := rfl
theorem x1_copy_33 : wpn (T1_copy Q) C1_copy (m + 1) K (33, L, s, h) = i_ic 0 34 (wpn (T1_copy Q) C1_copy m K) L s h := rfl
theorem x1_copy_34 : wpn (T1_copy Q) C1_copy (m + 1) K (34, L, s, h) = i_ald 0 35 (wpn (T1_copy Q) C1_copy m K) L s h := rfl
theorem x1_copy_35 : wpn (T1_copy Q) C1_copy (m + 1) K (35, L, s, h) = i_get 1 2 38 (wpn (T1_copy Q) C1_copy m K) L s h := rfl
theorem x1_copy_38 : wpn (T1_copy Q) C1_copy (m + 1) K (38, L, s, h) = i_ic 0 39 (wpn (T1_copy Q) C1_copy m K) L s h := rfl
theorem x1_copy_39 : wpn (T1_copy Q) C1_copy (m + 1) K (39, L, s, h) = i_ic 8 41 (wpn (T1_copy Q) C1_copy m K) L s h := rfl
theorem x1_copy_41 : wpn (T1_copy Q) C1_copy (m + 1) K (41, L, s, h) = i_copy 44 (wpn (T1_copy Q) C1_copy m K) L s h := rfl
theorem x1_copy_44 : wpn (T1_copy Q) C1_copy (m + 1) K (44, L, s, h) = i_ald 1 45 (wpn (T1_copy Q) C1_copy m K) L s h := rfl
theorem x1_copy_45 : wpn (T1_copy Q) C1_copy (m + 1) K (45, L, s, h) = i_get 1 3 48 (wpn (T1_copy Q) C1_copy m K) L s h := rfl
theorem x1_copy_48 : wpn (T1_copy Q) C1_copy (m + 1) K (48, L, s, h) = i_ic 0 49 (wpn (T1_copy Q) C1_copy m K) L s h := rfl
theorem x1_copy_49 : wpn (T1_copy Q) C1_copy (m + 1) K (49, L, s, h) = i_ald 0 50 (wpn (T1_copy Q) C1_copy m K) L s h := rfl
theorem x1_copy_50 : wpn (T1_copy Q) C1_copy (m + 1) K (50, L, s, h) = i_get 1 3 53 (wpn (T1_copy Q) C1_copy m K) L s h := rfl
theorem x1_copy_53 : wpn (T1_copy Q) C1_copy (m + 1) K (53, L, s, h) = i_ic 0 54 (wpn (T1_copy Q) C1_copy m K) L s h := rfl
theorem x1_copy_54 : wpn (T1_copy Q) C1_copy (m + 1) K (54, L, s, h) = i_ic 8 56 (wpn (T1_copy Q) C1_copy m K) L s h := rfl
theorem x1_copy_56 : wpn (T1_copy Q) C1_copy (m + 1) K (56, L, s, h) = i_copy 59 (wpn (T1_copy Q) C1_copy m K) L s h := rfl
theorem x1_copy_59 : wpn (T1_copy Q) C1_copy (m + 1) K (59, L, s, h) = i_ald 1 60 (wpn (T1_copy Q) C1_copy m K) L s h := rfl
theorem x1_copy_60 : wpn (T1_copy Q) C1_copy (m + 1) K (60, L, s, h) = i_get 1 4 63 (wpn (T1_copy Q) C1_copy m K) L s h := rfl
theorem x1_copy_63 : wpn (T1_copy Q) C1_copy (m + 1) K (63, L, s, h) = i_ic 0 64 (wpn (T1_copy Q) C1_copy m K) L s h := rfl
theorem x1_copy_64 : wpn (T1_copy Q) C1_copy (m + 1) K (64, L, s, h) = i_ald 0 65 (wpn (T1_copy Q) C1_copy m K) L s h := rfl
theorem x1_copy_65 : wpn (T1_copy Q) C1_copy (m + 1) K (65, L, s, h) = i_get 1 4 68 (wpn (T1_copy Q) C1_copy m K) L s h := rfl
theorem x1_copy_68 : wpn (T1_copy Q) C1_copy (m + 1) K (68, L, s, h) = i_ic 0 69 (wpn (T1_copy Q) C1_copy m K) L s h := rfl
theorem x1_copy_69 : wpn (T1_copy Q) C1_copy (m + 1) K (69, L, s, h) = i_ic 8 71 (wpn (T1_copy Q) C1_copy m K) L s h := rfl
theorem x1_copy_71 : wpn (T1_copy Q) C1_copy (m + 1) K (71, L, s, h) = i_copy 74 (wpn (T1_copy Q) C1_copy m K) L s h := rfl
theorem x1_copy_74 : wpn (T1_copy Q) C1_copy (m + 1) K (74, L, s, h) = i_ald 1 75 (wpn (T1_copy Q) C1_copy m K) L s h := rfl
theorem x1_copy_75 : wpn (T1_copy Q) C1_copy (m + 1) K (75, L, s, h) = i_get 1 5 78 (wpn (T1_copy Q) C1_copy m K) L s h := rfl
theorem x1_copy_78 : wpn (T1_copy Q) C1_copy (m + 1) K (78, L, s, h) = i_ic 0 79 (wpn (T1_copy Q) C1_copy m K) L s h := rfl
theorem x1_copy_79 : wpn (T1_copy Q) C1_copy (m + 1) K (79, L, s, h) = i_ald 0 80 (wpn (T1_copy Q) C1_copy m K) L s h := rfl
theorem x1_copy_80 : wpn (T1_copy Q) C1_copy (m + 1) K (80, L, s, h) = i_get 1 5 83 (wpn (T1_copy Q) C1_copy m K) L s h := rfl
theorem x1_copy_83 : wpn (T1_copy Q) C1_copy (m + 1) K (83, L, s, h) = i_ic 0 84 (wpn (T1_copy Q) C1_copy m K) L s h := rfl
theorem x1_copy_84 : wpn (T1_copy Q) C1_copy (m + 1) K (84, L, s, h) = i_ic 8 86 (wpn (T1_copy Q) C1_copy m K) L s h := rfl
theorem x1_copy_86 : wpn (T1_copy Q) C1_copy (m + 1) K (86, L, s, h) = i_copy 89 (wpn (T1_copy Q) C1_copy m K) L s h := rfl
theorem x1_copy_89 : wpn (T1_copy Q) C1_copy (m + 1) K (89, L, s, h) = i_ald 0 90 (wpn (T1_copy Q) C1_copy m K) L s h := rfl
theorem x1_copy_90 : wpn (T1_copy Q) C1_copy (m + 1) K (90, L, s, h) = i_ald 1 91 (wpn (T1_copy Q) C1_copy m K) L s h := rfl
theorem x1_copy_91 : wpn (T1_copy Q) C1_copy (m + 1) K (91, L, s, h) = i_get 1 6 94 (wpn (T1_copy Q) C1_copy m K) L s h := rfl
theorem x1_copy_94 : wpn (T1_copy Q) C1_copy (m + 1) K (94, L, s, h) = i_put 1 6 97 (wpn (T1_copy Q) C1_copy m K) L s h := rfl
theorem x1_copy_97 : wpn (T1_copy Q) C1_copy (m + 1) K (97, L, s, h) = i_ald 0 98 (wpn (T1_copy Q) C1_copy m K) L s h := rfl
theorem x1_copy_98 : wpn (T1_copy Q) C1_copy (m + 1) K (98, L, s, h) = i_ald 1 99 (wpn (T1_copy Q) C1_copy m K) L s h := rfl
theorem x1_copy_99 : wpn (T1_copy Q) C1_copy (m + 1) K (99, L, s, h) = i_get 1 7 102 (wpn (T1_copy Q) C1_copy m K) L s h := rfl
theorem x1_copy_102 : wpn (T1_copy Q) C1_copy (m + 1) K (102, L, s, h) = i_put 1 7 105 (wpn (T1_copy Q) C1_copy m K) L s h := rfl
theorem x1_copy_105 : wpn (T1_copy Q) C1_copy (m + 1) K (105, L, s, h) = i_ald 0 106 (wpn (T1_copy Q) C1_copy m K) L s h := rfl
theorem x1_copy_106 : wpn (T1_copy Q) C1_copy (m + 1) K (106, L, s, h) = i_ald 1 107 (wpn (T1_copy Q) C1_copy m K) L s h := rfl
theorem x1_copy_107 : wpn (T1_copy Q) C1_copy (m + 1) K (107, L, s, h) = i_get 1 8 110 (wpn (T1_copy Q) C1_copy m K) L s h := rfl
theorem x1_copy_110 : wpn (T1_copy Q) C1_copy (m + 1) K (110, L, s, h) = i_put 1 8 113 (wpn (T1_copy Q) C1_copy m K) L s h := rfl
theorem x1_copy_113 : wpn (T1_copy Q) C1_copy (m + 1) K (113, L, s, h) = i_vret Q (wpn (T1_copy Q) C1_copy m K) L s h := rfl
def T1_add (Q : Po) : Nat → Tr := nd 31 (nd 18 (nd 9 (nd 4 (nd 1 (lf 0 (i_ald 0 1)) (lf 1 (i_get 1 6 4))) (nd 6 (lf 4 (i_ic 8 6)) (lf 6 (i_ic_lt 10 9)))) (nd 11 (nd 10 (lf 9 (i_vret Q)) (lf 10 (i_ald 0 11))) (nd 14 (lf 11 (i_get 1 2 14)) (nd 15 (lf 14 (i_ald 0 15)) (lf 15 (i_get 1 6 18)))))) (nd 24 (nd 20 (nd 19 (lf 18 (i_ild 1 19)) (lf 19 (i_iast 20))) (nd 21 (lf 20 (i_ald 0 21)) (lf 21 (i_get 1 3 24)))) (nd 28 (nd 25 (lf 24 (i_ald 0 25)) (lf 25 (i_get 1 6 28))) (nd 29 (lf 28 (i_ild 2 29)) (nd 30 (lf 29 (i_iast 30)) (lf 30 (i_ald 0 31))))))) (nd 48 (nd 39 (nd 35 (nd 34 (lf 31 (i_get 1 4 34)) (lf 34 (i_ald 0 35))) (nd 38 (lf 35 (i_get 1 6 38)) (lf 38 (i_ild 3 39)))) (nd 41 (nd 40 (lf 39 (i_iast 40)) (lf 40 (i_ald 0 41))) (nd 44 (lf 41 (i_get 1 5 44)) (nd 45 (lf 44 (i_ald 0 45)) (lf 45 (i_get 1 6 48)))))) (nd 52 (nd 50 (nd 49 (lf 48 (i_ic (-1) 49)) (lf 49 (i_iast 50))) (nd 51 (lf 50 (i_ald 0 51)) (lf 51 (i_dup 52)))) (nd 56 (nd 55 (lf 52 (i_get 1 6 55)) (lf 55 (i_ic 1 56))) (nd 57 (lf 56 (i_iadd 57)) (nd 60 (lf 57 (i_put 1 6 60)) (lf 60 (i_vret Q)))))))
def C1_add : List Nat := []
theorem x1_add_0 : wpn (T1_add Q) C1_add (m + 1) K (0, L, s, h) = i_ald 0 1 (wpn (T1_add Q) C1_add m K) L s h := rfl
theorem x1_add_1 : wpn (T1_add Q) C1_add (m + 1) K (1, L, s, h) = i_get 1 6 4 (wpn (T1_add Q) C1_add m K) L s h := rfl
theorem x1_add_4 : wpn (T1_add Q) C1_add (m + 1) K (4, L, s, h) = i_ic 8 6 (wpn (T1_add Q) C1_add m K) L s h := rfl
theorem x1_add_6 : wpn (T1_add Q) C1_add (m + 1) K (6, L, s, h) = i_ic_lt 10 9 (wpn (T1_add Q) C1_add m K) L s h := rfl
theorem x1_add_9 : wpn (T1_add Q) C1_add (m + 1) K (9, L, s, h) = i_vret Q (wpn (T1_add Q) C1_add m K) L s h := rfl
theorem x1_add_10 : wpn (T1_add Q) C1_add (m + 1) K (10, L, s, h) = i_ald 0 11 (wpn (T1_add Q) C1_add m K) L s h := rfl
theorem x1_add_11 : wpn (T1_add Q) C1_add (m + 1) K (11, L, s, h) = i_get 1 2 14 (wpn (T1_add Q) C1_add m K) L s h := rfl
theorem x1_add_14 : wpn (T1_add Q) C1_add (m + 1) K (14, L, s, h) = i_ald 0 15 (wpn (T1_add Q) C1_add m K) L s h := rfl
theorem x1_add_15 : wpn (T1_add Q) C1_add (m + 1) K (15, L, s, h) = i_get 1 6 18 (wpn (T1_add Q) C1_add m K) L s h := rfl
theorem x1_add_18 : wpn (T1_add Q) C1_add (m + 1) K (18, L, s, h) = i_ild 1 19 (wpn (T1_add Q) C1_add m K) L s h := rfl
theorem x1_add_19 : wpn (T1_add Q) C1_add (m + 1) K (19, L, s, h) = i_iast 20 (wpn (T1_add Q) C1_add m K) L s h := rfl
theorem x1_add_20 : wpn (T1_add Q) C1_add (m + 1) K (20, L, s, h) = i_ald 0 21 (wpn (T1_add Q) C1_add m K) L s h := rfl
theorem x1_add_21 : wpn (T1_add Q) C1_add (m + 1) K (21, L, s, h) = i_get 1 3 24 (wpn (T1_add Q) C1_add m K) L s h := rfl
theorem x1_add_24 : wpn (T1_add Q) C1_add (m + 1) K (24, L, s, h) = i_ald 0 25 (wpn (T1_add Q) C1_add m K) L s h := rfl
theorem x1_add_25 : wpn (T1_add Q) C1_add (m + 1) K (25, L, s, h) = i_get 1 6 28 (wpn (T1_add Q) C1_add m K) L s h := rfl
theorem x1_add_28 : wpn (T1_add Q) C1_add (m + 1) K (28, L, s, h) = i_ild 2 29 (wpn (T1_add Q) C1_add m K) L s h := rfl
theorem x1_add_29 : wpn (T1_add Q) C1_add (m + 1) K (29, L, s, h) = i_iast 30 (wpn (T1_add Q) C1_add m K) L s h := rfl
theorem x1_add_30 : wpn (T1_add Q) C1_add (m + 1) K (30, L, s, h) = i_ald 0 31 (wpn (T1_add Q) C1_add m K) L s h := rfl
theorem x1_add_31 : wpn (T1_add Q) C1_add (m + 1) K (31, L, s, h) = i_get 1 4 34 (wpn (T1_add Q) C1_add m K) L s h := rfl
theorem x1_add_34 : wpn (T1_add Q) C1_add (m + 1) K (34, L, s, h) = i_ald 0 35 (wpn (T1_add Q) C1_add m K) L s h := rfl
theorem x1_add_35 : wpn (T1_add Q) C1_add (m + 1) K (35, L, s, h) = i_get 1 6 38 (wpn (T1_add Q) C1_add m K) L s h := rfl
theorem x1_add_38 : wpn (T1_add Q) C1_add (m + 1) K (38, L, s, h) = i_ild 3 39 (wpn (T1_add Q) C1_add m K) L s h := rfl
theorem x1_add_39 : wpn (T1_add Q) C1_add (m + 1) K (39, L, s, h) = i_iast 40 (wpn (T1_add Q) C1_add m K) L s h := rfl
theorem x1_add_40 : wpn (T1_add Q) C1_add (m + 1) K (40, L, s, h) = i_ald 0 41 (wpn (T1_add Q) C1_add m K) L s h := rfl
theorem x1_add_41 : wpn (T1_add Q) C1_add (m + 1) K (41, L, s, h) = i_get 1 5 44 (wpn (T1_add Q) C1_add m K) L s h := rfl
theorem x1_add_44 : wpn (T1_add Q) C1_add (m + 1) K (44, L, s, h) = i_ald 0 45 (wpn (T1_add Q) C1_add m K) L s h := rfl
theorem x1_add_45 : wpn (T1_add Q) C1_add (m + 1) K (45, L, s, h) = i_get 1 6 48 (wpn (T1_add Q) C1_add m K) L s h := rfl
theorem x1_add_48 : wpn (T1_add Q) C1_add (m + 1) K (48, L, s, h) = i_ic (-1) 49 (wpn (T1_add Q) C1_add m K) L s h := rfl
theorem x1_add_49 : wpn (T1_add Q) C1_add (m + 1) K (49, L, s, h) = i_iast 50 (wpn (T1_add Q) C1_add m K) L s h := rfl
theorem x1_add_50 : wpn (T1_add Q) C1_add (m + 1) K (50, L, s, h) = i_ald 0 51 (wpn (T1_add Q) C1_add m K) L s h := rfl
theorem x1_add_51 : wpn (T1_add Q) C1_add (m + 1) K (51, L, s, h) = i_dup 52 (wpn (T1_add Q) C1_add m K) L s h := rfl
theorem x1_add_52 : wpn (T1_add Q) C1_add (m + 1) K (52, L, s, h) = i_get 1 6 55 (wpn (T1_add Q) C1_add m K) L s h := rfl
theorem x1_add_55 : wpn (T1_add Q) C1_add (m + 1) K (55, L, s, h) = i_ic 1 56 (wpn (T1_add Q) C1_add m K) L s h := rfl
theorem x1_add_56 : wpn (T1_add Q) C1_add (m + 1) K (56, L, s, h) = i_iadd 57 (wpn (T1_add Q) C1_add m K) L s h := rfl
theorem x1_add_57 : wpn (T1_add Q) C1_add (m + 1) K (57, L, s, h) = i_put 1 6 60 (wpn (T1_add Q) C1_add m K) L s h := rfl
theorem x1_add_60 : wpn (T1_add Q) C1_add (m + 1) K (60, L, s, h) = i_vret Q (wpn (T1_add Q) C1_add m K) L s h := rfl
def T1_has (Q : Po) : Nat → Tr := nd 9 (nd 4 (nd 1 (lf 0 (i_ild 1 1)) (lf 1 (i_if_lt 16 4))) (nd 5 (lf 4 (i_ild 1 5)) (nd 6 (lf 5 (i_ald 0 6)) (lf 6 (i_get 1 6 9))))) (nd 13 (nd 12 (lf 9 (i_ic_ge 16 12)) (lf 12 (i_ic 1 13))) (nd 16 (lf 13 (i_goto 17)) (nd 17 (lf 16 (i_ic 0 17)) (lf 17 (i_zret Q)))))
def C1_has : List Nat := []
theorem x1_has_0 : wpn (T1_has Q) C1_has (m + 1) K (0, L, s, h) = i_ild 1 1 (wpn (T1_has Q) C1_has m K) L s h := rfl
theorem x1_has_1 : wpn (T1_has Q) C1_has (m + 1) K (1, L, s, h) = i_if_lt 16 4 (wpn (T1_has Q) C1_has m K) L s h := rfl
theorem x1_has_4 : wpn (T1_has Q) C1_has (m + 1) K (4, L, s, h) = i_ild 1 5 (wpn (T1_has Q) C1_has m K) L s h := rfl
theorem x1_has_5 : wpn (T1_has Q) C1_has (m + 1) K (5, L, s, h) = i_ald 0 6 (wpn (T1_has Q) C1_has m K) L s h := rfl
theorem x1_has_6 : wpn (T1_has Q) C1_has (m + 1) K (6, L, s, h) = i_get 1 6 9 (wpn (T1_has Q) C1_has m K) L s h := rfl
theorem x1_has_9 : wpn (T1_has Q) C1_has (m + 1) K (9, L, s, h) = i_ic_ge 16 12 (wpn (T1_has Q) C1_has m K) L s h := rfl
theorem x1_has_12 : wpn (T1_has Q) C1_has (m + 1) K (12, L, s, h) = i_ic 1 13 (wpn (T1_has Q) C1_has m K) L s h := rfl
theorem x1_has_13 : wpn (T1_has Q) C1_has (m + 1) K (13, L, s, h) = i_goto 17 (wpn (T1_has Q) C1_has m K) L s h := rfl
theorem x1_has_16 : wpn (T1_has Q) C1_has (m + 1) K (16, L, s, h) = i_ic 0 17 (wpn (T1_has Q) C1_has m K) L s h := rfl
theorem x1_has_17 : wpn (T1_has Q) C1_has (m + 1) K (17, L, s, h) = i_zret Q (wpn (T1_has Q) C1_has m K) L s h := rfl
def T1_isOut (Q : Po) : Nat → Tr := nd 8 (nd 4 (nd 1 (lf 0 (i_ald 0 1)) (lf 1 (i_get 1 4 4))) (nd 5 (lf 4 (i_ild 1 5)) (nd 6 (lf 5 (i_iald 6)) (lf 6 (i_ic 8 8))))) (nd 12 (nd 11 (lf 8 (i_ic_ne 15 11)) (lf 11 (i_ic 1 12))) (nd 15 (lf 12 (i_goto 16)) (nd 16 (lf 15 (i_ic 0 16)) (lf 16 (i_zret Q)))))
def C1_isOut : List Nat := []
theorem x1_isOut_0 : wpn (T1_isOut Q) C1_isOut (m + 1) K (0, L, s, h) = i_ald 0 1 (wpn (T1_isOut Q) C1_isOut m K) L s h := rfl
theorem x1_isOut_1 : wpn (T1_isOut Q) C1_isOut (m + 1) K (1, L, s, h) = i_get 1 4 4 (wpn (T1_isOut Q) C1_isOut m K) L s h := rfl
theorem x1_isOut_4 : wpn (T1_isOut Q) C1_isOut (m + 1) K (4, L, s, h) = i_ild 1 5 (wpn (T1_isOut Q) C1_isOut m K) L s h := rfl
theorem x1_isOut_5 : wpn (T1_isOut Q) C1_isOut (m + 1) K (5, L, s, h) = i_iald 6 (wpn (T1_isOut Q) C1_isOut m K) L s h := rfl
theorem x1_isOut_6 : wpn (T1_isOut Q) C1_isOut (m + 1) K (6, L, s, h) = i_ic 8 8 (wpn (T1_isOut Q) C1_isOut m K) L s h := rfl
theorem x1_isOut_8 : wpn (T1_isOut Q) C1_isOut (m + 1) K (8, L, s, h) = i_ic_ne 15 11 (wpn (T1_isOut Q) C1_isOut m K) L s h := rfl
theorem x1_isOut_11 : wpn (T1_isOut Q) C1_isOut (m + 1) K (11, L, s, h) = i_ic 1 12 (wpn (T1_isOut Q) C1_isOut m K) L s h := rfl
theorem x1_isOut_12 : wpn (T1_isOut Q) C1_isOut (m + 1) K (12, L, s, h) = i_goto 16 (wpn (T1_isOut Q) C1_isOut m K) L s h := rfl
theorem x1_isOut_15 : wpn (T1_isOut Q) C1_isOut (m + 1) K (15, L, s, h) = i_ic 0 16 (wpn (T1_isOut Q) C1_isOut m K) L s h := rfl
theorem x1_isOut_16 : wpn (T1_isOut Q) C1_isOut (m + 1) K (16, L, s, h) = i_zret Q (wpn (T1_isOut Q) C1_isOut m K) L s h := rfl
def T1_isHeld (Q : Po) (S1_isOut S1_has : Sp) : Nat → Tr := nd 25 (nd 10 (nd 5 (nd 1 (lf 0 (i_ald 0 1)) (nd 2 (lf 1 (i_ild 1 2)) (lf 2 (i_cV 1 1 S1_isOut 5)))) (nd 8 (lf 5 (i_if_ne 45 8)) (nd 9 (lf 8 (i_ald 0 9)) (lf 9 (i_ald 0 10))))) (nd 15 (nd 13 (lf 10 (i_get 1 5 13)) (nd 14 (lf 13 (i_ild 1 14)) (lf 14 (i_iald 15)))) (nd 21 (nd 18 (lf 15 (i_cV 1 1 S1_has 18)) (lf 18 (i_if_eq 45 21))) (nd 22 (lf 21 (i_ald 0 22)) (lf 22 (i_get 1 4 25)))))) (nd 36 (nd 30 (nd 26 (lf 25 (i_ald 0 26)) (nd 29 (lf 26 (i_get 1 5 29)) (lf 29 (i_ild 1 30)))) (nd 32 (nd 31 (lf 30 (i_iald 31)) (lf 31 (i_iald 32))) (nd 33 (lf 32 (i_ald 0 33)) (lf 33 (i_get 1 4 36))))) (nd 41 (nd 37 (lf 36 (i_ild 1 37)) (nd 38 (lf 37 (i_iald 38)) (lf 38 (i_ic_ne 45 41)))) (nd 45 (nd 42 (lf 41 (i_ic 1 42)) (lf 42 (i_goto 46))) (nd 46 (lf 45 (i_ic 0 46)) (lf 46 (i_zret Q))))))
def C1_isHeld : List Nat := []
theorem x1_isHeld_0 : wpn (T1_isHeld Q S1_isOut S1_has) C1_isHeld (m + 1) K (0, L, s, h) = i_ald 0 1 (wpn (T1_isHeld Q S1_isOut S1_has) C1_isHeld m K) L s h := rfl
theorem x1_isHeld_1 : wpn (T1_isHeld Q S1_isOut S1_has) C1_isHeld (m + 1) K (1, L, s, h) = i_ild 1 2 (wpn (T1_isHeld Q S1_isOut S1_has) C1_isHeld m K) L s h := rfl
theorem x1_isHeld_2 : wpn (T1_isHeld Q S1_isOut S1_has) C1_isHeld (m + 1) K (2, L, s, h) = i_cV 1 1 S1_isOut 5 (wpn (T1_isHeld Q S1_isOut S1_has) C1_isHeld m K) L s h := rfl
theorem x1_isHeld_5 : wpn (T1_isHeld Q S1_isOut S1_has) C1_isHeld (m + 1) K (5, L, s, h) = i_if_ne 45 8 (wpn (T1_isHeld Q S1_isOut S1_has) C1_isHeld m K) L s h := rfl
theorem x1_isHeld_8 : wpn (T1_isHeld Q S1_isOut S1_has) C1_isHeld (m + 1) K (8, L, s, h) = i_ald 0 9 (wpn (T1_isHeld Q S1_isOut S1_has) C1_isHeld m K) L s h := rfl
theorem x1_isHeld_9 : wpn (T1_isHeld Q S1_isOut S1_has) C1_isHeld (m + 1) K (9, L, s, h) = i_ald 0 10 (wpn (T1_isHeld Q S1_isOut S1_has) C1_isHeld m K) L s h := rfl
theorem x1_isHeld_10 : wpn (T1_isHeld Q S1_isOut S1_has) C1_isHeld (m + 1) K (10, L, s, h) = i_get 1 5 13 (wpn (T1_isHeld Q S1_isOut S1_has) C1_isHeld m K) L s h := rfl
theorem x1_isHeld_13 : wpn (T1_isHeld Q S1_isOut S1_has) C1_isHeld (m + 1) K (13, L, s, h) = i_ild 1 14 (wpn (T1_isHeld Q S1_isOut S1_has) C1_isHeld m K) L s h := rfl
theorem x1_isHeld_14 : wpn (T1_isHeld Q S1_isOut S1_has) C1_isHeld (m + 1) K (14, L, s, h) = i_iald 15 (wpn (T1_isHeld Q S1_isOut S1_has) C1_isHeld m K) L s h := rfl
theorem x1_isHeld_15 : wpn (T1_isHeld Q S1_isOut S1_has) C1_isHeld (m + 1) K (15, L, s, h) = i_cV 1 1 S1_has 18 (wpn (T1_isHeld Q S1_isOut S1_has) C1_isHeld m K) L s h := rfl
theorem x1_isHeld_18 : wpn (T1_isHeld Q S1_isOut S1_has) C1_isHeld (m + 1) K (18, L, s, h) = i_if_eq 45 21 (wpn (T1_isHeld Q S1_isOut S1_has) C1_isHeld m K) L s h := rfl
theorem x1_isHeld_21 : wpn (T1_isHeld Q S1_isOut S1_has) C1_isHeld (m + 1) K (21, L, s, h) = i_ald 0 22 (wpn (T1_isHeld Q S1_isOut S1_has) C1_isHeld m K) L s h := rfl
theorem x1_isHeld_22 : wpn (T1_isHeld Q S1_isOut S1_has) C1_isHeld (m + 1) K (22, L, s, h) = i_get 1 4 25 (wpn (T1_isHeld Q S1_isOut S1_has) C1_isHeld m K) L s h := rfl
theorem x1_isHeld_25 : wpn (T1_isHeld Q S1_isOut S1_has) C1_isHeld (m + 1) K (25, L, s, h) = i_ald 0 26 (wpn (T1_isHeld Q S1_isOut S1_has) C1_isHeld m K) L s h := rfl
theorem x1_isHeld_26 : wpn (T1_isHeld Q S1_isOut S1_has) C1_isHeld (m + 1) K (26, L, s, h) = i_get 1 5 29 (wpn (T1_isHeld Q S1_isOut S1_has) C1_isHeld m K) L s h := rfl
theorem x1_isHeld_29 : wpn (T1_isHeld Q S1_isOut S1_has) C1_isHeld (m + 1) K (29, L, s, h) = i_ild 1 30 (wpn (T1_isHeld Q S1_isOut S1_has) C1_isHeld m K) L s h := rfl
theorem x1_isHeld_30 : wpn (T1_isHeld Q S1_isOut S1_has) C1_isHeld (m + 1) K (30, L, s, h) = i_iald 31 (wpn (T1_isHeld Q S1_isOut S1_has) C1_isHeld m K) L s h := rfl
theorem x1_isHeld_31 : wpn (T1_isHeld Q S1_isOut S1_has) C1_isHeld (m + 1) K (31, L, s, h) = i_iald 32 (wpn (T1_isHeld Q S1_isOut S1_has) C1_isHeld m K) L s h := rfl
theorem x1_isHeld_32 : wpn (T1_isHeld Q S1_isOut S1_has) C1_isHeld (m + 1) K (32, L, s, h) = i_ald 0 33 (wpn (T1_isHeld Q S1_isOut S1_has) C1_isHeld m K) L s h := rfl
theorem x1_isHeld_33 : wpn (T1_isHeld Q S1_isOut S1_has) C1_isHeld (m + 1) K (33, L, s, h) = i_get 1 4 36 (wpn (T1_isHeld Q S1_isOut S1_has) C1_isHeld m K) L s h := rfl
theorem x1_isHeld_36 : wpn (T1_isHeld Q S1_isOut S1_has) C1_isHeld (m + 1) K (36, L, s, h) = i_ild 1 37 (wpn (T1_isHeld Q S1_isOut S1_has) C1_isHeld m K) L s h := rfl
theorem x1_isHeld_37 : wpn (T1_isHeld Q S1_isOut S1_has) C1_isHeld (m + 1) K (37, L, s, h) = i_iald 38 (wpn (T1_isHeld Q S1_isOut S1_has) C1_isHeld m K) L s h := rfl
theorem x1_isHeld_38 : wpn (T1_isHeld Q S1_isOut S1_has) C1_isHeld (m + 1) K (38, L, s, h) = i_ic_ne 45 41 (wpn (T1_isHeld Q S1_isOut S1_has) C1_isHeld m K) L s h := rfl
theorem x1_isHeld_41 : wpn (T1_isHeld Q S1_isOut S1_has) C1_isHeld (m + 1) K (41, L, s, h) = i_ic 1 42 (wpn (T1_isHeld Q S1_isOut S1_has) C1_isHeld m K) L s h := rfl
theorem x1_isHeld_42 : wpn (T1_isHeld Q S1_isOut S1_has) C1_isHeld (m + 1) K (42, L, s, h) = i_goto 46 (wpn (T1_isHeld Q S1_isOut S1_has) C1_isHeld m K) L s h := rfl
theorem x1_isHeld_45 : wpn (T1_isHeld Q S1_isOut S1_has) C1_isHeld (m + 1) K (45, L, s, h) = i_ic 0 46 (wpn (T1_isHeld Q S1_isOut S1_has) C1_isHeld m K) L s h := rfl
theorem x1_isHeld_46 : wpn (T1_isHeld Q S1_isOut S1_has) C1_isHeld (m + 1) K (46, L, s, h) = i_zret Q (wpn (T1_isHeld Q S1_isOut S1_has) C1_isHeld m K) L s h := rfl
def T1_riteAt (Q : Po) : Nat → Tr := nd 12 (nd 6 (nd 4 (nd 1 (lf 0 (i_ald 0 1)) (lf 1 (i_get 1 4 4))) (nd 5 (lf 4 (i_ild 1 5)) (lf 5 (i_iald 6)))) (nd 8 (nd 7 (lf 6 (i_ist 2 7)) (lf 7 (i_ild 2 8))) (nd 11 (lf 8 (i_if_lt 26 11)) (lf 11 (i_ild 2 12))))) (nd 21 (nd 17 (nd 14 (lf 12 (i_ic 8 14)) (lf 14 (i_ic_ge 26 17))) (nd 18 (lf 17 (i_ald 0 18)) (lf 18 (i_get 1 1 21)))) (nd 23 (nd 22 (lf 21 (i_ild 2 22)) (lf 22 (i_iald 23))) (nd 26 (lf 23 (i_goto 27)) (nd 27 (lf 26 (i_ic 0 27)) (lf 27 (i_iret Q))))))
def C1_riteAt : List Nat := []
theorem x1_riteAt_0 : wpn (T1_riteAt Q) C1_riteAt (m + 1) K (0, L, s, h) = i_ald 0 1 (wpn (T1_riteAt Q) C1_riteAt m K) L s h := rfl
theorem x1_riteAt_1 : wpn (T1_riteAt Q) C1_riteAt (m + 1) K (1, L, s, h) = i_get 1 4 4 (wpn (T1_riteAt Q) C1_riteAt m K) L s h := rfl
theorem x1_riteAt_4 : wpn (T1_riteAt Q) C1_riteAt (m + 1) K (4, L, s, h) = i_ild 1 5 (wpn (T1_riteAt Q) C1_riteAt m K) L s h := rfl
theorem x1_riteAt_5 : wpn (T1_riteAt Q) C1_riteAt (m + 1) K (5, L, s, h) = i_iald 6 (wpn (T1_riteAt Q) C1_riteAt m K) L s h := rfl
theorem x1_riteAt_6 : wpn (T1_riteAt Q) C1_riteAt (m + 1) K (6, L, s, h) = i_ist 2 7 (wpn (T1_riteAt Q) C1_riteAt m K) L s h := rfl
theorem x1_riteAt_7 : wpn (T1_riteAt Q) C1_riteAt (m + 1) K (7, L, s, h) = i_ild 2 8 (wpn (T1_riteAt Q) C1_riteAt m K) L s h := rfl
theorem x1_riteAt_8 : wpn (T1_riteAt Q) C1_riteAt (m + 1) K (8, L, s, h) = i_if_lt 26 11 (wpn (T1_riteAt Q) C1_riteAt m K) L s h := rfl
theorem x1_riteAt_11 : wpn (T1_riteAt Q) C1_riteAt (m + 1) K (11, L, s, h) = i_ild 2 12 (wpn (T1_riteAt Q) C1_riteAt m K) L s h := rfl
theorem x1_riteAt_12 : wpn (T1_riteAt Q) C1_riteAt (m + 1) K (12, L, s, h) = i_ic 8 14 (wpn (T1_riteAt Q) C1_riteAt m K) L s h := rfl
theorem x1_riteAt_14 : wpn (T1_riteAt Q) C1_riteAt (m + 1) K (14, L, s, h) = i_ic_ge 26 17 (wpn (T1_riteAt Q) C1_riteAt m K) L s h := rfl
theorem x1_riteAt_17 : wpn (T1_riteAt Q) C1_riteAt (m + 1) K (17, L, s, h) = i_ald 0 18 (wpn (T1_riteAt Q) C1_riteAt m K) L s h := rfl
theorem x1_riteAt_18 : wpn (T1_riteAt Q) C1_riteAt (m + 1) K (18, L, s, h) = i_get 1 1 21 (wpn (T1_riteAt Q) C1_riteAt m K) L s h := rfl
theorem x1_riteAt_21 : wpn (T1_riteAt Q) C1_riteAt (m + 1) K (21, L, s, h) = i_ild 2 22 (wpn (T1_riteAt Q) C1_riteAt m K) L s h := rfl
theorem x1_riteAt_22 : wpn (T1_riteAt Q) C1_riteAt (m + 1) K (22, L, s, h) = i_iald 23 (wpn (T1_riteAt Q) C1_riteAt m K) L s h := rfl
theorem x1_riteAt_23 : wpn (T1_riteAt Q) C1_riteAt (m + 1) K (23, L, s, h) = i_goto 27 (wpn (T1_riteAt Q) C1_riteAt m K) L s h := rfl
theorem x1_riteAt_26 : wpn (T1_riteAt Q) C1_riteAt (m + 1) K (26, L, s, h) = i_ic 0 27 (wpn (T1_riteAt Q) C1_riteAt m K) L s h := rfl
theorem x1_riteAt_27 : wpn (T1_riteAt Q) C1_riteAt (m + 1) K (27, L, s, h) = i_iret Q (wpn (T1_riteAt Q) C1_riteAt m K) L s h := rfl
def T1_needs (Q : Po) (S1_riteAt S1_thoseIn SJ6_bitCount : Sp) : Nat → Tr := nd 75 (nd 55 (nd 11 (nd 5 (nd 1 (lf 0 (i_ald 0 1)) (nd 2 (lf 1 (i_ild 1 2)) (lf 2 (i_cV 1 1 S1_riteAt 5)))) (nd 7 (nd 6 (lf 5 (i_ist 2 6)) (lf 6 (i_ald 0 7))) (nd 10 (lf 7 (i_get 1 2 10)) (lf 10 (i_ild 1 11))))) (nd 49 (nd 12 (lf 11 (i_iald 12)) (nd 48 (lf 12 (i_sw [(1, 48), (2, 76), (3, 57), (4, 80), (5, 100)] 115)) (lf 48 (i_ild 2 49)))) (nd 53 (nd 50 (lf 49 (i_ald 0 50)) (lf 50 (i_get 1 0 53))) (nd 54 (lf 53 (i_ic 0 54)) (lf 54 (i_iald 55)))))) (nd 64 (nd 58 (nd 56 (lf 55 (i_iadd 56)) (nd 57 (lf 56 (i_iret Q)) (lf 57 (i_ild 2 58)))) (nd 62 (nd 59 (lf 58 (i_ald 0 59)) (lf 59 (i_get 1 0 62))) (nd 63 (lf 62 (i_ic 0 63)) (lf 63 (i_iald 64))))) (nd 70 (nd 66 (nd 65 (lf 64 (i_iadd 65)) (lf 65 (i_ald 0 66))) (nd 69 (lf 66 (i_get 1 3 69)) (lf 69 (i_ild 1 70)))) (nd 73 (nd 71 (lf 70 (i_iald 71)) (lf 71 (i_ic 10 73))) (nd 74 (lf 73 (i_idiv 74)) (lf 74 (i_isub 75))))))) (nd 96 (nd 82 (nd 78 (nd 76 (lf 75 (i_iret Q)) (nd 77 (lf 76 (i_ild 2 77)) (lf 77 (i_ic 2 78)))) (nd 80 (nd 79 (lf 78 (i_idiv 79)) (lf 79 (i_iret Q))) (nd 81 (lf 80 (i_ild 2 81)) (lf 81 (i_ic 2 82))))) (nd 88 (nd 84 (nd 83 (lf 82 (i_idiv 83)) (lf 83 (i_ald 0 84))) (nd 85 (lf 84 (i_ald 0 85)) (lf 85 (i_get 1 4 88)))) (nd 90 (nd 89 (lf 88 (i_ild 1 89)) (lf 89 (i_iald 90))) (nd 93 (lf 90 (i_cV 1 1 S1_thoseIn 93)) (lf 93 (i_cS 1 SJ6_bitCount 96)))))) (nd 105 (nd 99 (nd 97 (lf 96 (i_iadd 97)) (nd 98 (lf 97 (i_ic 1 98)) (lf 98 (i_isub 99)))) (nd 101 (nd 100 (lf 99 (i_iret Q)) (lf 100 (i_ald 0 101))) (nd 104 (lf 101 (i_get 1 7 104)) (lf 104 (i_ic 2 105))))) (nd 113 (nd 109 (nd 106 (lf 105 (i_irem 106)) (lf 106 (i_if_ne 113 109))) (nd 110 (lf 109 (i_ild 2 110)) (lf 110 (i_goto 114)))) (nd 115 (nd 114 (lf 113 (i_ic 0 114)) (lf 114 (i_iret Q))) (nd 116 (lf 115 (i_ild 2 116)) (lf 116 (i_iret Q)))))))
def C1_needs : List Nat := []
theorem x1_needs_0 : wpn (T1_needs Q S1_riteAt S1_thoseIn SJ6_bitCount) C1_needs (m + 1) K (0, L, s, h) = i_ald 0 1 (wpn (T1_needs Q S1_riteAt S1_thoseIn SJ6_bitCount) C1_needs m K) L s h := rfl
theorem x1_needs_1 : wpn (T1_needs Q S1_riteAt S1_thoseIn SJ6_bitCount) C1_needs (m + 1) K (1, L, s, h) = i_ild 1 2 (wpn (T1_needs Q S1_riteAt S1_thoseIn SJ6_bitCount) C1_needs m K) L s h := rfl
theorem x1_needs_2 : wpn (T1_needs Q S1_riteAt S1_thoseIn SJ6_bitCount) C1_needs (m + 1) K (2, L, s, h) = i_cV 1 1 S1_riteAt 5 (wpn (T1_needs Q S1_riteAt S1_thoseIn SJ6_bitCount) C1_needs m K) L s h := rfl
theorem x1_needs_5 : wpn (T1_needs Q S1_riteAt S1_thoseIn SJ6_bitCount) C1_needs (m + 1) K (5, L, s, h) = i_ist 2 6 (wpn (T1_needs Q S1_riteAt S1_thoseIn SJ6_bitCount) C1_needs m K) L s h := rfl
theorem x1_needs_6 : wpn (T1_needs Q S1_riteAt S1_thoseIn SJ6_bitCount) C1_needs (m + 1) K (6, L, s, h) = i_ald 0 7 (wpn (T1_needs Q S1_riteAt S1_thoseIn SJ6_bitCount) C1_needs m K) L s h := rfl
theorem x1_needs_7 : wpn (T1_needs Q S1_riteAt S1_thoseIn SJ6_bitCount) C1_needs (m + 1) K (7, L, s, h) = i_get 1 2 10 (wpn (T1_needs Q S1_riteAt S1_thoseIn SJ6_bitCount) C1_needs m K) L s h := rfl
theorem x1_needs_10 : wpn (T1_needs Q S1_riteAt S1_thoseIn SJ6_bitCount) C1_needs (m + 1) K (10, L, s, h) = i_ild 1 11 (wpn (T1_needs Q S1_riteAt S1_thoseIn SJ6_bitCount) C1_needs m K) L s h := rfl
theorem x1_needs_11 : wpn (T1_needs Q S1_riteAt S1_thoseIn SJ6_bitCount) C1_needs (m + 1) K (11, L, s, h) = i_iald 12 (wpn (T1_needs Q S1_riteAt S1_thoseIn SJ6_bitCount) C1_needs m K) L s h := rfl
theorem x1_needs_12 : wpn (T1_needs Q S1_riteAt S1_thoseIn SJ6_bitCount) C1_needs (m + 1) K (12, L, s, h) = i_sw [(1, 48), (2, 76), (3, 57), (4, 80), (5, 100)] 115 (wpn (T1_needs Q S1_riteAt S1_thoseIn SJ6_bitCount) C1_needs m K) L s h := rfl
theorem x1_needs_48 : wpn (T1_needs Q S1_riteAt S1_thoseIn SJ6_bitCount) C1_needs (m + 1) K (48, L, s, h) = i_ild 2 49 (wpn (T1_needs Q S1_riteAt S1_thoseIn SJ6_bitCount) C1_needs m K) L s h := rfl
theorem x1_needs_49 : wpn (T1_needs Q S1_riteAt S1_thoseIn SJ6_bitCount) C1_needs (m + 1) K (49, L, s, h) = i_ald 0 50 (wpn (T1_needs Q S1_riteAt S1_thoseIn SJ6_bitCount) C1_needs m K) L s h := rfl
theorem x1_needs_50 : wpn (T1_needs Q S1_riteAt S1_thoseIn SJ6_bitCount) C1_needs (m + 1) K (50, L, s, h) = i_get 1 0 53 (wpn (T1_needs Q S1_riteAt S1_thoseIn SJ6_bitCount) C1_needs m K) L s h := rfl
theorem x1_needs_53 : wpn (T1_needs Q S1_riteAt S1_thoseIn SJ6_bitCount) C1_needs (m + 1) K (53, L, s, h) = i_ic 0 54 (wpn (T1_needs Q S1_riteAt S1_thoseIn SJ6_bitCount) C1_needs m K) L s h := rfl
theorem x1_needs_54 : wpn (T1_needs Q S1_riteAt S1_thoseIn SJ6_bitCount) C1_needs (m + 1) K (54, L, s, h) = i_iald 55 (wpn (T1_needs Q S1_riteAt S1_thoseIn SJ6_bitCount) C1_needs m K) L s h := rfl
theorem x1_needs_55 : wpn (T1_needs Q S1_riteAt S1_thoseIn SJ6_bitCount) C1_needs (m + 1) K (55, L, s, h) = i_iadd 56 (wpn (T1_needs Q S1_riteAt S1_thoseIn SJ6_bitCount) C1_needs m K) L s h := rfl
theorem x1_needs_56 : wpn (T1_needs Q S1_riteAt S1_thoseIn SJ6_bitCount) C1_needs (m + 1) K (56, L, s, h) = i_iret Q (wpn (T1_needs Q S1_riteAt S1_thoseIn SJ6_bitCount) C1_needs m K) L s h := rfl
theorem x1_needs_57 : wpn (T1_needs Q S1_riteAt S1_thoseIn SJ6_bitCount) C1_needs (m + 1) K (57, L, s, h) = i_ild 2 58 (wpn (T1_needs Q S1_riteAt S1_thoseIn SJ6_bitCount) C1_needs m K) L s h := rfl
theorem x1_needs_58 : wpn (T1_needs Q S1_riteAt S1_thoseIn SJ6_bitCount) C1_needs (m + 1) K (58, L, s, h) = i_ald 0 59 (wpn (T1_needs Q S1_riteAt S1_thoseIn SJ6_bitCount) C1_needs m K) L s h := rfl
theorem x1_needs_59 : wpn (T1_needs Q S1_riteAt S1_thoseIn SJ6_bitCount) C1_needs (m + 1) K (59, L, s, h) = i_get 1 0 62 (wpn (T1_needs Q S1_riteAt S1_thoseIn SJ6_bitCount) C1_needs m K) L s h := rfl
theorem x1_needs_62 : wpn (T1_needs Q S1_riteAt S1_thoseIn SJ6_bitCount) C1_needs (m + 1) K (62, L, s, h) = i_ic 0 63 (wpn (T1_needs Q S1_riteAt S1_thoseIn SJ6_bitCount) C1_needs m K) L s h := rfl
theorem x1_needs_63 : wpn (T1_needs Q S1_riteAt S1_thoseIn SJ6_bitCount) C1_needs (m + 1) K (63, L, s, h) = i_iald 64 (wpn (T1_needs Q S1_riteAt S1_thoseIn SJ6_bitCount) C1_needs m K) L s h := rfl
theorem x1_needs_64 : wpn (T1_needs Q S1_riteAt S1_thoseIn SJ6_bitCount) C1_needs (m + 1) K (64, L, s, h) = i_iadd 65 (wpn (T1_needs Q S1_riteAt S1_thoseIn SJ6_bitCount) C1_needs m K) L s h := rfl
theorem x1_needs_65 : wpn (T1_needs Q S1_riteAt S1_thoseIn SJ6_bitCount) C1_needs (m + 1) K (65, L, s, h) = i_ald 0 66 (wpn (T1_needs Q S1_riteAt S1_thoseIn SJ6_bitCount) C1_needs m K) L s h := rfl
theorem x1_needs_66 : wpn (T1_needs Q S1_riteAt S1_thoseIn SJ6_bitCount) C1_needs (m + 1) K (66, L, s, h) = i_get 1 3 69 (wpn (T1_needs Q S1_riteAt S1_thoseIn SJ6_bitCount) C1_needs m K) L s h := rfl
theorem x1_needs_69 : wpn (T1_needs Q S1_riteAt S1_thoseIn SJ6_bitCount) C1_needs (m + 1) K (69, L, s, h) = i_ild 1 70 (wpn (T1_needs Q S1_riteAt S1_thoseIn SJ6_bitCount) C1_needs m K) L s h := rfl
theorem x1_needs_70 : wpn (T1_needs Q S1_riteAt S1_thoseIn SJ6_bitCount) C1_needs (m + 1) K (70, L, s, h) = i_iald 71 (wpn (T1_needs Q S1_riteAt S1_thoseIn SJ6_bitCount) C1_needs m K) L s h := rfl
theorem x1_needs_71 : wpn (T1_needs Q S1_riteAt S1_thoseIn SJ6_bitCount) C1_needs (m + 1) K (71, L, s, h) = i_ic 10 73 (wpn (T1_needs Q S1_riteAt S1_thoseIn SJ6_bitCount) C1_needs m K) L s h := rfl
theorem x1_needs_73 : wpn (T1_needs Q S1_riteAt S1_thoseIn SJ6_bitCount) C1_needs (m + 1) K (73, L, s, h) = i_idiv 74 (wpn (T1_needs Q S1_riteAt S1_thoseIn SJ6_bitCount) C1_needs m K) L s h := rfl
theorem x1_needs_74 : wpn (T1_needs Q S1_riteAt S1_thoseIn SJ6_bitCount) C1_needs (m + 1) K (74, L, s, h) = i_isub 75 (wpn (T1_needs Q S1_riteAt S1_thoseIn SJ6_bitCount) C1_needs m K) L s h := rfl
theorem x1_needs_75 : wpn (T1_needs Q S1_riteAt S1_thoseIn SJ6_bitCount) C1_needs (m + 1) K (75, L, s, h) = i_iret Q (wpn (T1_needs Q S1_riteAt S1_thoseIn SJ6_bitCount) C1_needs m K) L s h := rfl
theorem x1_needs_76 : wpn (T1_needs Q S1_riteAt S1_thoseIn SJ6_bitCount) C1_needs (m + 1) K (76, L, s, h) = i_ild 2 77 (wpn (T1_needs Q S1_riteAt S1_thoseIn SJ6_bitCount) C1_needs m K) L s h := rfl
theorem x1_needs_77 : wpn (T1_needs Q S1_riteAt S1_thoseIn SJ6_bitCount) C1_needs (m + 1) K (77, L, s, h) = i_ic 2 78 (wpn (T1_needs Q S1_riteAt S1_thoseIn SJ6_bitCount) C1_needs m K) L s h := rfl
theorem x1_needs_78 : wpn (T1_needs Q S1_riteAt S1_thoseIn SJ6_bitCount) C1_needs (m + 1) K (78, L, s, h) = i_idiv 79 (wpn (T1_needs Q S1_riteAt S1_thoseIn SJ6_bitCount) C1_needs m K) L s h := rfl
theorem x1_needs_79 : wpn (T1_needs Q S1_riteAt S1_thoseIn SJ6_bitCount) C1_needs (m + 1) K (79, L, s, h) = i_iret Q (wpn (T1_needs Q S1_riteAt S1_thoseIn SJ6_bitCount) C1_needs m K) L s h := rfl
theorem x1_needs_80 : wpn (T1_needs Q S1_riteAt S1_thoseIn SJ6_bitCount) C1_needs (m + 1) K (80, L, s, h) = i_ild 2 81 (wpn (T1_needs Q S1_riteAt S1_thoseIn SJ6_bitCount) C1_needs m K) L s h := rfl
theorem x1_needs_81 : wpn (T1_needs Q S1_riteAt S1_thoseIn SJ6_bitCount) C1_needs (m + 1) K (81, L, s, h) = i_ic 2 82 (wpn (T1_needs Q S1_riteAt S1_thoseIn SJ6_bitCount) C1_needs m K) L s h := rfl
theorem x1_needs_82 : wpn (T1_needs Q S1_riteAt S1_thoseIn SJ6_bitCount) C1_needs (m + 1) K (82, L, s, h) = i_idiv 83 (wpn (T1_needs Q S1_riteAt S1_thoseIn SJ6_bitCount) C1_needs m K) L s h := rfl
theorem x1_needs_83 : wpn (T1_needs Q S1_riteAt S1_thoseIn SJ6_bitCount) C1_needs (m + 1) K (83, L, s, h) = i_ald 0 84 (wpn (T1_needs Q S1_riteAt S1_thoseIn SJ6_bitCount) C1_needs m K) L s h := rfl
theorem x1_needs_84 : wpn (T1_needs Q S1_riteAt S1_thoseIn SJ6_bitCount) C1_needs (m + 1) K (84, L, s, h) = i_ald 0 85 (wpn (T1_needs Q S1_riteAt S1_thoseIn SJ6_bitCount) C1_needs m K) L s h := rfl
theorem x1_needs_85 : wpn (T1_needs Q S1_riteAt S1_thoseIn SJ6_bitCount) C1_needs (m + 1) K (85, L, s, h) = i_get 1 4 88 (wpn (T1_needs Q S1_riteAt S1_thoseIn SJ6_bitCount) C1_needs m K) L s h := rfl
theorem x1_needs_88 : wpn (T1_needs Q S1_riteAt S1_thoseIn SJ6_bitCount) C1_needs (m + 1) K (88, L, s, h) = i_ild 1 89 (wpn (T1_needs Q S1_riteAt S1_thoseIn SJ6_bitCount) C1_needs m K) L s h := rfl
theorem x1_needs_89 : wpn (T1_needs Q S1_riteAt S1_thoseIn SJ6_bitCount) C1_needs (m + 1) K (89, L, s, h) = i_iald 90 (wpn (T1_needs Q S1_riteAt S1_thoseIn SJ6_bitCount) C1_needs m K) L s h := rfl
theorem x1_needs_90 : wpn (T1_needs Q S1_riteAt S1_thoseIn SJ6_bitCount) C1_needs (m + 1) K (90, L, s, h) = i_cV 1 1 S1_thoseIn 93 (wpn (T1_needs Q S1_riteAt S1_thoseIn SJ6_bitCount) C1_needs m K) L s h := rfl
theorem x1_needs_93 : wpn (T1_needs Q S1_riteAt S1_thoseIn SJ6_bitCount) C1_needs (m + 1) K (93, L, s, h) = i_cS 1 SJ6_bitCount 96 (wpn (T1_needs Q S1_riteAt S1_thoseIn SJ6_bitCount) C1_needs m K) L s h := rfl
theorem x1_needs_96 : wpn (T1_needs Q S1_riteAt S1_thoseIn SJ6_bitCount) C1_needs (m + 1) K (96, L, s, h) = i_iadd 97 (wpn (T1_needs Q S1_riteAt S1_thoseIn SJ6_bitCount) C1_needs m K) L s h := rfl
theorem x1_needs_97 : wpn (T1_needs Q S1_riteAt S1_thoseIn SJ6_bitCount) C1_needs (m + 1) K (97, L, s, h) = i_ic 1 98 (wpn (T1_needs Q S1_riteAt S1_thoseIn SJ6_bitCount) C1_needs m K) L s h := rfl
theorem x1_needs_98 : wpn (T1_needs Q S1_riteAt S1_thoseIn SJ6_bitCount) C1_needs (m + 1) K (98, L, s, h) = i_isub 99 (wpn (T1_needs Q S1_riteAt S1_thoseIn SJ6_bitCount) C1_needs m K) L s h := rfl
theorem x1_needs_99 : wpn (T1_needs Q S1_riteAt S1_thoseIn SJ6_bitCount) C1_needs (m + 1) K (99, L, s, h) = i_iret Q (wpn (T1_needs Q S1_riteAt S1_thoseIn SJ6_bitCount) C1_needs m K) L s h := rfl
theorem x1_needs_100 : wpn (T1_needs Q S1_riteAt S1_thoseIn SJ6_bitCount) C1_needs (m + 1) K (100, L, s, h) = i_ald 0 101 (wpn (T1_needs Q S1_riteAt S1_thoseIn SJ6_bitCount) C1_needs m K) L s h := rfl
theorem x1_needs_101 : wpn (T1_needs Q S1_riteAt S1_thoseIn SJ6_bitCount) C1_needs (m + 1) K (101, L, s, h) = i_get 1 7 104 (wpn (T1_needs Q S1_riteAt S1_thoseIn SJ6_bitCount) C1_needs m K) L s h := rfl
theorem x1_needs_104 : wpn (T1_needs Q S1_riteAt S1_thoseIn SJ6_bitCount) C1_needs (m + 1) K (104, L, s, h) = i_ic 2 105 (wpn (T1_needs Q S1_riteAt S1_thoseIn SJ6_bitCount) C1_needs m K) L s h := rfl
theorem x1_needs_105 : wpn (T1_needs Q S1_riteAt S1_thoseIn SJ6_bitCount) C1_needs (m + 1) K (105, L, s, h) = i_irem 106 (wpn (T1_needs Q S1_riteAt S1_thoseIn SJ6_bitCount) C1_needs m K) L s h := rfl
theorem x1_needs_106 : wpn (T1_needs Q S1_riteAt S1_thoseIn SJ6_bitCount) C1_needs (m + 1) K (106, L, s, h) = i_if_ne 113 109 (wpn (T1_needs Q S1_riteAt S1_thoseIn SJ6_bitCount) C1_needs m K) L s h := rfl
theorem x1_needs_109 : wpn (T1_needs Q S1_riteAt S1_thoseIn SJ6_bitCount) C1_needs (m + 1) K (109, L, s, h) = i_ild 2 110 (wpn (T1_needs Q S1_riteAt S1_thoseIn SJ6_bitCount) C1_needs m K) L s h := rfl
theorem x1_needs_110 : wpn (T1_needs Q S1_riteAt S1_thoseIn SJ6_bitCount) C1_needs (m + 1) K (110, L, s, h) = i_goto 114 (wpn (T1_needs Q S1_riteAt S1_thoseIn SJ6_bitCount) C1_needs m K) L s h := rfl
theorem x1_needs_113 : wpn (T1_needs Q S1_riteAt S1_thoseIn SJ6_bitCount) C1_needs (m + 1) K (113, L, s, h) = i_ic 0 114 (wpn (T1_needs Q S1_riteAt S1_thoseIn SJ6_bitCount) C1_needs m K) L s h := rfl
theorem x1_needs_114 : wpn (T1_needs Q S1_riteAt S1_thoseIn SJ6_bitCount) C1_needs (m + 1) K (114, L, s, h) = i_iret Q (wpn (T1_needs Q S1_riteAt S1_thoseIn SJ6_bitCount) C1_needs m K) L s h := rfl
theorem x1_needs_115 : wpn (T1_needs Q S1_riteAt S1_thoseIn SJ6_bitCount) C1_needs (m + 1) K (115, L, s, h) = i_ild 2 116 (wpn (T1_needs Q S1_riteAt S1_thoseIn SJ6_bitCount) C1_needs m K) L s h := rfl
theorem x1_needs_116 : wpn (T1_needs Q S1_riteAt S1_thoseIn SJ6_bitCount) C1_needs (m + 1) K (116, L, s, h) = i_iret Q (wpn (T1_needs Q S1_riteAt S1_thoseIn SJ6_bitCount) C1_needs m K) L s h := rfl
def T1_pays (Q : Po) : Nat → Tr := nd 55 (nd 12 (nd 6 (nd 4 (nd 1 (lf 0 (i_ald 0 1)) (lf 1 (i_get 1 0 4))) (nd 5 (lf 4 (i_ic 2 5)) (lf 5 (i_iald 6)))) (nd 8 (nd 7 (lf 6 (i_ist 2 7)) (lf 7 (i_ald 0 8))) (nd 11 (lf 8 (i_get 1 2 11)) (lf 11 (i_ild 1 12))))) (nd 50 (nd 48 (nd 13 (lf 12 (i_iald 13)) (lf 13 (i_sw [(1, 48), (2, 58), (3, 52), (4, 62), (5, 68)] 70))) (nd 49 (lf 48 (i_ild 2 49)) (lf 49 (i_ic 1 50)))) (nd 52 (nd 51 (lf 50 (i_iadd 51)) (lf 51 (i_iret Q))) (nd 53 (lf 52 (i_ild 2 53)) (nd 54 (lf 53 (i_ic 1 54)) (lf 54 (i_iadd 55))))))) (nd 63 (nd 59 (nd 57 (nd 56 (lf 55 (i_ic 2 56)) (lf 56 (i_imul 57))) (nd 58 (lf 57 (i_iret Q)) (lf 58 (i_ild 2 59)))) (nd 61 (nd 60 (lf 59 (i_ic 3 60)) (lf 60 (i_isub 61))) (nd 62 (lf 61 (i_iret Q)) (lf 62 (i_ild 2 63))))) (nd 67 (nd 65 (nd 64 (lf 63 (i_ic 3 64)) (lf 64 (i_isub 65))) (nd 66 (lf 65 (i_ild 2 66)) (lf 66 (i_isub 67)))) (nd 69 (nd 68 (lf 67 (i_iret Q)) (lf 68 (i_ic 0 69))) (nd 70 (lf 69 (i_iret Q)) (nd 71 (lf 70 (i_ild 2 71)) (lf 71 (i_iret Q)))))))
def C1_pays : List Nat := []
theorem x1_pays_0 : wpn (T1_pays Q) C1_pays (m + 1) K (0, L, s, h) = i_ald 0 1 (wpn (T1_pays Q) C1_pays m K) L s h := rfl
theorem x1_pays_1 : wpn (T1_pays Q) C1_pays (m + 1) K (1, L, s, h) = i_get 1 0 4 (wpn (T1_pays Q) C1_pays m K) L s h := rfl
theorem x1_pays_4 : wpn (T1_pays Q) C1_pays (m + 1) K (4, L, s, h) = i_ic 2 5 (wpn (T1_pays Q) C1_pays m K) L s h := rfl
theorem x1_pays_5 : wpn (T1_pays Q) C1_pays (m + 1) K (5, L, s, h) = i_iald 6 (wpn (T1_pays Q) C1_pays m K) L s h := rfl
theorem x1_pays_6 : wpn (T1_pays Q) C1_pays (m + 1) K (6, L, s, h) = i_ist 2 7 (wpn (T1_pays Q) C1_pays m K) L s h := rfl
theorem x1_pays_7 : wpn (T1_pays Q) C1_pays (m + 1) K (7, L, s, h) = i_ald 0 8 (wpn (T1_pays Q) C1_pays m K) L s h := rfl
theorem x1_pays_8 : wpn (T1_pays Q) C1_pays (m + 1) K (8, L, s, h) = i_get 1 2 11 (wpn (T1_pays Q) C1_pays m K) L s h := rfl
theorem x1_pays_11 : wpn (T1_pays Q) C1_pays (m + 1) K (11, L, s, h) = i_ild 1 12 (wpn (T1_pays Q) C1_pays m K) L s h := rfl
theorem x1_pays_12 : wpn (T1_pays Q) C1_pays (m + 1) K (12, L, s, h) = i_iald 13 (wpn (T1_pays Q) C1_pays m K) L s h := rfl
theorem x1_pays_13 : wpn (T1_pays Q) C1_pays (m + 1) K (13, L, s, h) = i_sw [(1, 48), (2, 58), (3, 52), (4, 62), (5, 68)] 70 (wpn (T1_pays Q) C1_pays m K) L s h := rfl
theorem x1_pays_48 : wpn (T1_pays Q) C1_pays (m + 1) K (48, L, s, h) = i_ild 2 49 (wpn (T1_pays Q) C1_pays m K) L s h := rfl
theorem x1_pays_49 : wpn (T1_pays Q) C1_pays (m + 1) K (49, L, s, h) = i_ic 1 50 (wpn (T1_pays Q) C1_pays m K) L s h := rfl
theorem x1_pays_50 : wpn (T1_pays Q) C1_pays (m + 1) K (50, L, s, h) = i_iadd 51 (wpn (T1_pays Q) C1_pays m K) L s h := rfl
theorem x1_pays_51 : wpn (T1_pays Q) C1_pays (m + 1) K (51, L, s, h) = i_iret Q (wpn (T1_pays Q) C1_pays m K) L s h := rfl
theorem x1_pays_52 : wpn (T1_pays Q) C1_pays (m + 1) K (52, L, s, h) = i_ild 2 53 (wpn (T1_pays Q) C1_pays m K) L s h := rfl
theorem x1_pays_53 : wpn (T1_pays Q) C1_pays (m + 1) K (53, L, s, h) = i_ic 1 54 (wpn (T1_pays Q) C1_pays m K) L s h := rfl
theorem x1_pays_54 : wpn (T1_pays Q) C1_pays (m + 1) K (54, L, s, h) = i_iadd 55 (wpn (T1_pays Q) C1_pays m K) L s h := rfl
theorem x1_pays_55 : wpn (T1_pays Q) C1_pays (m + 1) K (55, L, s, h) = i_ic 2 56 (wpn (T1_pays Q) C1_pays m K) L s h := rfl
theorem x1_pays_56 : wpn (T1_pays Q) C1_pays (m + 1) K (56, L, s, h) = i_imul 57 (wpn (T1_pays Q) C1_pays m K) L s h := rfl
theorem x1_pays_57 : wpn (T1_pays Q) C1_pays (m + 1) K (57, L, s, h) = i_iret Q (wpn (T1_pays Q) C1_pays m K) L s h := rfl
theorem x1_pays_58 : wpn (T1_pays Q) C1_pays (m + 1) K (58, L, s, h) = i_ild 2 59 (wpn (T1_pays Q) C1_pays m K) L s h := rfl
theorem x1_pays_59 : wpn (T1_pays Q) C1_pays (m + 1) K (59, L, s, h) = i_ic 3 60 (wpn (T1_pays Q) C1_pays m K) L s h := rfl
theorem x1_pays_60 : wpn (T1_pays Q) C1_pays (m + 1) K (60, L, s, h) = i_isub 61 (wpn (T1_pays Q) C1_pays m K) L s h := rfl
theorem x1_pays_61 : wpn (T1_pays Q) C1_pays (m + 1) K (61, L, s, h) = i_iret Q (wpn (T1_pays Q) C1_pays m K) L s h := rfl
theorem x1_pays_62 : wpn (T1_pays Q) C1_pays (m + 1) K (62, L, s, h) = i_ild 2 63 (wpn (T1_pays Q) C1_pays m K) L s h := rfl
theorem x1_pays_63 : wpn (T1_pays Q) C1_pays (m + 1) K (63, L, s, h) = i_ic 3 64 (wpn (T1_pays Q) C1_pays m K) L s h := rfl
theorem x1_pays_64 : wpn (T1_pays Q) C1_pays (m + 1) K (64, L, s, h) = i_isub 65 (wpn (T1_pays Q) C1_pays m K) L s h := rfl
theorem x1_pays_65 : wpn (T1_pays Q) C1_pays (m + 1) K (65, L, s, h) = i_ild 2 66 (wpn (T1_pays Q) C1_pays m K) L s h := rfl
theorem x1_pays_66 : wpn (T1_pays Q) C1_pays (m + 1) K (66, L, s, h) = i_isub 67 (wpn (T1_pays Q) C1_pays m K) L s h := rfl
theorem x1_pays_67 : wpn (T1_pays Q) C1_pays (m + 1) K (67, L, s, h) = i_iret Q (wpn (T1_pays Q) C1_pays m K) L s h := rfl
theorem x1_pays_68 : wpn (T1_pays Q) C1_pays (m + 1) K (68, L, s, h) = i_ic 0 69 (wpn (T1_pays Q) C1_pays m K) L s h := rfl
theorem x1_pays_69 : wpn (T1_pays Q) C1_pays (m + 1) K (69, L, s, h) = i_iret Q (wpn (T1_pays Q) C1_pays m K) L s h := rfl
theorem x1_pays_70 : wpn (T1_pays Q) C1_pays (m + 1) K (70, L, s, h) = i_ild 2 71 (wpn (T1_pays Q) C1_pays m K) L s h := rfl
theorem x1_pays_71 : wpn (T1_pays Q) C1_pays (m + 1) K (71, L, s, h) = i_iret Q (wpn (T1_pays Q) C1_pays m K) L s h := rfl
def T1_gains (Q : Po) : Nat → Tr := nd 50 (nd 12 (nd 6 (nd 4 (nd 1 (lf 0 (i_ald 0 1)) (lf 1 (i_get 1 0 4))) (nd 5 (lf 4 (i_ic 1 5)) (lf 5 (i_iald 6)))) (nd 8 (nd 7 (lf 6 (i_ist 2 7)) (lf 7 (i_ald 0 8))) (nd 11 (lf 8 (i_get 1 2 11)) (lf 11 (i_ild 1 12))))) (nd 46 (nd 44 (nd 13 (lf 12 (i_iald 13)) (lf 13 (i_sw [(2, 48), (3, 44), (4, 52), (5, 63)] 67))) (nd 45 (lf 44 (i_ild 2 45)) (lf 45 (i_ic 1 46)))) (nd 48 (nd 47 (lf 46 (i_isub 47)) (lf 47 (i_iret Q))) (nd 49 (lf 48 (i_ild 2 49)) (lf 49 (i_ic 2 50)))))) (nd 60 (nd 54 (nd 52 (nd 51 (lf 50 (i_iadd 51)) (lf 51 (i_iret Q))) (nd 53 (lf 52 (i_ild 2 53)) (lf 53 (i_ic 2 54)))) (nd 56 (nd 55 (lf 54 (i_iadd 55)) (lf 55 (i_ald 0 56))) (nd 59 (lf 56 (i_get 1 0 59)) (lf 59 (i_ic 0 60))))) (nd 64 (nd 62 (nd 61 (lf 60 (i_iald 61)) (lf 61 (i_iadd 62))) (nd 63 (lf 62 (i_iret Q)) (lf 63 (i_ild 2 64)))) (nd 66 (nd 65 (lf 64 (i_ic 2 65)) (lf 65 (i_imul 66))) (nd 67 (lf 66 (i_iret Q)) (nd 68 (lf 67 (i_ild 2 68)) (lf 68 (i_iret Q)))))))
def C1_gains : List Nat := []
theorem x1_gains_0 : wpn (T1_gains Q) C1_gains (m + 1) K (0, L, s, h) = i_ald 0 1 (wpn (T1_gains Q) C1_gains m K) L s h := rfl
theorem x1_gains_1 : wpn (T1_gains Q) C1_gains (m + 1) K (1, L, s, h) = i_get 1 0 4 (wpn (T1_gains Q) C1_gains m K) L s h := rfl
theorem x1_gains_4 : wpn (T1_gains Q) C1_gains (m + 1) K (4, L, s, h) = i_ic 1 5 (wpn (T1_gains Q) C1_gains m K) L s h := rfl
theorem x1_gains_5 : wpn (T1_gains Q) C1_gains (m + 1) K (5, L, s, h) = i_iald 6 (wpn (T1_gains Q) C1_gains m K) L s h := rfl
theorem x1_gains_6 : wpn (T1_gains Q) C1_gains (m + 1) K (6, L, s, h) = i_ist 2 7 (wpn (T1_gains Q) C1_gains m K) L s h := rfl
theorem x1_gains_7 : wpn (T1_gains Q) C1_gains (m + 1) K (7, L, s, h) = i_ald 0 8 (wpn (T1_gains Q) C1_gains m K) L s h := rfl
theorem x1_gains_8 : wpn (T1_gains Q) C1_gains (m + 1) K (8, L, s, h) = i_get 1 2 11 (wpn (T1_gains Q) C1_gains m K) L s h := rfl
theorem x1_gains_11 : wpn (T1_gains Q) C1_gains (m + 1) K (11, L, s, h) = i_ild 1 12 (wpn (T1_gains Q) C1_gains m K) L s h := rfl
theorem x1_gains_12 : wpn (T1_gains Q) C1_gains (m + 1) K (12, L, s, h) = i_iald 13 (wpn (T1_gains Q) C1_gains m K) L s h := rfl
theorem x1_gains_13 : wpn (T1_gains Q) C1_gains (m + 1) K (13, L, s, h) = i_sw [(2, 48), (3, 44), (4, 52), (5, 63)] 67 (wpn (T1_gains Q) C1_gains m K) L s h := rfl
theorem x1_gains_44 : wpn (T1_gains Q) C1_gains (m + 1) K (44, L, s, h) = i_ild 2 45 (wpn (T1_gains Q) C1_gains m K) L s h := rfl
theorem x1_gains_45 : wpn (T1_gains Q) C1_gains (m + 1) K (45, L, s, h) = i_ic 1 46 (wpn (T1_gains Q) C1_gains m K) L s h := rfl
theorem x1_gains_46 : wpn (T1_gains Q) C1_gains (m + 1) K (46, L, s, h) = i_isub 47 (wpn (T1_gains Q) C1_gains m K) L s h := rfl
theorem x1_gains_47 : wpn (T1_gains Q) C1_gains (m + 1) K (47, L, s, h) = i_iret Q (wpn (T1_gains Q) C1_gains m K) L s h := rfl
theorem x1_gains_48 : wpn (T1_gains Q) C1_gains (m + 1) K (48, L, s, h) = i_ild 2 49 (wpn (T1_gains Q) C1_gains m K) L s h := rfl
theorem x1_gains_49 : wpn (T1_gains Q) C1_gains (m + 1) K (49, L, s, h) = i_ic 2 50 (wpn (T1_gains Q) C1_gains m K) L s h := rfl
theorem x1_gains_50 : wpn (T1_gains Q) C1_gains (m + 1) K (50, L, s, h) = i_iadd 51 (wpn (T1_gains Q) C1_gains m K) L s h := rfl
theorem x1_gains_51 : wpn (T1_gains Q) C1_gains (m + 1) K (51, L, s, h) = i_iret Q (wpn (T1_gains Q) C1_gains m K) L s h := rfl
theorem x1_gains_52 : wpn (T1_gains Q) C1_gains (m + 1) K (52, L, s, h) = i_ild 2 53 (wpn (T1_gains Q) C1_gains m K) L s h := rfl
theorem x1_gains_53 : wpn (T1_gains Q) C1_gains (m + 1) K (53, L, s, h) = i_ic 2 54 (wpn (T1_gains Q) C1_gains m K) L s h := rfl
theorem x1_gains_54 : wpn (T1_gains Q) C1_gains (m + 1) K (54, L, s, h) = i_iadd 55 (wpn (T1_gains Q) C1_gains m K) L s h := rfl
theorem x1_gains_55 : wpn (T1_gains Q) C1_gains (m + 1) K (55, L, s, h) = i_ald 0 56 (wpn (T1_gains Q) C1_gains m K) L s h := rfl
theorem x1_gains_56 : wpn (T1_gains Q) C1_gains (m + 1) K (56, L, s, h) = i_get 1 0 59 (wpn (T1_gains Q) C1_gains m K) L s h := rfl
theorem x1_gains_59 : wpn (T1_gains Q) C1_gains (m + 1) K (59, L, s, h) = i_ic 0 60 (wpn (T1_gains Q) C1_gains m K) L s h := rfl
theorem x1_gains_60 : wpn (T1_gains Q) C1_gains (m + 1) K (60, L, s, h) = i_iald 61 (wpn (T1_gains Q) C1_gains m K) L s h := rfl
theorem x1_gains_61 : wpn (T1_gains Q) C1_gains (m + 1) K (61, L, s, h) = i_iadd 62 (wpn (T1_gains Q) C1_gains m K) L s h := rfl
theorem x1_gains_62 : wpn (T1_gains Q) C1_gains (m + 1) K (62, L, s, h) = i_iret Q (wpn (T1_gains Q) C1_gains m K) L s h := rfl
theorem x1_gains_63 : wpn (T1_gains Q) C1_gains (m + 1) K (63, L, s, h) = i_ild 2 64 (wpn (T1_gains Q) C1_gains m K) L s h := rfl
theorem x1_gains_64 : wpn (T1_gains Q) C1_gains (m + 1) K (64, L, s, h) = i_ic 2 65 (wpn (T1_gains Q) C1_gains m K) L s h := rfl
theorem x1_gains_65 : wpn (T1_gains Q) C1_gains (m + 1) K (65, L, s, h) = i_imul 66 (wpn (T1_gains Q) C1_gains m K) L s h := rfl
theorem x1_gains_66 : wpn (T1_gains Q) C1_gains (m + 1) K (66, L, s, h) = i_iret Q (wpn (T1_gains Q) C1_gains m K) L s h := rfl
theorem x1_gains_67 : wpn (T1_gains Q) C1_gains (m + 1) K (67, L, s, h) = i_ild 2 68 (wpn (T1_gains Q) C1_gains m K) L s h := rfl
theorem x1_gains_68 : wpn (T1_gains Q) C1_gains (m + 1) K (68, L, s, h) = i_iret Q (wpn (T1_gains Q) C1_gains m K) L s h := rfl
def T1_passOccasions (Q : Po) (S1_isOut S1_takeTurn : Sp) : Nat → Tr := nd 22 (nd 9 (nd 3 (nd 1 (lf 0 (i_ic 0 1)) (nd 2 (lf 1 (i_ist 2 2)) (lf 2 (i_ild 2 3)))) (nd 7 (nd 4 (lf 3 (i_ild 1 4)) (lf 4 (i_ic_ge 52 7))) (nd 8 (lf 7 (i_ic 0 8)) (lf 8 (i_ist 3 9))))) (nd 14 (nd 10 (lf 9 (i_ild 3 10)) (nd 11 (lf 10 (i_ald 0 11)) (lf 11 (i_get 1 6 14)))) (nd 18 (nd 17 (lf 14 (i_ic_ge 36 17)) (lf 17 (i_ald 0 18))) (nd 19 (lf 18 (i_ild 3 19)) (lf 19 (i_cV 1 1 S1_isOut 22)))))) (nd 37 (nd 27 (nd 25 (lf 22 (i_if_ne 30 25)) (nd 26 (lf 25 (i_ald 0 26)) (lf 26 (i_ild 3 27)))) (nd 33 (nd 30 (lf 27 (i_cV 1 1 S1_takeTurn 30)) (lf 30 (i_inc 3 1 33))) (nd 36 (lf 33 (i_goto 9)) (lf 36 (i_ald 0 37))))) (nd 43 (nd 41 (nd 38 (lf 37 (i_dup 38)) (lf 38 (i_get 1 7 41))) (nd 42 (lf 41 (i_ic 1 42)) (lf 42 (i_iadd 43)))) (nd 49 (nd 46 (lf 43 (i_put 1 7 46)) (lf 46 (i_inc 2 1 49))) (nd 52 (lf 49 (i_goto 2)) (lf 52 (i_vret Q))))))
def C1_passOccasions : List Nat := [2, 9]
theorem x1_passOccasions_0 : wpn (T1_passOccasions Q S1_isOut S1_takeTurn) C1_passOccasions (m + 1) K (0, L, s, h) = i_ic 0 1 (wpn (T1_passOccasions Q S1_isOut S1_takeTurn) C1_passOccasions m K) L s h := rfl
theorem x1_passOccasions_1 : wpn (T1_passOccasions Q S1_isOut S1_takeTurn) C1_passOccasions (m + 1) K (1, L, s, h) = i_ist 2 2 (wpn (T1_passOccasions Q S1_isOut S1_takeTurn) C1_passOccasions m K) L s h := rfl
theorem k1_passOccasions_2 : wpn (T1_passOccasions Q S1_isOut S1_takeTurn) C1_passOccasions (m + 1) K (2, L, s, h) = K (2, L, s, h) := rfl
theorem t1_passOccasions_2 : T1_passOccasions Q S1_isOut S1_takeTurn 2 = i_ild 2 3 := rfl
theorem x1_passOccasions_3 : wpn (T1_passOccasions Q S1_isOut S1_takeTurn) C1_passOccasions (m + 1) K (3, L, s, h) = i_ild 1 4 (wpn (T1_passOccasions Q S1_isOut S1_takeTurn) C1_passOccasions m K) L s h := rfl
theorem x1_passOccasions_4 : wpn (T1_passOccasions Q S1_isOut S1_takeTurn) C1_passOccasions (m + 1) K (4, L, s, h) = i_ic_ge 52 7 (wpn (T1_passOccasions Q S1_isOut S1_takeTurn) C1_passOccasions m K) L s h := rfl
theorem x1_passOccasions_7 : wpn (T1_passOccasions Q S1_isOut S1_takeTurn) C1_passOccasions (m + 1) K (7, L, s, h) = i_ic 0 8 (wpn (T1_passOccasions Q S1_isOut S1_takeTurn) C1_passOccasions m K) L s h := rfl
theorem x1_passOccasions_8 : wpn (T1_passOccasions Q S1_isOut S1_takeTurn) C1_passOccasions (m + 1) K (8, L, s, h) = i_ist 3 9 (wpn (T1_passOccasions Q S1_isOut S1_takeTurn) C1_passOccasions m K) L s h := rfl
theorem k1_passOccasions_9 : wpn (T1_passOccasions Q S1_isOut S1_takeTurn) C1_passOccasions (m + 1) K (9, L, s, h) = K (9, L, s, h) := rfl
theorem t1_passOccasions_9 : T1_passOccasions Q S1_isOut S1_takeTurn 9 = i_ild 3 10 := rfl
theorem x1_passOccasions_10 : wpn (T1_passOccasions Q S1_isOut S1_takeTurn) C1_passOccasions (m + 1) K (10, L, s, h) = i_ald 0 11 (wpn (T1_passOccasions Q S1_isOut S1_takeTurn) C1_passOccasions m K) L s h := rfl
theorem x1_passOccasions_11 : wpn (T1_passOccasions Q S1_isOut S1_takeTurn) C1_passOccasions (m + 1) K (11, L, s, h) = i_get 1 6 14 (wpn (T1_passOccasions Q S1_isOut S1_takeTurn) C1_passOccasions m K) L s h := rfl
theorem x1_passOccasions_14 : wpn (T1_passOccasions Q S1_isOut S1_takeTurn) C1_passOccasions (m + 1) K (14, L, s, h) = i_ic_ge 36 17 (wpn (T1_passOccasions Q S1_isOut S1_takeTurn) C1_passOccasions m K) L s h := rfl
theorem x1_passOccasions_17 : wpn (T1_passOccasions Q S1_isOut S1_takeTurn) C1_passOccasions (m + 1) K (17, L, s, h) = i_ald 0 18 (wpn (T1_passOccasions Q S1_isOut S1_takeTurn) C1_passOccasions m K) L s h := rfl
theorem x1_passOccasions_18 : wpn (T1_passOccasions Q S1_isOut S1_takeTurn) C1_passOccasions (m + 1) K (18, L, s, h) = i_ild 3 19 (wpn (T1_passOccasions Q S1_isOut S1_takeTurn) C1_passOccasions m K) L s h := rfl
theorem x1_passOccasions_19 : wpn (T1_passOccasions Q S1_isOut S1_takeTurn) C1_passOccasions (m + 1) K (19, L, s, h) = i_cV 1 1 S1_isOut 22 (wpn (T1_passOccasions Q S1_isOut S1_takeTurn) C1_passOccasions m K) L s h := rfl
theorem x1_passOccasions_22 : wpn (T1_passOccasions Q S1_isOut S1_takeTurn) C1_passOccasions (m + 1) K (22, L, s, h) = i_if_ne 30 25 (wpn (T1_passOccasions Q S1_isOut S1_takeTurn) C1_passOccasions m K) L s h := rfl
theorem x1_passOccasions_25 : wpn (T1_passOccasions Q S1_isOut S1_takeTurn) C1_passOccasions (m + 1) K (25, L, s, h) = i_ald 0 26 (wpn (T1_passOccasions Q S1_isOut S1_takeTurn) C1_passOccasions m K) L s h := rfl
theorem x1_passOccasions_26 : wpn (T1_passOccasions Q S1_isOut S1_takeTurn) C1_passOccasions (m + 1) K (26, L, s, h) = i_ild 3 27 (wpn (T1_passOccasions Q S1_isOut S1_takeTurn) C1_passOccasions m K) L s h := rfl
theorem x1_passOccasions_27 : wpn (T1_passOccasions Q S1_isOut S1_takeTurn) C1_passOccasions (m + 1) K (27, L, s, h) = i_cV 1 1 S1_takeTurn 30 (wpn (T1_passOccasions Q S1_isOut S1_takeTurn) C1_passOccasions m K) L s h := rfl
theorem x1_passOccasions_30 : wpn (T1_passOccasions Q S1_isOut S1_takeTurn) C1_passOccasions (m + 1) K (30, L, s, h) = i_inc 3 1 33 (wpn (T1_passOccasions Q S1_isOut S1_takeTurn) C1_passOccasions m K) L s h := rfl
theorem x1_passOccasions_33 : wpn (T1_passOccasions Q S1_isOut S1_takeTurn) C1_passOccasions (m + 1) K (33, L, s, h) = i_goto 9 (wpn (T1_passOccasions Q S1_isOut S1_takeTurn) C1_passOccasions m K) L s h := rfl
theorem x1_passOccasions_36 : wpn (T1_passOccasions Q S1_isOut S1_takeTurn) C1_passOccasions (m + 1) K (36, L, s, h) = i_ald 0 37 (wpn (T1_passOccasions Q S1_isOut S1_takeTurn) C1_passOccasions m K) L s h := rfl
theorem x1_passOccasions_37 : wpn (T1_passOccasions Q S1_isOut S1_takeTurn) C1_passOccasions (m + 1) K (37, L, s, h) = i_dup 38 (wpn (T1_passOccasions Q S1_isOut S1_takeTurn) C1_passOccasions m K) L s h := rfl
theorem x1_passOccasions_38 : wpn (T1_passOccasions Q S1_isOut S1_takeTurn) C1_passOccasions (m + 1) K (38, L, s, h) = i_get 1 7 41 (wpn (T1_passOccasions Q S1_isOut S1_takeTurn) C1_passOccasions m K) L s h := rfl
theorem x1_passOccasions_41 : wpn (T1_passOccasions Q S1_isOut S1_takeTurn) C1_passOccasions (m + 1) K (41, L, s, h) = i_ic 1 42 (wpn (T1_passOccasions Q S1_isOut S1_takeTurn) C1_passOccasions m K) L s h := rfl
theorem x1_passOccasions_42 : wpn (T1_passOccasions Q S1_isOut S1_takeTurn) C1_passOccasions (m + 1) K (42, L, s, h) = i_iadd 43 (wpn (T1_passOccasions Q S1_isOut S1_takeTurn) C1_passOccasions m K) L s h := rfl
theorem x1_passOccasions_43 : wpn (T1_passOccasions Q S1_isOut S1_takeTurn) C1_passOccasions (m + 1) K (43, L, s, h) = i_put 1 7 46 (wpn (T1_passOccasions Q S1_isOut S1_takeTurn) C1_passOccasions m K) L s h := rfl
theorem x1_passOccasions_46 : wpn (T1_passOccasions Q S1_isOut S1_takeTurn) C1_passOccasions (m + 1) K (46, L, s, h) = i_inc 2 1 49 (wpn (T1_passOccasions Q S1_isOut S1_takeTurn) C1_passOccasions m K) L s h := rfl
theorem x1_passOccasions_49 : wpn (T1_passOccasions Q S1_isOut S1_takeTurn) C1_passOccasions (m + 1) K (49, L, s, h) = i_goto 2 (wpn (T1_passOccasions Q S1_isOut S1_takeTurn) C1_passOccasions m K) L s h := rfl
theorem x1_passOccasions_52 : wpn (T1_passOccasions Q S1_isOut S1_takeTurn) C1_passOccasions (m + 1) K (52, L, s, h) = i_vret Q (wpn (T1_passOccasions Q S1_isOut S1_takeTurn) C1_passOccasions m K) L s h := rfl
def T1_takeTurn (Q : Po) (S1_isHeld S1_needs S1_pays S5_heldGrace S1_gains : Sp) : Nat → Tr := nd 38 (nd 22 (nd 12 (nd 5 (nd 1 (lf 0 (i_ald 0 1)) (nd 2 (lf 1 (i_ild 1 2)) (lf 2 (i_cV 1 1 S1_isHeld 5)))) (nd 8 (lf 5 (i_if_ne 56 8)) (nd 9 (lf 8 (i_ald 0 9)) (lf 9 (i_get 1 3 12))))) (nd 15 (nd 13 (lf 12 (i_ild 1 13)) (nd 14 (lf 13 (i_iald 14)) (lf 14 (i_ald 0 15)))) (nd 16 (lf 15 (i_ild 1 16)) (nd 19 (lf 16 (i_cV 1 1 S1_needs 19)) (lf 19 (i_ic_lt 56 22)))))) (nd 30 (nd 27 (nd 23 (lf 22 (i_ald 0 23)) (nd 26 (lf 23 (i_get 1 4 26)) (lf 26 (i_ild 1 27)))) (nd 28 (lf 27 (i_dup2 28)) (nd 29 (lf 28 (i_iald 29)) (lf 29 (i_ic 1 30))))) (nd 33 (nd 31 (lf 30 (i_iadd 31)) (nd 32 (lf 31 (i_iast 32)) (lf 32 (i_ald 0 33)))) (nd 36 (lf 33 (i_get 1 3 36)) (nd 37 (lf 36 (i_ild 1 37)) (lf 37 (i_ald 0 38))))))) (nd 60 (nd 48 (nd 43 (nd 41 (lf 38 (i_get 1 3 41)) (nd 42 (lf 41 (i_ild 1 42)) (lf 42 (i_iald 43)))) (nd 44 (lf 43 (i_ald 0 44)) (nd 45 (lf 44 (i_ild 1 45)) (lf 45 (i_cV 1 1 S1_pays 48))))) (nd 53 (nd 49 (lf 48 (i_isub 49)) (nd 52 (lf 49 (i_cS 1 S5_heldGrace 52)) (lf 52 (i_iast 53)))) (nd 56 (lf 53 (i_goto 77)) (nd 57 (lf 56 (i_ald 0 57)) (lf 57 (i_get 1 3 60)))))) (nd 68 (nd 65 (nd 61 (lf 60 (i_ild 1 61)) (nd 62 (lf 61 (i_ald 0 62)) (lf 62 (i_get 1 3 65)))) (nd 66 (lf 65 (i_ild 1 66)) (nd 67 (lf 66 (i_iald 67)) (lf 67 (i_ald 0 68))))) (nd 73 (nd 69 (lf 68 (i_ild 1 69)) (nd 72 (lf 69 (i_cV 1 1 S1_gains 72)) (lf 72 (i_iadd 73)))) (nd 76 (lf 73 (i_cS 1 S5_heldGrace 76)) (nd 77 (lf 76 (i_iast 77)) (lf 77 (i_vret Q)))))))
def C1_takeTurn : List Nat := []
theorem x1_takeTurn_0 : wpn (T1_takeTurn Q S1_isHeld S1_needs S1_pays S5_heldGrace S1_gains) C1_takeTurn (m + 1) K (0, L, s, h) = i_ald 0 1 (wpn (T1_takeTurn Q S1_isHeld S1_needs S1_pays S5_heldGrace S1_gains) C1_takeTurn m K) L s h := rfl
theorem x1_takeTurn_1 : wpn (T1_takeTurn Q S1_isHeld S1_needs S1_pays S5_heldGrace S1_gains) C1_takeTurn (m + 1) K (1, L, s, h) = i_ild 1 2 (wpn (T1_takeTurn Q S1_isHeld S1_needs S1_pays S5_heldGrace S1_gains) C1_takeTurn m K) L s h := rfl
theorem x1_takeTurn_2 : wpn (T1_takeTurn Q S1_isHeld S1_needs S1_pays S5_heldGrace S1_gains) C1_takeTurn (m + 1) K (2, L, s, h) = i_cV 1 1 S1_isHeld 5 (wpn (T1_takeTurn Q S1_isHeld S1_needs S1_pays S5_heldGrace S1_gains) C1_takeTurn m K) L s h := rfl
theorem x1_takeTurn_5 : wpn (T1_takeTurn Q S1_isHeld S1_needs S1_pays S5_heldGrace S1_gains) C1_takeTurn (m + 1) K (5, L, s, h) = i_if_ne 56 8 (wpn (T1_takeTurn Q S1_isHeld S1_needs S1_pays S5_heldGrace S1_gains) C1_takeTurn m K) L s h := rfl
theorem x1_takeTurn_8 : wpn (T1_takeTurn Q S1_isHeld S1_needs S1_pays S5_heldGrace S1_gains) C1_takeTurn (m + 1) K (8, L, s, h) = i_ald 0 9 (wpn (T1_takeTurn Q S1_isHeld S1_needs S1_pays S5_heldGrace S1_gains) C1_takeTurn m K) L s h := rfl
theorem x1_takeTurn_9 : wpn (T1_takeTurn Q S1_isHeld S1_needs S1_pays S5_heldGrace S1_gains) C1_takeTurn (m + 1) K (9, L, s, h) = i_get 1 3 12 (wpn (T1_takeTurn Q S1_isHeld S1_needs S1_pays S5_heldGrace S1_gains) C1_takeTurn m K) L s h := rfl
theorem x1_takeTurn_12 : wpn (T1_takeTurn Q S1_isHeld S1_needs S1_pays S5_heldGrace S1_gains) C1_takeTurn (m + 1) K (12, L, s, h) = i_ild 1 13 (wpn (T1_takeTurn Q S1_isHeld S1_needs S1_pays S5_heldGrace S1_gains) C1_takeTurn m K) L s h := rfl
theorem x1_takeTurn_13 : wpn (T1_takeTurn Q S1_isHeld S1_needs S1_pays S5_heldGrace S1_gains) C1_takeTurn (m + 1) K (13, L, s, h) = i_iald 14 (wpn (T1_takeTurn Q S1_isHeld S1_needs S1_pays S5_heldGrace S1_gains) C1_takeTurn m K) L s h := rfl
theorem x1_takeTurn_14 : wpn (T1_takeTurn Q S1_isHeld S1_needs S1_pays S5_heldGrace S1_gains) C1_takeTurn (m + 1) K (14, L, s, h) = i_ald 0 15 (wpn (T1_takeTurn Q S1_isHeld S1_needs S1_pays S5_heldGrace S1_gains) C1_takeTurn m K) L s h := rfl
theorem x1_takeTurn_15 : wpn (T1_takeTurn Q S1_isHeld S1_needs S1_pays S5_heldGrace S1_gains) C1_takeTurn (m + 1) K (15, L, s, h) = i_ild 1 16 (wpn (T1_takeTurn Q S1_isHeld S1_needs S1_pays S5_heldGrace S1_gains) C1_takeTurn m K) L s h := rfl
theorem x1_takeTurn_16 : wpn (T1_takeTurn Q S1_isHeld S1_needs S1_pays S5_heldGrace S1_gains) C1_takeTurn (m + 1) K (16, L, s, h) = i_cV 1 1 S1_needs 19 (wpn (T1_takeTurn Q S1_isHeld S1_needs S1_pays S5_heldGrace S1_gains) C1_takeTurn m K) L s h := rfl
theorem x1_takeTurn_19 : wpn (T1_takeTurn Q S1_isHeld S1_needs S1_pays S5_heldGrace S1_gains) C1_takeTurn (m + 1) K (19, L, s, h) = i_ic_lt 56 22 (wpn (T1_takeTurn Q S1_isHeld S1_needs S1_pays S5_heldGrace S1_gains) C1_takeTurn m K) L s h := rfl
theorem x1_takeTurn_22 : wpn (T1_takeTurn Q S1_isHeld S1_needs S1_pays S5_heldGrace S1_gains) C1_takeTurn (m + 1) K (22, L, s, h) = i_ald 0 23 (wpn (T1_takeTurn Q S1_isHeld S1_needs S1_pays S5_heldGrace S1_gains) C1_takeTurn m K) L s h := rfl
theorem x1_takeTurn_23 : wpn (T1_takeTurn Q S1_isHeld S1_needs S1_pays S5_heldGrace S1_gains) C1_takeTurn (m + 1) K (23, L, s, h) = i_get 1 4 26 (wpn (T1_takeTurn Q S1_isHeld S1_needs S1_pays S5_heldGrace S1_gains) C1_takeTurn m K) L s h := rfl
theorem x1_takeTurn_26 : wpn (T1_takeTurn Q S1_isHeld S1_needs S1_pays S5_heldGrace S1_gains) C1_takeTurn (m + 1) K (26, L, s, h) = i_ild 1 27 (wpn (T1_takeTurn Q S1_isHeld S1_needs S1_pays S5_heldGrace S1_gains) C1_takeTurn m K) L s h := rfl
theorem x1_takeTurn_27 : wpn (T1_takeTurn Q S1_isHeld S1_needs S1_pays S5_heldGrace S1_gains) C1_takeTurn (m + 1) K (27, L, s, h) = i_dup2 28 (wpn (T1_takeTurn Q S1_isHeld S1_needs S1_pays S5_heldGrace S1_gains) C1_takeTurn m K) L s h := rfl
theorem x1_takeTurn_28 : wpn (T1_takeTurn Q S1_isHeld S1_needs S1_pays S5_heldGrace S1_gains) C1_takeTurn (m + 1) K (28, L, s, h) = i_iald 29 (wpn (T1_takeTurn Q S1_isHeld S1_needs S1_pays S5_heldGrace S1_gains) C1_takeTurn m K) L s h := rfl
theorem x1_takeTurn_29 : wpn (T1_takeTurn Q S1_isHeld S1_needs S1_pays S5_heldGrace S1_gains) C1_takeTurn (m + 1) K (29, L, s, h) = i_ic 1 30 (wpn (T1_takeTurn Q S1_isHeld S1_needs S1_pays S5_heldGrace S1_gains) C1_takeTurn m K) L s h := rfl
theorem x1_takeTurn_30 : wpn (T1_takeTurn Q S1_isHeld S1_needs S1_pays S5_heldGrace S1_gains) C1_takeTurn (m + 1) K (30, L, s, h) = i_iadd 31 (wpn (T1_takeTurn Q S1_isHeld S1_needs S1_pays S5_heldGrace S1_gains) C1_takeTurn m K) L s h := rfl
theorem x1_takeTurn_31 : wpn (T1_takeTurn Q S1_isHeld S1_needs S1_pays S5_heldGrace S1_gains) C1_takeTurn (m + 1) K (31, L, s, h) = i_iast 32 (wpn (T1_takeTurn Q S1_isHeld S1_needs S1_pays S5_heldGrace S1_gains) C1_takeTurn m K) L s h := rfl
theorem x1_takeTurn_32 : wpn (T1_takeTurn Q S1_isHeld S1_needs S1_pays S5_heldGrace S1_gains) C1_takeTurn (m + 1) K (32, L, s, h) = i_ald 0 33 (wpn (T1_takeTurn Q S1_isHeld S1_needs S1_pays S5_heldGrace S1_gains) C1_takeTurn m K) L s h := rfl
theorem x1_takeTurn_33 : wpn (T1_takeTurn Q S1_isHeld S1_needs S1_pays S5_heldGrace S1_gains) C1_takeTurn (m + 1) K (33, L, s, h) = i_get 1 3 36 (wpn (T1_takeTurn Q S1_isHeld S1_needs S1_pays S5_heldGrace S1_gains) C1_takeTurn m K) L s h := rfl
theorem x1_takeTurn_36 : wpn (T1_takeTurn Q S1_isHeld S1_needs S1_pays S5_heldGrace S1_gains) C1_takeTurn (m + 1) K (36, L, s, h) = i_ild 1 37 (wpn (T1_takeTurn Q S1_isHeld S1_needs S1_pays S5_heldGrace S1_gains) C1_takeTurn m K) L s h := rfl
theorem x1_takeTurn_37 : wpn (T1_takeTurn Q S1_isHeld S1_needs S1_pays S5_heldGrace S1_gains) C1_takeTurn (m + 1) K (37, L, s, h) = i_ald 0 38 (wpn (T1_takeTurn Q S1_isHeld S1_needs S1_pays S5_heldGrace S1_gains) C1_takeTurn m K) L s h := rfl
theorem x1_takeTurn_38 : wpn (T1_takeTurn Q S1_isHeld S1_needs S1_pays S5_heldGrace S1_gains) C1_takeTurn (m + 1) K (38, L, s, h) = i_get 1 3 41 (wpn (T1_takeTurn Q S1_isHeld S1_needs S1_pays S5_heldGrace S1_gains) C1_takeTurn m K) L s h := rfl
theorem x1_takeTurn_41 : wpn (T1_takeTurn Q S1_isHeld S1_needs S1_pays S5_heldGrace S1_gains) C1_takeTurn (m + 1) K (41, L, s, h) = i_ild 1 42 (wpn (T1_takeTurn Q S1_isHeld S1_needs S1_pays S5_heldGrace S1_gains) C1_takeTurn m K) L s h := rfl
theorem x1_takeTurn_42 : wpn (T1_takeTurn Q S1_isHeld S1_needs S1_pays S5_heldGrace S1_gains) C1_takeTurn (m + 1) K (42, L, s, h) = i_iald 43 (wpn (T1_takeTurn Q S1_isHeld S1_needs S1_pays S5_heldGrace S1_gains) C1_takeTurn m K) L s h := rfl
theorem x1_takeTurn_43 : wpn (T1_takeTurn Q S1_isHeld S1_needs S1_pays S5_heldGrace S1_gains) C1_takeTurn (m + 1) K (43, L, s, h) = i_ald 0 44 (wpn (T1_takeTurn Q S1_isHeld S1_needs S1_pays S5_heldGrace S1_gains) C1_takeTurn m K) L s h := rfl
theorem x1_takeTurn_44 : wpn (T1_takeTurn Q S1_isHeld S1_needs S1_pays S5_heldGrace S1_gains) C1_takeTurn (m + 1) K (44, L, s, h) = i_ild 1 45 (wpn (T1_takeTurn Q S1_isHeld S1_needs S1_pays S5_heldGrace S1_gains) C1_takeTurn m K) L s h := rfl
theorem x1_takeTurn_45 : wpn (T1_takeTurn Q S1_isHeld S1_needs S1_pays S5_heldGrace S1_gains) C1_takeTurn (m + 1) K (45, L, s, h) = i_cV 1 1 S1_pays 48 (wpn (T1_takeTurn Q S1_isHeld S1_needs S1_pays S5_heldGrace S1_gains) C1_takeTurn m K) L s h := rfl
theorem x1_takeTurn_48 : wpn (T1_takeTurn Q S1_isHeld S1_needs S1_pays S5_heldGrace S1_gains) C1_takeTurn (m + 1) K (48, L, s, h) = i_isub 49 (wpn (T1_takeTurn Q S1_isHeld S1_needs S1_pays S5_heldGrace S1_gains) C1_takeTurn m K) L s h := rfl
theorem x1_takeTurn_49 : wpn (T1_takeTurn Q S1_isHeld S1_needs S1_pays S5_heldGrace S1_gains) C1_takeTurn (m + 1) K (49, L, s, h) = i_cS 1 S5_heldGrace 52 (wpn (T1_takeTurn Q S1_isHeld S1_needs S1_pays S5_heldGrace S1_gains) C1_takeTurn m K) L s h := rfl
theorem x1_takeTurn_52 : wpn (T1_takeTurn Q S1_isHeld S1_needs S1_pays S5_heldGrace S1_gains) C1_takeTurn (m + 1) K (52, L, s, h) = i_iast 53 (wpn (T1_takeTurn Q S1_isHeld S1_needs S1_pays S5_heldGrace S1_gains) C1_takeTurn m K) L s h := rfl
theorem x1_takeTurn_53 : wpn (T1_takeTurn Q S1_isHeld S1_needs S1_pays S5_heldGrace S1_gains) C1_takeTurn (m + 1) K (53, L, s, h) = i_goto 77 (wpn (T1_takeTurn Q S1_isHeld S1_needs S1_pays S5_heldGrace S1_gains) C1_takeTurn m K) L s h := rfl
theorem x1_takeTurn_56 : wpn (T1_takeTurn Q S1_isHeld S1_needs S1_pays S5_heldGrace S1_gains) C1_takeTurn (m + 1) K (56, L, s, h) = i_ald 0 57 (wpn (T1_takeTurn Q S1_isHeld S1_needs S1_pays S5_heldGrace S1_gains) C1_takeTurn m K) L s h := rfl
theorem x1_takeTurn_57 : wpn (T1_takeTurn Q S1_isHeld S1_needs S1_pays S5_heldGrace S1_gains) C1_takeTurn (m + 1) K (57, L, s, h) = i_get 1 3 60 (wpn (T1_takeTurn Q S1_isHeld S1_needs S1_pays S5_heldGrace S1_gains) C1_takeTurn m K) L s h := rfl
theorem x1_takeTurn_60 : wpn (T1_takeTurn Q S1_isHeld S1_needs S1_pays S5_heldGrace S1_gains) C1_takeTurn (m + 1) K (60, L, s, h) = i_ild 1 61 (wpn (T1_takeTurn Q S1_isHeld S1_needs S1_pays S5_heldGrace S1_gains) C1_takeTurn m K) L s h := rfl
theorem x1_takeTurn_61 : wpn (T1_takeTurn Q S1_isHeld S1_needs S1_pays S5_heldGrace S1_gains) C1_takeTurn (m + 1) K (61, L, s, h) = i_ald 0 62 (wpn (T1_takeTurn Q S1_isHeld S1_needs S1_pays S5_heldGrace S1_gains) C1_takeTurn m K) L s h := rfl
theorem x1_takeTurn_62 : wpn (T1_takeTurn Q S1_isHeld S1_needs S1_pays S5_heldGrace S1_gains) C1_takeTurn (m + 1) K (62, L, s, h) = i_get 1 3 65 (wpn (T1_takeTurn Q S1_isHeld S1_needs S1_pays S5_heldGrace S1_gains) C1_takeTurn m K) L s h := rfl
theorem x1_takeTurn_65 : wpn (T1_takeTurn Q S1_isHeld S1_needs S1_pays S5_heldGrace S1_gains) C1_takeTurn (m + 1) K (65, L, s, h) = i_ild 1 66 (wpn (T1_takeTurn Q S1_isHeld S1_needs S1_pays S5_heldGrace S1_gains) C1_takeTurn m K) L s h := rfl
theorem x1_takeTurn_66 : wpn (T1_takeTurn Q S1_isHeld S1_needs S1_pays S5_heldGrace S1_gains) C1_takeTurn (m + 1) K (66, L, s, h) = i_iald 67 (wpn (T1_takeTurn Q S1_isHeld S1_needs S1_pays S5_heldGrace S1_gains) C1_takeTurn m K) L s h := rfl
theorem x1_takeTurn_67 : wpn (T1_takeTurn Q S1_isHeld S1_needs S1_pays S5_heldGrace S1_gains) C1_takeTurn (m + 1) K (67, L, s, h) = i_ald 0 68 (wpn (T1_takeTurn Q S1_isHeld S1_needs S1_pays S5_heldGrace S1_gains) C1_takeTurn m K) L s h := rfl
theorem x1_takeTurn_68 : wpn (T1_takeTurn Q S1_isHeld S1_needs S1_pays S5_heldGrace S1_gains) C1_takeTurn (m + 1) K (68, L, s, h) = i_ild 1 69 (wpn (T1_takeTurn Q S1_isHeld S1_needs S1_pays S5_heldGrace S1_gains) C1_takeTurn m K) L s h := rfl
theorem x1_takeTurn_69 : wpn (T1_takeTurn Q S1_isHeld S1_needs S1_pays S5_heldGrace S1_gains) C1_takeTurn (m + 1) K (69, L, s, h) = i_cV 1 1 S1_gains 72 (wpn (T1_takeTurn Q S1_isHeld S1_needs S1_pays S5_heldGrace S1_gains) C1_takeTurn m K) L s h := rfl
theorem x1_takeTurn_72 : wpn (T1_takeTurn Q S1_isHeld S1_needs S1_pays S5_heldGrace S1_gains) C1_takeTurn (m + 1) K (72, L, s, h) = i_iadd 73 (wpn (T1_takeTurn Q S1_isHeld S1_needs S1_pays S5_heldGrace S1_gains) C1_takeTurn m K) L s h := rfl
theorem x1_takeTurn_73 : wpn (T1_takeTurn Q S1_isHeld S1_needs S1_pays S5_heldGrace S1_gains) C1_takeTurn (m + 1) K (73, L, s, h) = i_cS 1 S5_heldGrace 76 (wpn (T1_takeTurn Q S1_isHeld S1_needs S1_pays S5_heldGrace S1_gains) C1_takeTurn m K) L s h := rfl
theorem x1_takeTurn_76 : wpn (T1_takeTurn Q S1_isHeld S1_needs S1_pays S5_heldGrace S1_gains) C1_takeTurn (m + 1) K (76, L, s, h) = i_iast 77 (wpn (T1_takeTurn Q S1_isHeld S1_needs S1_pays S5_heldGrace S1_gains) C1_takeTurn m K) L s h := rfl
theorem x1_takeTurn_77 : wpn (T1_takeTurn Q S1_isHeld S1_needs S1_pays S5_heldGrace S1_gains) C1_takeTurn (m + 1) K (77, L, s, h) = i_vret Q (wpn (T1_takeTurn Q S1_isHeld S1_needs S1_pays S5_heldGrace S1_gains) C1_takeTurn m K) L s h := rfl
def T1_passByDraws (Q : Po) (S1_draw S1_isOut S1_passOccasions : Sp) : Nat → Tr := nd 31 (nd 17 (nd 8 (nd 4 (nd 1 (lf 0 (i_ald 0 1)) (lf 1 (i_get 1 6 4))) (nd 7 (lf 4 (i_if_le 53 7)) (lf 7 (i_ald 0 8)))) (nd 12 (nd 11 (lf 8 (i_cV 0 1 S1_draw 11)) (lf 11 (i_ald 0 12))) (nd 15 (lf 12 (i_get 1 6 15)) (nd 16 (lf 15 (i_irem 16)) (lf 16 (i_ist 1 17)))))) (nd 24 (nd 21 (nd 18 (lf 17 (i_ald 0 18)) (lf 18 (i_cV 0 1 S1_draw 21))) (nd 23 (lf 21 (i_ic 100 23)) (lf 23 (i_irem 24)))) (nd 26 (nd 25 (lf 24 (i_ist 2 25)) (lf 25 (i_ild 2 26))) (nd 27 (lf 26 (i_ald 0 27)) (nd 30 (lf 27 (i_get 1 0 30)) (lf 30 (i_ic 3 31))))))) (nd 48 (nd 37 (nd 35 (nd 32 (lf 31 (i_iald 32)) (lf 32 (i_ic_ge 53 35))) (nd 36 (lf 35 (i_ald 0 36)) (lf 36 (i_ild 1 37)))) (nd 43 (nd 40 (lf 37 (i_cV 1 1 S1_isOut 40)) (lf 40 (i_if_ne 53 43))) (nd 44 (lf 43 (i_ald 0 44)) (nd 47 (lf 44 (i_get 1 4 47)) (lf 47 (i_ild 1 48)))))) (nd 52 (nd 50 (nd 49 (lf 48 (i_dup2 49)) (lf 49 (i_iald 50))) (nd 51 (lf 50 (i_ic 1 51)) (lf 51 (i_iadd 52)))) (nd 54 (nd 53 (lf 52 (i_iast 53)) (lf 53 (i_ald 0 54))) (nd 55 (lf 54 (i_ic 1 55)) (nd 58 (lf 55 (i_cV 1 1 S1_passOccasions 58)) (lf 58 (i_vret Q)))))))
def C1_passByDraws : List Nat := []
theorem x1_passByDraws_0 : wpn (T1_passByDraws Q S1_draw S1_isOut S1_passOccasions) C1_passByDraws (m + 1) K (0, L, s, h) = i_ald 0 1 (wpn (T1_passByDraws Q S1_draw S1_isOut S1_passOccasions) C1_passByDraws m K) L s h := rfl
theorem x1_passByDraws_1 : wpn (T1_passByDraws Q S1_draw S1_isOut S1_passOccasions) C1_passByDraws (m + 1) K (1, L, s, h) = i_get 1 6 4 (wpn (T1_passByDraws Q S1_draw S1_isOut S1_passOccasions) C1_passByDraws m K) L s h := rfl
theorem x1_passByDraws_4 : wpn (T1_passByDraws Q S1_draw S1_isOut S1_passOccasions) C1_passByDraws (m + 1) K (4, L, s, h) = i_if_le 53 7 (wpn (T1_passByDraws Q S1_draw S1_isOut S1_passOccasions) C1_passByDraws m K) L s h := rfl
theorem x1_passByDraws_7 : wpn (T1_passByDraws Q S1_draw S1_isOut S1_passOccasions) C1_passByDraws (m + 1) K (7, L, s, h) = i_ald 0 8 (wpn (T1_passByDraws Q S1_draw S1_isOut S1_passOccasions) C1_passByDraws m K) L s h := rfl
theorem x1_passByDraws_8 : wpn (T1_passByDraws Q S1_draw S1_isOut S1_passOccasions) C1_passByDraws (m + 1) K (8, L, s, h) = i_cV 0 1 S1_draw 11 (wpn (T1_passByDraws Q S1_draw S1_isOut S1_passOccasions) C1_passByDraws m K) L s h := rfl
theorem x1_passByDraws_11 : wpn (T1_passByDraws Q S1_draw S1_isOut S1_passOccasions) C1_passByDraws (m + 1) K (11, L, s, h) = i_ald 0 12 (wpn (T1_passByDraws Q S1_draw S1_isOut S1_passOccasions) C1_passByDraws m K) L s h := rfl
theorem x1_passByDraws_12 : wpn (T1_passByDraws Q S1_draw S1_isOut S1_passOccasions) C1_passByDraws (m + 1) K (12, L, s, h) = i_get 1 6 15 (wpn (T1_passByDraws Q S1_draw S1_isOut S1_passOccasions) C1_passByDraws m K) L s h := rfl
theorem x1_passByDraws_15 : wpn (T1_passByDraws Q S1_draw S1_isOut S1_passOccasions) C1_passByDraws (m + 1) K (15, L, s, h) = i_irem 16 (wpn (T1_passByDraws Q S1_draw S1_isOut S1_passOccasions) C1_passByDraws m K) L s h := rfl
theorem x1_passByDraws_16 : wpn (T1_passByDraws Q S1_draw S1_isOut S1_passOccasions) C1_passByDraws (m + 1) K (16, L, s, h) = i_ist 1 17 (wpn (T1_passByDraws Q S1_draw S1_isOut S1_passOccasions) C1_passByDraws m K) L s h := rfl
theorem x1_passByDraws_17 : wpn (T1_passByDraws Q S1_draw S1_isOut S1_passOccasions) C1_passByDraws (m + 1) K (17, L, s, h) = i_ald 0 18 (wpn (T1_passByDraws Q S1_draw S1_isOut S1_passOccasions) C1_passByDraws m K) L s h := rfl
theorem x1_passByDraws_18 : wpn (T1_passByDraws Q S1_draw S1_isOut S1_passOccasions) C1_passByDraws (m + 1) K (18, L, s, h) = i_cV 0 1 S1_draw 21 (wpn (T1_passByDraws Q S1_draw S1_isOut S1_passOccasions) C1_passByDraws m K) L s h := rfl
theorem x1_passByDraws_21 : wpn (T1_passByDraws Q S1_draw S1_isOut S1_passOccasions) C1_passByDraws (m + 1) K (21, L, s, h) = i_ic 100 23 (wpn (T1_passByDraws Q S1_draw S1_isOut S1_passOccasions) C1_passByDraws m K) L s h := rfl
theorem x1_passByDraws_23 : wpn (T1_passByDraws Q S1_draw S1_isOut S1_passOccasions) C1_passByDraws (m + 1) K (23, L, s, h) = i_irem 24 (wpn (T1_passByDraws Q S1_draw S1_isOut S1_passOccasions) C1_passByDraws m K) L s h := rfl
theorem x1_passByDraws_24 : wpn (T1_passByDraws Q S1_draw S1_isOut S1_passOccasions) C1_passByDraws (m + 1) K (24, L, s, h) = i_ist 2 25 (wpn (T1_passByDraws Q S1_draw S1_isOut S1_passOccasions) C1_passByDraws m K) L s h := rfl
theorem x1_passByDraws_25 : wpn (T1_passByDraws Q S1_draw S1_isOut S1_passOccasions) C1_passByDraws (m + 1) K (25, L, s, h) = i_ild 2 26 (wpn (T1_passByDraws Q S1_draw S1_isOut S1_passOccasions) C1_passByDraws m K) L s h := rfl
theorem x1_passByDraws_26 : wpn (T1_passByDraws Q S1_draw S1_isOut S1_passOccasions) C1_passByDraws (m + 1) K (26, L, s, h) = i_ald 0 27 (wpn (T1_passByDraws Q S1_draw S1_isOut S1_passOccasions) C1_passByDraws m K) L s h := rfl
theorem x1_passByDraws_27 : wpn (T1_passByDraws Q S1_draw S1_isOut S1_passOccasions) C1_passByDraws (m + 1) K (27, L, s, h) = i_get 1 0 30 (wpn (T1_passByDraws Q S1_draw S1_isOut S1_passOccasions) C1_passByDraws m K) L s h := rfl
theorem x1_passByDraws_30 : wpn (T1_passByDraws Q S1_draw S1_isOut S1_passOccasions) C1_passByDraws (m + 1) K (30, L, s, h) = i_ic 3 31 (wpn (T1_passByDraws Q S1_draw S1_isOut S1_passOccasions) C1_passByDraws m K) L s h := rfl
theorem x1_passByDraws_31 : wpn (T1_passByDraws Q S1_draw S1_isOut S1_passOccasions) C1_passByDraws (m + 1) K (31, L, s, h) = i_iald 32 (wpn (T1_passByDraws Q S1_draw S1_isOut S1_passOccasions) C1_passByDraws m K) L s h := rfl
theorem x1_passByDraws_32 : wpn (T1_passByDraws Q S1_draw S1_isOut S1_passOccasions) C1_passByDraws (m + 1) K (32, L, s, h) = i_ic_ge 53 35 (wpn (T1_passByDraws Q S1_draw S1_isOut S1_passOccasions) C1_passByDraws m K) L s h := rfl
theorem x1_passByDraws_35 : wpn (T1_passByDraws Q S1_draw S1_isOut S1_passOccasions) C1_passByDraws (m + 1) K (35, L, s, h) = i_ald 0 36 (wpn (T1_passByDraws Q S1_draw S1_isOut S1_passOccasions) C1_passByDraws m K) L s h := rfl
theorem x1_passByDraws_36 : wpn (T1_passByDraws Q S1_draw S1_isOut S1_passOccasions) C1_passByDraws (m + 1) K (36, L, s, h) = i_ild 1 37 (wpn (T1_passByDraws Q S1_draw S1_isOut S1_passOccasions) C1_passByDraws m K) L s h := rfl
theorem x1_passByDraws_37 : wpn (T1_passByDraws Q S1_draw S1_isOut S1_passOccasions) C1_passByDraws (m + 1) K (37, L, s, h) = i_cV 1 1 S1_isOut 40 (wpn (T1_passByDraws Q S1_draw S1_isOut S1_passOccasions) C1_passByDraws m K) L s h := rfl
theorem x1_passByDraws_40 : wpn (T1_passByDraws Q S1_draw S1_isOut S1_passOccasions) C1_passByDraws (m + 1) K (40, L, s, h) = i_if_ne 53 43 (wpn (T1_passByDraws Q S1_draw S1_isOut S1_passOccasions) C1_passByDraws m K) L s h := rfl
theorem x1_passByDraws_43 : wpn (T1_passByDraws Q S1_draw S1_isOut S1_passOccasions) C1_passByDraws (m + 1) K (43, L, s, h) = i_ald 0 44 (wpn (T1_passByDraws Q S1_draw S1_isOut S1_passOccasions) C1_passByDraws m K) L s h := rfl
theorem x1_passByDraws_44 : wpn (T1_passByDraws Q S1_draw S1_isOut S1_passOccasions) C1_passByDraws (m + 1) K (44, L, s, h) = i_get 1 4 47 (wpn (T1_passByDraws Q S1_draw S1_isOut S1_passOccasions) C1_passByDraws m K) L s h := rfl
theorem x1_passByDraws_47 : wpn (T1_passByDraws Q S1_draw S1_isOut S1_passOccasions) C1_passByDraws (m + 1) K (47, L, s, h) = i_ild 1 48 (wpn (T1_passByDraws Q S1_draw S1_isOut S1_passOccasions) C1_passByDraws m K) L s h := rfl
theorem x1_passByDraws_48 : wpn (T1_passByDraws Q S1_draw S1_isOut S1_passOccasions) C1_passByDraws (m + 1) K (48, L, s, h) = i_dup2 49 (wpn (T1_passByDraws Q S1_draw S1_isOut S1_passOccasions) C1_passByDraws m K) L s h := rfl
theorem x1_passByDraws_49 : wpn (T1_passByDraws Q S1_draw S1_isOut S1_passOccasions) C1_passByDraws (m + 1) K (49, L, s, h) = i_iald 50 (wpn (T1_passByDraws Q S1_draw S1_isOut S1_passOccasions) C1_passByDraws m K) L s h := rfl
theorem x1_passByDraws_50 : wpn (T1_passByDraws Q S1_draw S1_isOut S1_passOccasions) C1_passByDraws (m + 1) K (50, L, s, h) = i_ic 1 51 (wpn (T1_passByDraws Q S1_draw S1_isOut S1_passOccasions) C1_passByDraws m K) L s h := rfl
theorem x1_passByDraws_51 : wpn (T1_passByDraws Q S1_draw S1_isOut S1_passOccasions) C1_passByDraws (m + 1) K (51, L, s, h) = i_iadd 52 (wpn (T1_passByDraws Q S1_draw S1_isOut S1_passOccasions) C1_passByDraws m K) L s h := rfl
theorem x1_passByDraws_52 : wpn (T1_passByDraws Q S1_draw S1_isOut S1_passOccasions) C1_passByDraws (m + 1) K (52, L, s, h) = i_iast 53 (wpn (T1_passByDraws Q S1_draw S1_isOut S1_passOccasions) C1_passByDraws m K) L s h := rfl
theorem x1_passByDraws_53 : wpn (T1_passByDraws Q S1_draw S1_isOut S1_passOccasions) C1_passByDraws (m + 1) K (53, L, s, h) = i_ald 0 54 (wpn (T1_passByDraws Q S1_draw S1_isOut S1_passOccasions) C1_passByDraws m K) L s h := rfl
theorem x1_passByDraws_54 : wpn (T1_passByDraws Q S1_draw S1_isOut S1_passOccasions) C1_passByDraws (m + 1) K (54, L, s, h) = i_ic 1 55 (wpn (T1_passByDraws Q S1_draw S1_isOut S1_passOccasions) C1_passByDraws m K) L s h := rfl
theorem x1_passByDraws_55 : wpn (T1_passByDraws Q S1_draw S1_isOut S1_passOccasions) C1_passByDraws (m + 1) K (55, L, s, h) = i_cV 1 1 S1_passOccasions 58 (wpn (T1_passByDraws Q S1_draw S1_isOut S1_passOccasions) C1_passByDraws m K) L s h := rfl
theorem x1_passByDraws_58 : wpn (T1_passByDraws Q S1_draw S1_isOut S1_passOccasions) C1_passByDraws (m + 1) K (58, L, s, h) = i_vret Q (wpn (T1_passByDraws Q S1_draw S1_isOut S1_passOccasions) C1_passByDraws m K) L s h := rfl
def T1_draw (Q : Po) : Nat → Tr := nd 11 (nd 5 (nd 1 (lf 0 (i_ald 0 1)) (nd 2 (lf 1 (i_ald 0 2)) (lf 2 (i_get 1 8 5)))) (nd 7 (lf 5 (i_ic 1103515245 7)) (nd 8 (lf 7 (i_imul 8)) (lf 8 (i_ic 12345 11))))) (nd 16 (nd 12 (lf 11 (i_iadd 12)) (nd 15 (lf 12 (i_put 1 8 15)) (lf 15 (i_ald 0 16)))) (nd 21 (nd 19 (lf 16 (i_get 1 8 19)) (lf 19 (i_ic 16 21))) (nd 22 (lf 21 (i_iushr 22)) (lf 22 (i_iret Q)))))
def C1_draw : List Nat := []
theorem x1_draw_0 : wpn (T1_draw Q) C1_draw (m + 1) K (0, L, s, h) = i_ald 0 1 (wpn (T1_draw Q) C1_draw m K) L s h := rfl
theorem x1_draw_1 : wpn (T1_draw Q) C1_draw (m + 1) K (1, L, s, h) = i_ald 0 2 (wpn (T1_draw Q) C1_draw m K) L s h := rfl
theorem x1_draw_2 : wpn (T1_draw Q) C1_draw (m + 1) K (2, L, s, h) = i_get 1 8 5 (wpn (T1_draw Q) C1_draw m K) L s h := rfl
theorem x1_draw_5 : wpn (T1_draw Q) C1_draw (m + 1) K (5, L, s, h) = i_ic 1103515245 7 (wpn (T1_draw Q) C1_draw m K) L s h := rfl
theorem x1_draw_7 : wpn (T1_draw Q) C1_draw (m + 1) K (7, L, s, h) = i_imul 8 (wpn (T1_draw Q) C1_draw m K) L s h := rfl
theorem x1_draw_8 : wpn (T1_draw Q) C1_draw (m + 1) K (8, L, s, h) = i_ic 12345 11 (wpn (T1_draw Q) C1_draw m K) L s h := rfl
theorem x1_draw_11 : wpn (T1_draw Q) C1_draw (m + 1) K (11, L, s, h) = i_iadd 12 (wpn (T1_draw Q) C1_draw m K) L s h := rfl
theorem x1_draw_12 : wpn (T1_draw Q) C1_draw (m + 1) K (12, L, s, h) = i_put 1 8 15 (wpn (T1_draw Q) C1_draw m K) L s h := rfl
theorem x1_draw_15 : wpn (T1_draw Q) C1_draw (m + 1) K (15, L, s, h) = i_ald 0 16 (wpn (T1_draw Q) C1_draw m K) L s h := rfl
theorem x1_draw_16 : wpn (T1_draw Q) C1_draw (m + 1) K (16, L, s, h) = i_get 1 8 19 (wpn (T1_draw Q) C1_draw m K) L s h := rfl
theorem x1_draw_19 : wpn (T1_draw Q) C1_draw (m + 1) K (19, L, s, h) = i_ic 16 21 (wpn (T1_draw Q) C1_draw m K) L s h := rfl
theorem x1_draw_21 : wpn (T1_draw Q) C1_draw (m + 1) K (21, L, s, h) = i_iushr 22 (wpn (T1_draw Q) C1_draw m K) L s h := rfl
theorem x1_draw_22 : wpn (T1_draw Q) C1_draw (m + 1) K (22, L, s, h) = i_iret Q (wpn (T1_draw Q) C1_draw m K) L s h := rfl
def T1_timeTo (Q : Po) (S1_passOccasions : Sp) : Nat → Tr := nd 16 (nd 9 (nd 3 (nd 1 (lf 0 (i_ic 0 1)) (lf 1 (i_ist 4 3))) (nd 5 (lf 3 (i_ild 4 5)) (nd 6 (lf 5 (i_ild 3 6)) (lf 6 (i_ic_gt 33 9))))) (nd 13 (nd 10 (lf 9 (i_ald 0 10)) (lf 10 (i_get 1 4 13))) (nd 14 (lf 13 (i_ild 1 14)) (nd 15 (lf 14 (i_iald 15)) (lf 15 (i_ild 2 16)))))) (nd 24 (nd 21 (nd 19 (lf 16 (i_ic_lt 22 19)) (lf 19 (i_ild 4 21))) (nd 22 (lf 21 (i_iret Q)) (nd 23 (lf 22 (i_ald 0 23)) (lf 23 (i_ic 1 24))))) (nd 30 (nd 27 (lf 24 (i_cV 1 1 S1_passOccasions 27)) (lf 27 (i_inc 4 1 30))) (nd 33 (lf 30 (i_goto 3)) (nd 35 (lf 33 (i_ic 61 35)) (lf 35 (i_iret Q))))))
def C1_timeTo : List Nat := [3]
theorem x1_timeTo_0 : wpn (T1_timeTo Q S1_passOccasions) C1_timeTo (m + 1) K (0, L, s, h) = i_ic 0 1 (wpn (T1_timeTo Q S1_passOccasions) C1_timeTo m K) L s h := rfl
theorem x1_timeTo_1 : wpn (T1_timeTo Q S1_passOccasions) C1_timeTo (m + 1) K (1, L, s, h) = i_ist 4 3 (wpn (T1_timeTo Q S1_passOccasions) C1_timeTo m K) L s h := rfl
theorem k1_timeTo_3 : wpn (T1_timeTo Q S1_passOccasions) C1_timeTo (m + 1) K (3, L, s, h) = K (3, L, s, h) := rfl
theorem t1_timeTo_3 : T1_timeTo Q S1_passOccasions 3 = i_ild 4 5 := rfl
theorem x1_timeTo_5 : wpn (T1_timeTo Q S1_passOccasions) C1_timeTo (m + 1) K (5, L, s, h) = i_ild 3 6 (wpn (T1_timeTo Q S1_passOccasions) C1_timeTo m K) L s h := rfl
theorem x1_timeTo_6 : wpn (T1_timeTo Q S1_passOccasions) C1_timeTo (m + 1) K (6, L, s, h) = i_ic_gt 33 9 (wpn (T1_timeTo Q S1_passOccasions) C1_timeTo m K) L s h := rfl
theorem x1_timeTo_9 : wpn (T1_timeTo Q S1_passOccasions) C1_timeTo (m + 1) K (9, L, s, h) = i_ald 0 10 (wpn (T1_timeTo Q S1_passOccasions) C1_timeTo m K) L s h := rfl
theorem x1_timeTo_10 : wpn (T1_timeTo Q S1_passOccasions) C1_timeTo (m + 1) K (10, L, s, h) = i_get 1 4 13 (wpn (T1_timeTo Q S1_passOccasions) C1_timeTo m K) L s h := rfl
theorem x1_timeTo_13 : wpn (T1_timeTo Q S1_passOccasions) C1_timeTo (m + 1) K (13, L, s, h) = i_ild 1 14 (wpn (T1_timeTo Q S1_passOccasions) C1_timeTo m K) L s h := rfl
theorem x1_timeTo_14 : wpn (T1_timeTo Q S1_passOccasions) C1_timeTo (m + 1) K (14, L, s, h) = i_iald 15 (wpn (T1_timeTo Q S1_passOccasions) C1_timeTo m K) L s h := rfl
theorem x1_timeTo_15 : wpn (T1_timeTo Q S1_passOccasions) C1_timeTo (m + 1) K (15, L, s, h) = i_ild 2 16 (wpn (T1_timeTo Q S1_passOccasions) C1_timeTo m K) L s h := rfl
theorem x1_timeTo_16 : wpn (T1_timeTo Q S1_passOccasions) C1_timeTo (m + 1) K (16, L, s, h) = i_ic_lt 22 19 (wpn (T1_timeTo Q S1_passOccasions) C1_timeTo m K) L s h := rfl
theorem x1_timeTo_19 : wpn (T1_timeTo Q S1_passOccasions) C1_timeTo (m + 1) K (19, L, s, h) = i_ild 4 21 (wpn (T1_timeTo Q S1_passOccasions) C1_timeTo m K) L s h := rfl
theorem x1_timeTo_21 : wpn (T1_timeTo Q S1_passOccasions) C1_timeTo (m + 1) K (21, L, s, h) = i_iret Q (wpn (T1_timeTo Q S1_passOccasions) C1_timeTo m K) L s h := rfl
theorem x1_timeTo_22 : wpn (T1_timeTo Q S1_passOccasions) C1_timeTo (m + 1) K (22, L, s, h) = i_ald 0 23 (wpn (T1_timeTo Q S1_passOccasions) C1_timeTo m K) L s h := rfl
theorem x1_timeTo_23 : wpn (T1_timeTo Q S1_passOccasions) C1_timeTo (m + 1) K (23, L, s, h) = i_ic 1 24 (wpn (T1_timeTo Q S1_passOccasions) C1_timeTo m K) L s h := rfl
theorem x1_timeTo_24 : wpn (T1_timeTo Q S1_passOccasions) C1_timeTo (m + 1) K (24, L, s, h) = i_cV 1 1 S1_passOccasions 27 (wpn (T1_timeTo Q S1_passOccasions) C1_timeTo m K) L s h := rfl
theorem x1_timeTo_27 : wpn (T1_timeTo Q S1_passOccasions) C1_timeTo (m + 1) K (27, L, s, h) = i_inc 4 1 30 (wpn (T1_timeTo Q S1_passOccasions) C1_timeTo m K) L s h := rfl
theorem x1_timeTo_30 : wpn (T1_timeTo Q S1_passOccasions) C1_timeTo (m + 1) K (30, L, s, h) = i_goto 3 (wpn (T1_timeTo Q S1_passOccasions) C1_timeTo m K) L s h := rfl
theorem x1_timeTo_33 : wpn (T1_timeTo Q S1_passOccasions) C1_timeTo (m + 1) K (33, L, s, h) = i_ic 61 35 (wpn (T1_timeTo Q S1_passOccasions) C1_timeTo m K) L s h := rfl
theorem x1_timeTo_35 : wpn (T1_timeTo Q S1_passOccasions) C1_timeTo (m + 1) K (35, L, s, h) = i_iret Q (wpn (T1_timeTo Q S1_passOccasions) C1_timeTo m K) L s h := rfl
def T1_rowPart (Q : Po) (S1_thoseIn : Sp) : Nat → Tr := nd 36 (nd 32 (nd 28 (nd 1 (lf 0 (i_ild 2 1)) (lf 1 (i_sw [(0, 28), (1, 35)] 42))) (nd 29 (lf 28 (i_ald 0 29)) (lf 29 (i_get 1 4 32)))) (nd 34 (nd 33 (lf 32 (i_ild 1 33)) (lf 33 (i_iald 34))) (nd 35 (lf 34 (i_iret Q)) (lf 35 (i_ald 0 36))))) (nd 42 (nd 40 (nd 39 (lf 36 (i_get 1 3 39)) (lf 39 (i_ild 1 40))) (nd 41 (lf 40 (i_iald 41)) (lf 41 (i_iret Q)))) (nd 45 (nd 43 (lf 42 (i_ald 0 43)) (lf 43 (i_ic 8 45))) (nd 48 (lf 45 (i_cV 1 1 S1_thoseIn 48)) (lf 48 (i_iret Q)))))
def C1_rowPart : List Nat := []
theorem x1_rowPart_0 : wpn (T1_rowPart Q S1_thoseIn) C1_rowPart (m + 1) K (0, L, s, h) = i_ild 2 1 (wpn (T1_rowPart Q S1_thoseIn) C1_rowPart m K) L s h := rfl
theorem x1_rowPart_1 : wpn (T1_rowPart Q S1_thoseIn) C1_rowPart (m + 1) K (1, L, s, h) = i_sw [(0, 28), (1, 35)] 42 (wpn (T1_rowPart Q S1_thoseIn) C1_rowPart m K) L s h := rfl
theorem x1_rowPart_28 : wpn (T1_rowPart Q S1_thoseIn) C1_rowPart (m + 1) K (28, L, s, h) = i_ald 0 29 (wpn (T1_rowPart Q S1_thoseIn) C1_rowPart m K) L s h := rfl
theorem x1_rowPart_29 : wpn (T1_rowPart Q S1_thoseIn) C1_rowPart (m + 1) K (29, L, s, h) = i_get 1 4 32 (wpn (T1_rowPart Q S1_thoseIn) C1_rowPart m K) L s h := rfl
theorem x1_rowPart_32 : wpn (T1_rowPart Q S1_thoseIn) C1_rowPart (m + 1) K (32, L, s, h) = i_ild 1 33 (wpn (T1_rowPart Q S1_thoseIn) C1_rowPart m K) L s h := rfl
theorem x1_rowPart_33 : wpn (T1_rowPart Q S1_thoseIn) C1_rowPart (m + 1) K (33, L, s, h) = i_iald 34 (wpn (T1_rowPart Q S1_thoseIn) C1_rowPart m K) L s h := rfl
theorem x1_rowPart_34 : wpn (T1_rowPart Q S1_thoseIn) C1_rowPart (m + 1) K (34, L, s, h) = i_iret Q (wpn (T1_rowPart Q S1_thoseIn) C1_rowPart m K) L s h := rfl
theorem x1_rowPart_35 : wpn (T1_rowPart Q S1_thoseIn) C1_rowPart (m + 1) K (35, L, s, h) = i_ald 0 36 (wpn (T1_rowPart Q S1_thoseIn) C1_rowPart m K) L s h := rfl
theorem x1_rowPart_36 : wpn (T1_rowPart Q S1_thoseIn) C1_rowPart (m + 1) K (36, L, s, h) = i_get 1 3 39 (wpn (T1_rowPart Q S1_thoseIn) C1_rowPart m K) L s h := rfl
theorem x1_rowPart_39 : wpn (T1_rowPart Q S1_thoseIn) C1_rowPart (m + 1) K (39, L, s, h) = i_ild 1 40 (wpn (T1_rowPart Q S1_thoseIn) C1_rowPart m K) L s h := rfl
theorem x1_rowPart_40 : wpn (T1_rowPart Q S1_thoseIn) C1_rowPart (m + 1) K (40, L, s, h) = i_iald 41 (wpn (T1_rowPart Q S1_thoseIn) C1_rowPart m K) L s h := rfl
theorem x1_rowPart_41 : wpn (T1_rowPart Q S1_thoseIn) C1_rowPart (m + 1) K (41, L, s, h) = i_iret Q (wpn (T1_rowPart Q S1_thoseIn) C1_rowPart m K) L s h := rfl
theorem x1_rowPart_42 : wpn (T1_rowPart Q S1_thoseIn) C1_rowPart (m + 1) K (42, L, s, h) = i_ald 0 43 (wpn (T1_rowPart Q S1_thoseIn) C1_rowPart m K) L s h := rfl
theorem x1_rowPart_43 : wpn (T1_rowPart Q S1_thoseIn) C1_rowPart (m + 1) K (43, L, s, h) = i_ic 8 45 (wpn (T1_rowPart Q S1_thoseIn) C1_rowPart m K) L s h := rfl
theorem x1_rowPart_45 : wpn (T1_rowPart Q S1_thoseIn) C1_rowPart (m + 1) K (45, L, s, h) = i_cV 1 1 S1_thoseIn 48 (wpn (T1_rowPart Q S1_thoseIn) C1_rowPart m K) L s h := rfl
theorem x1_rowPart_48 : wpn (T1_rowPart Q S1_thoseIn) C1_rowPart (m + 1) K (48, L, s, h) = i_iret Q (wpn (T1_rowPart Q S1_thoseIn) C1_rowPart m K) L s h := rfl
def T1_thoseIn (Q : Po) : Nat → Tr := nd 18 (nd 6 (nd 3 (nd 1 (lf 0 (i_ic 0 1)) (nd 2 (lf 1 (i_ist 2 2)) (lf 2 (i_ic 0 3)))) (nd 4 (lf 3 (i_ist 3 4)) (nd 5 (lf 4 (i_ild 3 5)) (lf 5 (i_ald 0 6))))) (nd 13 (nd 9 (lf 6 (i_get 1 6 9)) (nd 12 (lf 9 (i_ic_ge 34 12)) (lf 12 (i_ald 0 13)))) (nd 16 (lf 13 (i_get 1 4 16)) (nd 17 (lf 16 (i_ild 3 17)) (lf 17 (i_iald 18)))))) (nd 26 (nd 23 (nd 19 (lf 18 (i_ild 1 19)) (nd 22 (lf 19 (i_ic_ne 28 22)) (lf 22 (i_ild 2 23)))) (nd 24 (lf 23 (i_ic 1 24)) (nd 25 (lf 24 (i_ild 3 25)) (lf 25 (i_ishl 26))))) (nd 31 (nd 27 (lf 26 (i_ior 27)) (nd 28 (lf 27 (i_ist 2 28)) (lf 28 (i_inc 3 1 31)))) (nd 34 (lf 31 (i_goto 4)) (nd 35 (lf 34 (i_ild 2 35)) (lf 35 (i_iret Q))))))
def C1_thoseIn : List Nat := [4]
theorem x1_thoseIn_0 : wpn (T1_thoseIn Q) C1_thoseIn (m + 1) K (0, L, s, h) = i_ic 0 1 (wpn (T1_thoseIn Q) C1_thoseIn m K) L s h := rfl
theorem x1_thoseIn_1 : wpn (T1_thoseIn Q) C1_thoseIn (m + 1) K (1, L, s, h) = i_ist 2 2 (wpn (T1_thoseIn Q) C1_thoseIn m K) L s h := rfl
theorem x1_thoseIn_2 : wpn (T1_thoseIn Q) C1_thoseIn (m + 1) K (2, L, s, h) = i_ic 0 3 (wpn (T1_thoseIn Q) C1_thoseIn m K) L s h := rfl
theorem x1_thoseIn_3 : wpn (T1_thoseIn Q) C1_thoseIn (m + 1) K (3, L, s, h) = i_ist 3 4 (wpn (T1_thoseIn Q) C1_thoseIn m K) L s h := rfl
theorem k1_thoseIn_4 : wpn (T1_thoseIn Q) C1_thoseIn (m + 1) K (4, L, s, h) = K (4, L, s, h) := rfl
theorem t1_thoseIn_4 : T1_thoseIn Q 4 = i_ild 3 5 := rfl
theorem x1_thoseIn_5 : wpn (T1_thoseIn Q) C1_thoseIn (m + 1) K (5, L, s, h) = i_ald 0 6 (wpn (T1_thoseIn Q) C1_thoseIn m K) L s h := rfl
theorem x1_thoseIn_6 : wpn (T1_thoseIn Q) C1_thoseIn (m + 1) K (6, L, s, h) = i_get 1 6 9 (wpn (T1_thoseIn Q) C1_thoseIn m K) L s h := rfl
theorem x1_thoseIn_9 : wpn (T1_thoseIn Q) C1_thoseIn (m + 1) K (9, L, s, h) = i_ic_ge 34 12 (wpn (T1_thoseIn Q) C1_thoseIn m K) L s h := rfl
theorem x1_thoseIn_12 : wpn (T1_thoseIn Q) C1_thoseIn (m + 1) K (12, L, s, h) = i_ald 0 13 (wpn (T1_thoseIn Q) C1_thoseIn m K) L s h := rfl
theorem x1_thoseIn_13 : wpn (T1_thoseIn Q) C1_thoseIn (m + 1) K (13, L, s, h) = i_get 1 4 16 (wpn (T1_thoseIn Q) C1_thoseIn m K) L s h := rfl
theorem x1_thoseIn_16 : wpn (T1_thoseIn Q) C1_thoseIn (m + 1) K (16, L, s, h) = i_ild 3 17 (wpn (T1_thoseIn Q) C1_thoseIn m K) L s h := rfl
theorem x1_thoseIn_17 : wpn (T1_thoseIn Q) C1_thoseIn (m + 1) K (17, L, s, h) = i_iald 18 (wpn (T1_thoseIn Q) C1_thoseIn m K) L s h := rfl
theorem x1_thoseIn_18 : wpn (T1_thoseIn Q) C1_thoseIn (m + 1) K (18, L, s, h) = i_ild 1 19 (wpn (T1_thoseIn Q) C1_thoseIn m K) L s h := rfl
theorem x1_thoseIn_19 : wpn (T1_thoseIn Q) C1_thoseIn (m + 1) K (19, L, s, h) = i_ic_ne 28 22 (wpn (T1_thoseIn Q) C1_thoseIn m K) L s h := rfl
theorem x1_thoseIn_22 : wpn (T1_thoseIn Q) C1_thoseIn (m + 1) K (22, L, s, h) = i_ild 2 23 (wpn (T1_thoseIn Q) C1_thoseIn m K) L s h := rfl
theorem x1_thoseIn_23 : wpn (T1_thoseIn Q) C1_thoseIn (m + 1) K (23, L, s, h) = i_ic 1 24 (wpn (T1_thoseIn Q) C1_thoseIn m K) L s h := rfl
theorem x1_thoseIn_24 : wpn (T1_thoseIn Q) C1_thoseIn (m + 1) K (24, L, s, h) = i_ild 3 25 (wpn (T1_thoseIn Q) C1_thoseIn m K) L s h := rfl
theorem x1_thoseIn_25 : wpn (T1_thoseIn Q) C1_thoseIn (m + 1) K (25, L, s, h) = i_ishl 26 (wpn (T1_thoseIn Q) C1_thoseIn m K) L s h := rfl
theorem x1_thoseIn_26 : wpn (T1_thoseIn Q) C1_thoseIn (m + 1) K (26, L, s, h) = i_ior 27 (wpn (T1_thoseIn Q) C1_thoseIn m K) L s h := rfl
theorem x1_thoseIn_27 : wpn (T1_thoseIn Q) C1_thoseIn (m + 1) K (27, L, s, h) = i_ist 2 28 (wpn (T1_thoseIn Q) C1_thoseIn m K) L s h := rfl
theorem x1_thoseIn_28 : wpn (T1_thoseIn Q) C1_thoseIn (m + 1) K (28, L, s, h) = i_inc 3 1 31 (wpn (T1_thoseIn Q) C1_thoseIn m K) L s h := rfl
theorem x1_thoseIn_31 : wpn (T1_thoseIn Q) C1_thoseIn (m + 1) K (31, L, s, h) = i_goto 4 (wpn (T1_thoseIn Q) C1_thoseIn m K) L s h := rfl
theorem x1_thoseIn_34 : wpn (T1_thoseIn Q) C1_thoseIn (m + 1) K (34, L, s, h) = i_ild 2 35 (wpn (T1_thoseIn Q) C1_thoseIn m K) L s h := rfl
theorem x1_thoseIn_35 : wpn (T1_thoseIn Q) C1_thoseIn (m + 1) K (35, L, s, h) = i_iret Q (wpn (T1_thoseIn Q) C1_thoseIn m K) L s h := rfl
def T1_countOut (Q : Po) (S1_thoseIn SJ6_bitCount : Sp) : Nat → Tr := nd 3 (nd 1 (lf 0 (i_ald 0 1)) (lf 1 (i_ic 8 3))) (nd 6 (lf 3 (i_cV 1 1 S1_thoseIn 6)) (nd 9 (lf 6 (i_cS 1 SJ6_bitCount 9)) (lf 9 (i_iret Q))))
def C1_countOut : List Nat := []
theorem x1_countOut_0 : wpn (T1_countOut Q S1_thoseIn SJ6_bitCount) C1_countOut (m + 1) K (0, L, s, h) = i_ald 0 1 (wpn (T1_countOut Q S1_thoseIn SJ6_bitCount) C1_countOut m K) L s h := rfl
theorem x1_countOut_1 : wpn (T1_countOut Q S1_thoseIn SJ6_bitCount) C1_countOut (m + 1) K (1, L, s, h) = i_ic 8 3 (wpn (T1_countOut Q S1_thoseIn SJ6_bitCount) C1_countOut m K) L s h := rfl
theorem x1_countOut_3 : wpn (T1_countOut Q S1_thoseIn SJ6_bitCount) C1_countOut (m + 1) K (3, L, s, h) = i_cV 1 1 S1_thoseIn 6 (wpn (T1_countOut Q S1_thoseIn SJ6_bitCount) C1_countOut m K) L s h := rfl
theorem x1_countOut_6 : wpn (T1_countOut Q S1_thoseIn SJ6_bitCount) C1_countOut (m + 1) K (6, L, s, h) = i_cS 1 SJ6_bitCount 9 (wpn (T1_countOut Q S1_thoseIn SJ6_bitCount) C1_countOut m K) L s h := rfl
theorem x1_countOut_9 : wpn (T1_countOut Q S1_thoseIn SJ6_bitCount) C1_countOut (m + 1) K (9, L, s, h) = i_iret Q (wpn (T1_countOut Q S1_thoseIn SJ6_bitCount) C1_countOut m K) L s h := rfl
def T1_thoseHeld (Q : Po) (S1_isHeld : Sp) : Nat → Tr := nd 17 (nd 5 (nd 2 (nd 1 (lf 0 (i_ic 0 1)) (lf 1 (i_ist 1 2))) (nd 3 (lf 2 (i_ic 0 3)) (nd 4 (lf 3 (i_ist 2 4)) (lf 4 (i_ild 2 5))))) (nd 12 (nd 6 (lf 5 (i_ald 0 6)) (nd 9 (lf 6 (i_get 1 6 9)) (lf 9 (i_ic_ge 32 12)))) (nd 13 (lf 12 (i_ald 0 13)) (nd 14 (lf 13 (i_ild 2 14)) (lf 14 (i_cV 1 1 S1_isHeld 17)))))) (nd 24 (nd 21 (nd 20 (lf 17 (i_if_eq 26 20)) (lf 20 (i_ild 1 21))) (nd 22 (lf 21 (i_ic 1 22)) (nd 23 (lf 22 (i_ild 2 23)) (lf 23 (i_ishl 24))))) (nd 29 (nd 25 (lf 24 (i_ior 25)) (nd 26 (lf 25 (i_ist 1 26)) (lf 26 (i_inc 2 1 29)))) (nd 32 (lf 29 (i_goto 4)) (nd 33 (lf 32 (i_ild 1 33)) (lf 33 (i_iret Q))))))
def C1_thoseHeld : List Nat := [4]
theorem x1_thoseHeld_0 : wpn (T1_thoseHeld Q S1_isHeld) C1_thoseHeld (m + 1) K (0, L, s, h) = i_ic 0 1 (wpn (T1_thoseHeld Q S1_isHeld) C1_thoseHeld m K) L s h := rfl
theorem x1_thoseHeld_1 : wpn (T1_thoseHeld Q S1_isHeld) C1_thoseHeld (m + 1) K (1, L, s, h) = i_ist 1 2 (wpn (T1_thoseHeld Q S1_isHeld) C1_thoseHeld m K) L s h := rfl
theorem x1_thoseHeld_2 : wpn (T1_thoseHeld Q S1_isHeld) C1_thoseHeld (m + 1) K (2, L, s, h) = i_ic 0 3 (wpn (T1_thoseHeld Q S1_isHeld) C1_thoseHeld m K) L s h := rfl
theorem x1_thoseHeld_3 : wpn (T1_thoseHeld Q S1_isHeld) C1_thoseHeld (m + 1) K (3, L, s, h) = i_ist 2 4 (wpn (T1_thoseHeld Q S1_isHeld) C1_thoseHeld m K) L s h := rfl
theorem k1_thoseHeld_4 : wpn (T1_thoseHeld Q S1_isHeld) C1_thoseHeld (m + 1) K (4, L, s, h) = K (4, L, s, h) := rfl
theorem t1_thoseHeld_4 : T1_thoseHeld Q S1_isHeld 4 = i_ild 2 5 := rfl
theorem x1_thoseHeld_5 : wpn (T1_thoseHeld Q S1_isHeld) C1_thoseHeld (m + 1) K (5, L, s, h) = i_ald 0 6 (wpn (T1_thoseHeld Q S1_isHeld) C1_thoseHeld m K) L s h := rfl
theorem x1_thoseHeld_6 : wpn (T1_thoseHeld Q S1_isHeld) C1_thoseHeld (m + 1) K (6, L, s, h) = i_get 1 6 9 (wpn (T1_thoseHeld Q S1_isHeld) C1_thoseHeld m K) L s h := rfl
theorem x1_thoseHeld_9 : wpn (T1_thoseHeld Q S1_isHeld) C1_thoseHeld (m + 1) K (9, L, s, h) = i_ic_ge 32 12 (wpn (T1_thoseHeld Q S1_isHeld) C1_thoseHeld m K) L s h := rfl
theorem x1_thoseHeld_12 : wpn (T1_thoseHeld Q S1_isHeld) C1_thoseHeld (m + 1) K (12, L, s, h) = i_ald 0 13 (wpn (T1_thoseHeld Q S1_isHeld) C1_thoseHeld m K) L s h := rfl
theorem x1_thoseHeld_13 : wpn (T1_thoseHeld Q S1_isHeld) C1_thoseHeld (m + 1) K (13, L, s, h) = i_ild 2 14 (wpn (T1_thoseHeld Q S1_isHeld) C1_thoseHeld m K) L s h := rfl
theorem x1_thoseHeld_14 : wpn (T1_thoseHeld Q S1_isHeld) C1_thoseHeld (m + 1) K (14, L, s, h) = i_cV 1 1 S1_isHeld 17 (wpn (T1_thoseHeld Q S1_isHeld) C1_thoseHeld m K) L s h := rfl
theorem x1_thoseHeld_17 : wpn (T1_thoseHeld Q S1_isHeld) C1_thoseHeld (m + 1) K (17, L, s, h) = i_if_eq 26 20 (wpn (T1_thoseHeld Q S1_isHeld) C1_thoseHeld m K) L s h := rfl
theorem x1_thoseHeld_20 : wpn (T1_thoseHeld Q S1_isHeld) C1_thoseHeld (m + 1) K (20, L, s, h) = i_ild 1 21 (wpn (T1_thoseHeld Q S1_isHeld) C1_thoseHeld m K) L s h := rfl
theorem x1_thoseHeld_21 : wpn (T1_thoseHeld Q S1_isHeld) C1_thoseHeld (m + 1) K (21, L, s, h) = i_ic 1 22 (wpn (T1_thoseHeld Q S1_isHeld) C1_thoseHeld m K) L s h := rfl
theorem x1_thoseHeld_22 : wpn (T1_thoseHeld Q S1_isHeld) C1_thoseHeld (m + 1) K (22, L, s, h) = i_ild 2 23 (wpn (T1_thoseHeld Q S1_isHeld) C1_thoseHeld m K) L s h := rfl
theorem x1_thoseHeld_23 : wpn (T1_thoseHeld Q S1_isHeld) C1_thoseHeld (m + 1) K (23, L, s, h) = i_ishl 24 (wpn (T1_thoseHeld Q S1_isHeld) C1_thoseHeld m K) L s h := rfl
theorem x1_thoseHeld_24 : wpn (T1_thoseHeld Q S1_isHeld) C1_thoseHeld (m + 1) K (24, L, s, h) = i_ior 25 (wpn (T1_thoseHeld Q S1_isHeld) C1_thoseHeld m K) L s h := rfl
theorem x1_thoseHeld_25 : wpn (T1_thoseHeld Q S1_isHeld) C1_thoseHeld (m + 1) K (25, L, s, h) = i_ist 1 26 (wpn (T1_thoseHeld Q S1_isHeld) C1_thoseHeld m K) L s h := rfl
theorem x1_thoseHeld_26 : wpn (T1_thoseHeld Q S1_isHeld) C1_thoseHeld (m + 1) K (26, L, s, h) = i_inc 2 1 29 (wpn (T1_thoseHeld Q S1_isHeld) C1_thoseHeld m K) L s h := rfl
theorem x1_thoseHeld_29 : wpn (T1_thoseHeld Q S1_isHeld) C1_thoseHeld (m + 1) K (29, L, s, h) = i_goto 4 (wpn (T1_thoseHeld Q S1_isHeld) C1_thoseHeld m K) L s h := rfl
theorem x1_thoseHeld_32 : wpn (T1_thoseHeld Q S1_isHeld) C1_thoseHeld (m + 1) K (32, L, s, h) = i_ild 1 33 (wpn (T1_thoseHeld Q S1_isHeld) C1_thoseHeld m K) L s h := rfl
theorem x1_thoseHeld_33 : wpn (T1_thoseHeld Q S1_isHeld) C1_thoseHeld (m + 1) K (33, L, s, h) = i_iret Q (wpn (T1_thoseHeld Q S1_isHeld) C1_thoseHeld m K) L s h := rfl
def T1_thoseWaiting (Q : Po) : Nat → Tr := nd 18 (nd 6 (nd 3 (nd 1 (lf 0 (i_ic 0 1)) (nd 2 (lf 1 (i_ist 1 2)) (lf 2 (i_ic 0 3)))) (nd 4 (lf 3 (i_ist 2 4)) (nd 5 (lf 4 (i_ild 2 5)) (lf 5 (i_ald 0 6))))) (nd 13 (nd 9 (lf 6 (i_get 1 6 9)) (nd 12 (lf 9 (i_ic_ge 34 12)) (lf 12 (i_ald 0 13)))) (nd 16 (lf 13 (i_get 1 5 16)) (nd 17 (lf 16 (i_ild 2 17)) (lf 17 (i_iald 18)))))) (nd 26 (nd 23 (nd 19 (lf 18 (i_ic (-1) 19)) (nd 22 (lf 19 (i_ic_eq 28 22)) (lf 22 (i_ild 1 23)))) (nd 24 (lf 23 (i_ic 1 24)) (nd 25 (lf 24 (i_ild 2 25)) (lf 25 (i_ishl 26))))) (nd 31 (nd 27 (lf 26 (i_ior 27)) (nd 28 (lf 27 (i_ist 1 28)) (lf 28 (i_inc 2 1 31)))) (nd 34 (lf 31 (i_goto 4)) (nd 35 (lf 34 (i_ild 1 35)) (lf 35 (i_iret Q))))))
def C1_thoseWaiting : List Nat := [4]
theorem x1_thoseWaiting_0 : wpn (T1_thoseWaiting Q) C1_thoseWaiting (m + 1) K (0, L, s, h) = i_ic 0 1 (wpn (T1_thoseWaiting Q) C1_thoseWaiting m K) L s h := rfl
theorem x1_thoseWaiting_1 : wpn (T1_thoseWaiting Q) C1_thoseWaiting (m + 1) K (1, L, s, h) = i_ist 1 2 (wpn (T1_thoseWaiting Q) C1_thoseWaiting m K) L s h := rfl
theorem x1_thoseWaiting_2 : wpn (T1_thoseWaiting Q) C1_thoseWaiting (m + 1) K (2, L, s, h) = i_ic 0 3 (wpn (T1_thoseWaiting Q) C1_thoseWaiting m K) L s h := rfl
theorem x1_thoseWaiting_3 : wpn (T1_thoseWaiting Q) C1_thoseWaiting (m + 1) K (3, L, s, h) = i_ist 2 4 (wpn (T1_thoseWaiting Q) C1_thoseWaiting m K) L s h := rfl
theorem k1_thoseWaiting_4 : wpn (T1_thoseWaiting Q) C1_thoseWaiting (m + 1) K (4, L, s, h) = K (4, L, s, h) := rfl
theorem t1_thoseWaiting_4 : T1_thoseWaiting Q 4 = i_ild 2 5 := rfl
theorem x1_thoseWaiting_5 : wpn (T1_thoseWaiting Q) C1_thoseWaiting (m + 1) K (5, L, s, h) = i_ald 0 6 (wpn (T1_thoseWaiting Q) C1_thoseWaiting m K) L s h := rfl
theorem x1_thoseWaiting_6 : wpn (T1_thoseWaiting Q) C1_thoseWaiting (m + 1) K (6, L, s, h) = i_get 1 6 9 (wpn (T1_thoseWaiting Q) C1_thoseWaiting m K) L s h := rfl
theorem x1_thoseWaiting_9 : wpn (T1_thoseWaiting Q) C1_thoseWaiting (m + 1) K (9, L, s, h) = i_ic_ge 34 12 (wpn (T1_thoseWaiting Q) C1_thoseWaiting m K) L s h := rfl
theorem x1_thoseWaiting_12 : wpn (T1_thoseWaiting Q) C1_thoseWaiting (m + 1) K (12, L, s, h) = i_ald 0 13 (wpn (T1_thoseWaiting Q) C1_thoseWaiting m K) L s h := rfl
theorem x1_thoseWaiting_13 : wpn (T1_thoseWaiting Q) C1_thoseWaiting (m + 1) K (13, L, s, h) = i_get 1 5 16 (wpn (T1_thoseWaiting Q) C1_thoseWaiting m K) L s h := rfl
theorem x1_thoseWaiting_16 : wpn (T1_thoseWaiting Q) C1_thoseWaiting (m + 1) K (16, L, s, h) = i_ild 2 17 (wpn (T1_thoseWaiting Q) C1_thoseWaiting m K) L s h := rfl
theorem x1_thoseWaiting_17 : wpn (T1_thoseWaiting Q) C1_thoseWaiting (m + 1) K (17, L, s, h) = i_iald 18 (wpn (T1_thoseWaiting Q) C1_thoseWaiting m K) L s h := rfl
theorem x1_thoseWaiting_18 : wpn (T1_thoseWaiting Q) C1_thoseWaiting (m + 1) K (18, L, s, h) = i_ic (-1) 19 (wpn (T1_thoseWaiting Q) C1_thoseWaiting m K) L s h := rfl
theorem x1_thoseWaiting_19 : wpn (T1_thoseWaiting Q) C1_thoseWaiting (m + 1) K (19, L, s, h) = i_ic_eq 28 22 (wpn (T1_thoseWaiting Q) C1_thoseWaiting m K) L s h := rfl
theorem x1_thoseWaiting_22 : wpn (T1_thoseWaiting Q) C1_thoseWaiting (m + 1) K (22, L, s, h) = i_ild 1 23 (wpn (T1_thoseWaiting Q) C1_thoseWaiting m K) L s h := rfl
theorem x1_thoseWaiting_23 : wpn (T1_thoseWaiting Q) C1_thoseWaiting (m + 1) K (23, L, s, h) = i_ic 1 24 (wpn (T1_thoseWaiting Q) C1_thoseWaiting m K) L s h := rfl
theorem x1_thoseWaiting_24 : wpn (T1_thoseWaiting Q) C1_thoseWaiting (m + 1) K (24, L, s, h) = i_ild 2 25 (wpn (T1_thoseWaiting Q) C1_thoseWaiting m K) L s h := rfl
theorem x1_thoseWaiting_25 : wpn (T1_thoseWaiting Q) C1_thoseWaiting (m + 1) K (25, L, s, h) = i_ishl 26 (wpn (T1_thoseWaiting Q) C1_thoseWaiting m K) L s h := rfl
theorem x1_thoseWaiting_26 : wpn (T1_thoseWaiting Q) C1_thoseWaiting (m + 1) K (26, L, s, h) = i_ior 27 (wpn (T1_thoseWaiting Q) C1_thoseWaiting m K) L s h := rfl
theorem x1_thoseWaiting_27 : wpn (T1_thoseWaiting Q) C1_thoseWaiting (m + 1) K (27, L, s, h) = i_ist 1 28 (wpn (T1_thoseWaiting Q) C1_thoseWaiting m K) L s h := rfl
theorem x1_thoseWaiting_28 : wpn (T1_thoseWaiting Q) C1_thoseWaiting (m + 1) K (28, L, s, h) = i_inc 2 1 31 (wpn (T1_thoseWaiting Q) C1_thoseWaiting m K) L s h := rfl
theorem x1_thoseWaiting_31 : wpn (T1_thoseWaiting Q) C1_thoseWaiting (m + 1) K (31, L, s, h) = i_goto 4 (wpn (T1_thoseWaiting Q) C1_thoseWaiting m K) L s h := rfl
theorem x1_thoseWaiting_34 : wpn (T1_thoseWaiting Q) C1_thoseWaiting (m + 1) K (34, L, s, h) = i_ild 1 35 (wpn (T1_thoseWaiting Q) C1_thoseWaiting m K) L s h := rfl
theorem x1_thoseWaiting_35 : wpn (T1_thoseWaiting Q) C1_thoseWaiting (m + 1) K (35, L, s, h) = i_iret Q (wpn (T1_thoseWaiting Q) C1_thoseWaiting m K) L s h := rfl
def T1_ringFrom (Q : Po) (S1_has : Sp) : Nat → Tr := nd 36 (nd 18 (nd 5 (nd 2 (nd 1 (lf 0 (i_ild 1 1)) (lf 1 (i_ist 2 2))) (nd 3 (lf 2 (i_ic 0 3)) (nd 4 (lf 3 (i_ist 3 4)) (lf 4 (i_ild 3 5))))) (nd 11 (nd 7 (lf 5 (i_ic 8 7)) (nd 10 (lf 7 (i_ic_ge 31 10)) (lf 10 (i_ald 0 11)))) (nd 12 (lf 11 (i_ild 2 12)) (nd 15 (lf 12 (i_cV 1 1 S1_has 15)) (lf 15 (i_if_eq 31 18)))))) (nd 25 (nd 22 (nd 19 (lf 18 (i_ald 0 19)) (lf 19 (i_get 1 5 22))) (nd 23 (lf 22 (i_ild 2 23)) (nd 24 (lf 23 (i_iald 24)) (lf 24 (i_ist 2 25))))) (nd 32 (nd 28 (lf 25 (i_inc 3 1 28)) (nd 31 (lf 28 (i_goto 4)) (lf 31 (i_ic 0 32)))) (nd 33 (lf 32 (i_ist 3 33)) (nd 34 (lf 33 (i_ic 0 34)) (lf 34 (i_ist 4 36))))))) (nd 55 (nd 45 (nd 40 (nd 38 (lf 36 (i_ild 4 38)) (lf 38 (i_ic 8 40))) (nd 43 (lf 40 (i_ic_ge 70 43)) (nd 44 (lf 43 (i_ald 0 44)) (lf 44 (i_ild 2 45))))) (nd 52 (nd 48 (lf 45 (i_cV 1 1 S1_has 48)) (nd 51 (lf 48 (i_if_eq 70 51)) (lf 51 (i_ild 3 52)))) (nd 53 (lf 52 (i_ic 1 53)) (nd 54 (lf 53 (i_ild 2 54)) (lf 54 (i_ishl 55)))))) (nd 62 (nd 57 (nd 56 (lf 55 (i_ior 56)) (lf 56 (i_ist 3 57))) (nd 58 (lf 57 (i_ald 0 58)) (nd 61 (lf 58 (i_get 1 5 61)) (lf 61 (i_ild 2 62))))) (nd 67 (nd 63 (lf 62 (i_iald 63)) (nd 64 (lf 63 (i_ist 2 64)) (lf 64 (i_inc 4 1 67)))) (nd 70 (lf 67 (i_goto 36)) (nd 71 (lf 70 (i_ild 3 71)) (lf 71 (i_iret Q)))))))
def C1_ringFrom : List Nat := [4, 36]
theorem x1_ringFrom_0 : wpn (T1_ringFrom Q S1_has) C1_ringFrom (m + 1) K (0, L, s, h) = i_ild 1 1 (wpn (T1_ringFrom Q S1_has) C1_ringFrom m K) L s h := rfl
theorem x1_ringFrom_1 : wpn (T1_ringFrom Q S1_has) C1_ringFrom (m + 1) K (1, L, s, h) = i_ist 2 2 (wpn (T1_ringFrom Q S1_has) C1_ringFrom m K) L s h := rfl
theorem x1_ringFrom_2 : wpn (T1_ringFrom Q S1_has) C1_ringFrom (m + 1) K (2, L, s, h) = i_ic 0 3 (wpn (T1_ringFrom Q S1_has) C1_ringFrom m K) L s h := rfl
theorem x1_ringFrom_3 : wpn (T1_ringFrom Q S1_has) C1_ringFrom (m + 1) K (3, L, s, h) = i_ist 3 4 (wpn (T1_ringFrom Q S1_has) C1_ringFrom m K) L s h := rfl
theorem k1_ringFrom_4 : wpn (T1_ringFrom Q S1_has) C1_ringFrom (m + 1) K (4, L, s, h) = K (4, L, s, h) := rfl
theorem t1_ringFrom_4 : T1_ringFrom Q S1_has 4 = i_ild 3 5 := rfl
theorem x1_ringFrom_5 : wpn (T1_ringFrom Q S1_has) C1_ringFrom (m + 1) K (5, L, s, h) = i_ic 8 7 (wpn (T1_ringFrom Q S1_has) C1_ringFrom m K) L s h := rfl
theorem x1_ringFrom_7 : wpn (T1_ringFrom Q S1_has) C1_ringFrom (m + 1) K (7, L, s, h) = i_ic_ge 31 10 (wpn (T1_ringFrom Q S1_has) C1_ringFrom m K) L s h := rfl
theorem x1_ringFrom_10 : wpn (T1_ringFrom Q S1_has) C1_ringFrom (m + 1) K (10, L, s, h) = i_ald 0 11 (wpn (T1_ringFrom Q S1_has) C1_ringFrom m K) L s h := rfl
theorem x1_ringFrom_11 : wpn (T1_ringFrom Q S1_has) C1_ringFrom (m + 1) K (11, L, s, h) = i_ild 2 12 (wpn (T1_ringFrom Q S1_has) C1_ringFrom m K) L s h := rfl
theorem x1_ringFrom_12 : wpn (T1_ringFrom Q S1_has) C1_ringFrom (m + 1) K (12, L, s, h) = i_cV 1 1 S1_has 15 (wpn (T1_ringFrom Q S1_has) C1_ringFrom m K) L s h := rfl
theorem x1_ringFrom_15 : wpn (T1_ringFrom Q S1_has) C1_ringFrom (m + 1) K (15, L, s, h) = i_if_eq 31 18 (wpn (T1_ringFrom Q S1_has) C1_ringFrom m K) L s h := rfl
theorem x1_ringFrom_18 : wpn (T1_ringFrom Q S1_has) C1_ringFrom (m + 1) K (18, L, s, h) = i_ald 0 19 (wpn (T1_ringFrom Q S1_has) C1_ringFrom m K) L s h := rfl
theorem x1_ringFrom_19 : wpn (T1_ringFrom Q S1_has) C1_ringFrom (m + 1) K (19, L, s, h) = i_get 1 5 22 (wpn (T1_ringFrom Q S1_has) C1_ringFrom m K) L s h := rfl
theorem x1_ringFrom_22 : wpn (T1_ringFrom Q S1_has) C1_ringFrom (m + 1) K (22, L, s, h) = i_ild 2 23 (wpn (T1_ringFrom Q S1_has) C1_ringFrom m K) L s h := rfl
theorem x1_ringFrom_23 : wpn (T1_ringFrom Q S1_has) C1_ringFrom (m + 1) K (23, L, s, h) = i_iald 24 (wpn (T1_ringFrom Q S1_has) C1_ringFrom m K) L s h := rfl
theorem x1_ringFrom_24 : wpn (T1_ringFrom Q S1_has) C1_ringFrom (m + 1) K (24, L, s, h) = i_ist 2 25 (wpn (T1_ringFrom Q S1_has) C1_ringFrom m K) L s h := rfl
theorem x1_ringFrom_25 : wpn (T1_ringFrom Q S1_has) C1_ringFrom (m + 1) K (25, L, s, h) = i_inc 3 1 28 (wpn (T1_ringFrom Q S1_has) C1_ringFrom m K) L s h := rfl
theorem x1_ringFrom_28 : wpn (T1_ringFrom Q S1_has) C1_ringFrom (m + 1) K (28, L, s, h) = i_goto 4 (wpn (T1_ringFrom Q S1_has) C1_ringFrom m K) L s h := rfl
theorem x1_ringFrom_31 : wpn (T1_ringFrom Q S1_has) C1_ringFrom (m + 1) K (31, L, s, h) = i_ic 0 32 (wpn (T1_ringFrom Q S1_has) C1_ringFrom m K) L s h := rfl
theorem x1_ringFrom_32 : wpn (T1_ringFrom Q S1_has) C1_ringFrom (m + 1) K (32, L, s, h) = i_ist 3 33 (wpn (T1_ringFrom Q S1_has) C1_ringFrom m K) L s h := rfl
theorem x1_ringFrom_33 : wpn (T1_ringFrom Q S1_has) C1_ringFrom (m + 1) K (33, L, s, h) = i_ic 0 34 (wpn (T1_ringFrom Q S1_has) C1_ringFrom m K) L s h := rfl
theorem x1_ringFrom_34 : wpn (T1_ringFrom Q S1_has) C1_ringFrom (m + 1) K (34, L, s, h) = i_ist 4 36 (wpn (T1_ringFrom Q S1_has) C1_ringFrom m K) L s h := rfl
theorem k1_ringFrom_36 : wpn (T1_ringFrom Q S1_has) C1_ringFrom (m + 1) K (36, L, s, h) = K (36, L, s, h) := rfl
theorem t1_ringFrom_36 : T1_ringFrom Q S1_has 36 = i_ild 4 38 := rfl
theorem x1_ringFrom_38 : wpn (T1_ringFrom Q S1_has) C1_ringFrom (m + 1) K (38, L, s, h) = i_ic 8 40 (wpn (T1_ringFrom Q S1_has) C1_ringFrom m K) L s h := rfl
theorem x1_ringFrom_40 : wpn (T1_ringFrom Q S1_has) C1_ringFrom (m + 1) K (40, L, s, h) = i_ic_ge 70 43 (wpn (T1_ringFrom Q S1_has) C1_ringFrom m K) L s h := rfl
theorem x1_ringFrom_43 : wpn (T1_ringFrom Q S1_has) C1_ringFrom (m + 1) K (43, L, s, h) = i_ald 0 44 (wpn (T1_ringFrom Q S1_has) C1_ringFrom m K) L s h := rfl
theorem x1_ringFrom_44 : wpn (T1_ringFrom Q S1_has) C1_ringFrom (m + 1) K (44, L, s, h) = i_ild 2 45 (wpn (T1_ringFrom Q S1_has) C1_ringFrom m K) L s h := rfl
theorem x1_ringFrom_45 : wpn (T1_ringFrom Q S1_has) C1_ringFrom (m + 1) K (45, L, s, h) = i_cV 1 1 S1_has 48 (wpn (T1_ringFrom Q S1_has) C1_ringFrom m K) L s h := rfl
theorem x1_ringFrom_48 : wpn (T1_ringFrom Q S1_has) C1_ringFrom (m + 1) K (48, L, s, h) = i_if_eq 70 51 (wpn (T1_ringFrom Q S1_has) C1_ringFrom m K) L s h := rfl
theorem x1_ringFrom_51 : wpn (T1_ringFrom Q S1_has) C1_ringFrom (m + 1) K (51, L, s, h) = i_ild 3 52 (wpn (T1_ringFrom Q S1_has) C1_ringFrom m K) L s h := rfl
theorem x1_ringFrom_52 : wpn (T1_ringFrom Q S1_has) C1_ringFrom (m + 1) K (52, L, s, h) = i_ic 1 53 (wpn (T1_ringFrom Q S1_has) C1_ringFrom m K) L s h := rfl
theorem x1_ringFrom_53 : wpn (T1_ringFrom Q S1_has) C1_ringFrom (m + 1) K (53, L, s, h) = i_ild 2 54 (wpn (T1_ringFrom Q S1_has) C1_ringFrom m K) L s h := rfl
theorem x1_ringFrom_54 : wpn (T1_ringFrom Q S1_has) C1_ringFrom (m + 1) K (54, L, s, h) = i_ishl 55 (wpn (T1_ringFrom Q S1_has) C1_ringFrom m K) L s h := rfl
theorem x1_ringFrom_55 : wpn (T1_ringFrom Q S1_has) C1_ringFrom (m + 1) K (55, L, s, h) = i_ior 56 (wpn (T1_ringFrom Q S1_has) C1_ringFrom m K) L s h := rfl
theorem x1_ringFrom_56 : wpn (T1_ringFrom Q S1_has) C1_ringFrom (m + 1) K (56, L, s, h) = i_ist 3 57 (wpn (T1_ringFrom Q S1_has) C1_ringFrom m K) L s h := rfl
theorem x1_ringFrom_57 : wpn (T1_ringFrom Q S1_has) C1_ringFrom (m + 1) K (57, L, s, h) = i_ald 0 58 (wpn (T1_ringFrom Q S1_has) C1_ringFrom m K) L s h := rfl
theorem x1_ringFrom_58 : wpn (T1_ringFrom Q S1_has) C1_ringFrom (m + 1) K (58, L, s, h) = i_get 1 5 61 (wpn (T1_ringFrom Q S1_has) C1_ringFrom m K) L s h := rfl
theorem x1_ringFrom_61 : wpn (T1_ringFrom Q S1_has) C1_ringFrom (m + 1) K (61, L, s, h) = i_ild 2 62 (wpn (T1_ringFrom Q S1_has) C1_ringFrom m K) L s h := rfl
theorem x1_ringFrom_62 : wpn (T1_ringFrom Q S1_has) C1_ringFrom (m + 1) K (62, L, s, h) = i_iald 63 (wpn (T1_ringFrom Q S1_has) C1_ringFrom m K) L s h := rfl
theorem x1_ringFrom_63 : wpn (T1_ringFrom Q S1_has) C1_ringFrom (m + 1) K (63, L, s, h) = i_ist 2 64 (wpn (T1_ringFrom Q S1_has) C1_ringFrom m K) L s h := rfl
theorem x1_ringFrom_64 : wpn (T1_ringFrom Q S1_has) C1_ringFrom (m + 1) K (64, L, s, h) = i_inc 4 1 67 (wpn (T1_ringFrom Q S1_has) C1_ringFrom m K) L s h := rfl
theorem x1_ringFrom_67 : wpn (T1_ringFrom Q S1_has) C1_ringFrom (m + 1) K (67, L, s, h) = i_goto 36 (wpn (T1_ringFrom Q S1_has) C1_ringFrom m K) L s h := rfl
theorem x1_ringFrom_70 : wpn (T1_ringFrom Q S1_has) C1_ringFrom (m + 1) K (70, L, s, h) = i_ild 3 71 (wpn (T1_ringFrom Q S1_has) C1_ringFrom m K) L s h := rfl
theorem x1_ringFrom_71 : wpn (T1_ringFrom Q S1_has) C1_ringFrom (m + 1) K (71, L, s, h) = i_iret Q (wpn (T1_ringFrom Q S1_has) C1_ringFrom m K) L s h := rfl
def T1_allGrace (Q : Po) : Nat → Tr := nd 13 (nd 4 (nd 2 (nd 1 (lf 0 (i_ic 0 1)) (lf 1 (i_ist 1 2))) (nd 3 (lf 2 (i_ic 0 3)) (lf 3 (i_ist 2 4)))) (nd 6 (nd 5 (lf 4 (i_ild 2 5)) (lf 5 (i_ald 0 6))) (nd 9 (lf 6 (i_get 1 6 9)) (nd 12 (lf 9 (i_ic_ge 27 12)) (lf 12 (i_ild 1 13)))))) (nd 20 (nd 17 (nd 14 (lf 13 (i_ald 0 14)) (lf 14 (i_get 1 3 17))) (nd 18 (lf 17 (i_ild 2 18)) (nd 19 (lf 18 (i_iald 19)) (lf 19 (i_iadd 20))))) (nd 24 (nd 21 (lf 20 (i_ist 1 21)) (lf 21 (i_inc 2 1 24))) (nd 27 (lf 24 (i_goto 4)) (nd 28 (lf 27 (i_ild 1 28)) (lf 28 (i_iret Q))))))
def C1_allGrace : List Nat := [4]
theorem x1_allGrace_0 : wpn (T1_allGrace Q) C1_allGrace (m + 1) K (0, L, s, h) = i_ic 0 1 (wpn (T1_allGrace Q) C1_allGrace m K) L s h := rfl
theorem x1_allGrace_1 : wpn (T1_allGrace Q) C1_allGrace (m + 1) K (1, L, s, h) = i_ist 1 2 (wpn (T1_allGrace Q) C1_allGrace m K) L s h := rfl
theorem x1_allGrace_2 : wpn (T1_allGrace Q) C1_allGrace (m + 1) K (2, L, s, h) = i_ic 0 3 (wpn (T1_allGrace Q) C1_allGrace m K) L s h := rfl
theorem x1_allGrace_3 : wpn (T1_allGrace Q) C1_allGrace (m + 1) K (3, L, s, h) = i_ist 2 4 (wpn (T1_allGrace Q) C1_allGrace m K) L s h := rfl
theorem k1_allGrace_4 : wpn (T1_allGrace Q) C1_allGrace (m + 1) K (4, L, s, h) = K (4, L, s, h) := rfl
theorem t1_allGrace_4 : T1_allGrace Q 4 = i_ild 2 5 := rfl
theorem x1_allGrace_5 : wpn (T1_allGrace Q) C1_allGrace (m + 1) K (5, L, s, h) = i_ald 0 6 (wpn (T1_allGrace Q) C1_allGrace m K) L s h := rfl
theorem x1_allGrace_6 : wpn (T1_allGrace Q) C1_allGrace (m + 1) K (6, L, s, h) = i_get 1 6 9 (wpn (T1_allGrace Q) C1_allGrace m K) L s h := rfl
theorem x1_allGrace_9 : wpn (T1_allGrace Q) C1_allGrace (m + 1) K (9, L, s, h) = i_ic_ge 27 12 (wpn (T1_allGrace Q) C1_allGrace m K) L s h := rfl
theorem x1_allGrace_12 : wpn (T1_allGrace Q) C1_allGrace (m + 1) K (12, L, s, h) = i_ild 1 13 (wpn (T1_allGrace Q) C1_allGrace m K) L s h := rfl
theorem x1_allGrace_13 : wpn (T1_allGrace Q) C1_allGrace (m + 1) K (13, L, s, h) = i_ald 0 14 (wpn (T1_allGrace Q) C1_allGrace m K) L s h := rfl
theorem x1_allGrace_14 : wpn (T1_allGrace Q) C1_allGrace (m + 1) K (14, L, s, h) = i_get 1 3 17 (wpn (T1_allGrace Q) C1_allGrace m K) L s h := rfl
theorem x1_allGrace_17 : wpn (T1_allGrace Q) C1_allGrace (m + 1) K (17, L, s, h) = i_ild 2 18 (wpn (T1_allGrace Q) C1_allGrace m K) L s h := rfl
theorem x1_allGrace_18 : wpn (T1_allGrace Q) C1_allGrace (m + 1) K (18, L, s, h) = i_iald 19 (wpn (T1_allGrace Q) C1_allGrace m K) L s h := rfl
theorem x1_allGrace_19 : wpn (T1_allGrace Q) C1_allGrace (m + 1) K (19, L, s, h) = i_iadd 20 (wpn (T1_allGrace Q) C1_allGrace m K) L s h := rfl
theorem x1_allGrace_20 : wpn (T1_allGrace Q) C1_allGrace (m + 1) K (20, L, s, h) = i_ist 1 21 (wpn (T1_allGrace Q) C1_allGrace m K) L s h := rfl
theorem x1_allGrace_21 : wpn (T1_allGrace Q) C1_allGrace (m + 1) K (21, L, s, h) = i_inc 2 1 24 (wpn (T1_allGrace Q) C1_allGrace m K) L s h := rfl
theorem x1_allGrace_24 : wpn (T1_allGrace Q) C1_allGrace (m + 1) K (24, L, s, h) = i_goto 4 (wpn (T1_allGrace Q) C1_allGrace m K) L s h := rfl
theorem x1_allGrace_27 : wpn (T1_allGrace Q) C1_allGrace (m + 1) K (27, L, s, h) = i_ild 1 28 (wpn (T1_allGrace Q) C1_allGrace m K) L s h := rfl
theorem x1_allGrace_28 : wpn (T1_allGrace Q) C1_allGrace (m + 1) K (28, L, s, h) = i_iret Q (wpn (T1_allGrace Q) C1_allGrace m K) L s h := rfl
def T1_allRites (Q : Po) : Nat → Tr := nd 12 (nd 4 (nd 2 (nd 1 (lf 0 (i_ic 0 1)) (lf 1 (i_ist 1 2))) (nd 3 (lf 2 (i_ic 0 3)) (lf 3 (i_ist 2 4)))) (nd 7 (nd 5 (lf 4 (i_ild 2 5)) (lf 5 (i_ic 8 7))) (nd 10 (lf 7 (i_ic_ge 25 10)) (nd 11 (lf 10 (i_ild 1 11)) (lf 11 (i_ald 0 12)))))) (nd 18 (nd 16 (nd 15 (lf 12 (i_get 1 1 15)) (lf 15 (i_ild 2 16))) (nd 17 (lf 16 (i_iald 17)) (lf 17 (i_iadd 18)))) (nd 22 (nd 19 (lf 18 (i_ist 1 19)) (lf 19 (i_inc 2 1 22))) (nd 25 (lf 22 (i_goto 4)) (nd 26 (lf 25 (i_ild 1 26)) (lf 26 (i_iret Q))))))
def C1_allRites : List Nat := [4]
theorem x1_allRites_0 : wpn (T1_allRites Q) C1_allRites (m + 1) K (0, L, s, h) = i_ic 0 1 (wpn (T1_allRites Q) C1_allRites m K) L s h := rfl
theorem x1_allRites_1 : wpn (T1_allRites Q) C1_allRites (m + 1) K (1, L, s, h) = i_ist 1 2 (wpn (T1_allRites Q) C1_allRites m K) L s h := rfl
theorem x1_allRites_2 : wpn (T1_allRites Q) C1_allRites (m + 1) K (2, L, s, h) = i_ic 0 3 (wpn (T1_allRites Q) C1_allRites m K) L s h := rfl
theorem x1_allRites_3 : wpn (T1_allRites Q) C1_allRites (m + 1) K (3, L, s, h) = i_ist 2 4 (wpn (T1_allRites Q) C1_allRites m K) L s h := rfl
theorem k1_allRites_4 : wpn (T1_allRites Q) C1_allRites (m + 1) K (4, L, s, h) = K (4, L, s, h) := rfl
theorem t1_allRites_4 : T1_allRites Q 4 = i_ild 2 5 := rfl
theorem x1_allRites_5 : wpn (T1_allRites Q) C1_allRites (m + 1) K (5, L, s, h) = i_ic 8 7 (wpn (T1_allRites Q) C1_allRites m K) L s h := rfl
theorem x1_allRites_7 : wpn (T1_allRites Q) C1_allRites (m + 1) K (7, L, s, h) = i_ic_ge 25 10 (wpn (T1_allRites Q) C1_allRites m K) L s h := rfl
theorem x1_allRites_10 : wpn (T1_allRites Q) C1_allRites (m + 1) K (10, L, s, h) = i_ild 1 11 (wpn (T1_allRites Q) C1_allRites m K) L s h := rfl
theorem x1_allRites_11 : wpn (T1_allRites Q) C1_allRites (m + 1) K (11, L, s, h) = i_ald 0 12 (wpn (T1_allRites Q) C1_allRites m K) L s h := rfl
theorem x1_allRites_12 : wpn (T1_allRites Q) C1_allRites (m + 1) K (12, L, s, h) = i_get 1 1 15 (wpn (T1_allRites Q) C1_allRites m K) L s h := rfl
theorem x1_allRites_15 : wpn (T1_allRites Q) C1_allRites (m + 1) K (15, L, s, h) = i_ild 2 16 (wpn (T1_allRites Q) C1_allRites m K) L s h := rfl
theorem x1_allRites_16 : wpn (T1_allRites Q) C1_allRites (m + 1) K (16, L, s, h) = i_iald 17 (wpn (T1_allRites Q) C1_allRites m K) L s h := rfl
theorem x1_allRites_17 : wpn (T1_allRites Q) C1_allRites (m + 1) K (17, L, s, h) = i_iadd 18 (wpn (T1_allRites Q) C1_allRites m K) L s h := rfl
theorem x1_allRites_18 : wpn (T1_allRites Q) C1_allRites (m + 1) K (18, L, s, h) = i_ist 1 19 (wpn (T1_allRites Q) C1_allRites m K) L s h := rfl
theorem x1_allRites_19 : wpn (T1_allRites Q) C1_allRites (m + 1) K (19, L, s, h) = i_inc 2 1 22 (wpn (T1_allRites Q) C1_allRites m K) L s h := rfl
theorem x1_allRites_22 : wpn (T1_allRites Q) C1_allRites (m + 1) K (22, L, s, h) = i_goto 4 (wpn (T1_allRites Q) C1_allRites m K) L s h := rfl
theorem x1_allRites_25 : wpn (T1_allRites Q) C1_allRites (m + 1) K (25, L, s, h) = i_ild 1 26 (wpn (T1_allRites Q) C1_allRites m K) L s h := rfl
theorem x1_allRites_26 : wpn (T1_allRites Q) C1_allRites (m + 1) K (26, L, s, h) = i_iret Q (wpn (T1_allRites Q) C1_allRites m K) L s h := rfl
def T1_crowd (Q : Po) (S1_thoseIn SJ6_bitCount : Sp) : Nat → Tr := nd 18 (nd 7 (nd 4 (nd 2 (lf 0 (i_ic 8 2)) (nd 3 (lf 2 (i_ist 1 3)) (lf 3 (i_ic 0 4)))) (nd 5 (lf 4 (i_ist 2 5)) (nd 6 (lf 5 (i_ic 0 6)) (lf 6 (i_ist 3 7))))) (nd 13 (nd 8 (lf 7 (i_ild 3 8)) (nd 10 (lf 8 (i_ic 8 10)) (lf 10 (i_ic_ge 40 13)))) (nd 14 (lf 13 (i_ald 0 14)) (nd 15 (lf 14 (i_ild 3 15)) (lf 15 (i_cV 1 1 S1_thoseIn 18)))))) (nd 31 (nd 25 (nd 21 (lf 18 (i_cS 1 SJ6_bitCount 21)) (nd 23 (lf 21 (i_ist 4 23)) (lf 23 (i_ild 4 25)))) (nd 26 (lf 25 (i_ild 2 26)) (nd 29 (lf 26 (i_ic_le 34 29)) (lf 29 (i_ild 4 31))))) (nd 34 (nd 32 (lf 31 (i_ist 2 32)) (nd 33 (lf 32 (i_ild 3 33)) (lf 33 (i_ist 1 34)))) (nd 40 (nd 37 (lf 34 (i_inc 3 1 37)) (lf 37 (i_goto 7))) (nd 41 (lf 40 (i_ild 1 41)) (lf 41 (i_iret Q))))))
def C1_crowd : List Nat := [7]
theorem x1_crowd_0 : wpn (T1_crowd Q S1_thoseIn SJ6_bitCount) C1_crowd (m + 1) K (0, L, s, h) = i_ic 8 2 (wpn (T1_crowd Q S1_thoseIn SJ6_bitCount) C1_crowd m K) L s h := rfl
theorem x1_crowd_2 : wpn (T1_crowd Q S1_thoseIn SJ6_bitCount) C1_crowd (m + 1) K (2, L, s, h) = i_ist 1 3 (wpn (T1_crowd Q S1_thoseIn SJ6_bitCount) C1_crowd m K) L s h := rfl
theorem x1_crowd_3 : wpn (T1_crowd Q S1_thoseIn SJ6_bitCount) C1_crowd (m + 1) K (3, L, s, h) = i_ic 0 4 (wpn (T1_crowd Q S1_thoseIn SJ6_bitCount) C1_crowd m K) L s h := rfl
theorem x1_crowd_4 : wpn (T1_crowd Q S1_thoseIn SJ6_bitCount) C1_crowd (m + 1) K (4, L, s, h) = i_ist 2 5 (wpn (T1_crowd Q S1_thoseIn SJ6_bitCount) C1_crowd m K) L s h := rfl
theorem x1_crowd_5 : wpn (T1_crowd Q S1_thoseIn SJ6_bitCount) C1_crowd (m + 1) K (5, L, s, h) = i_ic 0 6 (wpn (T1_crowd Q S1_thoseIn SJ6_bitCount) C1_crowd m K) L s h := rfl
theorem x1_crowd_6 : wpn (T1_crowd Q S1_thoseIn SJ6_bitCount) C1_crowd (m + 1) K (6, L, s, h) = i_ist 3 7 (wpn (T1_crowd Q S1_thoseIn SJ6_bitCount) C1_crowd m K) L s h := rfl
theorem k1_crowd_7 : wpn (T1_crowd Q S1_thoseIn SJ6_bitCount) C1_crowd (m + 1) K (7, L, s, h) = K (7, L, s, h) := rfl
theorem t1_crowd_7 : T1_crowd Q S1_thoseIn SJ6_bitCount 7 = i_ild 3 8 := rfl
theorem x1_crowd_8 : wpn (T1_crowd Q S1_thoseIn SJ6_bitCount) C1_crowd (m + 1) K (8, L, s, h) = i_ic 8 10 (wpn (T1_crowd Q S1_thoseIn SJ6_bitCount) C1_crowd m K) L s h := rfl
theorem x1_crowd_10 : wpn (T1_crowd Q S1_thoseIn SJ6_bitCount) C1_crowd (m + 1) K (10, L, s, h) = i_ic_ge 40 13 (wpn (T1_crowd Q S1_thoseIn SJ6_bitCount) C1_crowd m K) L s h := rfl
theorem x1_crowd_13 : wpn (T1_crowd Q S1_thoseIn SJ6_bitCount) C1_crowd (m + 1) K (13, L, s, h) = i_ald 0 14 (wpn (T1_crowd Q S1_thoseIn SJ6_bitCount) C1_crowd m K) L s h := rfl
theorem x1_crowd_14 : wpn (T1_crowd Q S1_thoseIn SJ6_bitCount) C1_crowd (m + 1) K (14, L, s, h) = i_ild 3 15 (wpn (T1_crowd Q S1_thoseIn SJ6_bitCount) C1_crowd m K) L s h := rfl
theorem x1_crowd_15 : wpn (T1_crowd Q S1_thoseIn SJ6_bitCount) C1_crowd (m + 1) K (15, L, s, h) = i_cV 1 1 S1_thoseIn 18 (wpn (T1_crowd Q S1_thoseIn SJ6_bitCount) C1_crowd m K) L s h := rfl
theorem x1_crowd_18 : wpn (T1_crowd Q S1_thoseIn SJ6_bitCount) C1_crowd (m + 1) K (18, L, s, h) = i_cS 1 SJ6_bitCount 21 (wpn (T1_crowd Q S1_thoseIn SJ6_bitCount) C1_crowd m K) L s h := rfl
theorem x1_crowd_21 : wpn (T1_crowd Q S1_thoseIn SJ6_bitCount) C1_crowd (m + 1) K (21, L, s, h) = i_ist 4 23 (wpn (T1_crowd Q S1_thoseIn SJ6_bitCount) C1_crowd m K) L s h := rfl
theorem x1_crowd_23 : wpn (T1_crowd Q S1_thoseIn SJ6_bitCount) C1_crowd (m + 1) K (23, L, s, h) = i_ild 4 25 (wpn (T1_crowd Q S1_thoseIn SJ6_bitCount) C1_crowd m K) L s h := rfl
theorem x1_crowd_25 : wpn (T1_crowd Q S1_thoseIn SJ6_bitCount) C1_crowd (m + 1) K (25, L, s, h) = i_ild 2 26 (wpn (T1_crowd Q S1_thoseIn SJ6_bitCount) C1_crowd m K) L s h := rfl
theorem x1_crowd_26 : wpn (T1_crowd Q S1_thoseIn SJ6_bitCount) C1_crowd (m + 1) K (26, L, s, h) = i_ic_le 34 29 (wpn (T1_crowd Q S1_thoseIn SJ6_bitCount) C1_crowd m K) L s h := rfl
theorem x1_crowd_29 : wpn (T1_crowd Q S1_thoseIn SJ6_bitCount) C1_crowd (m + 1) K (29, L, s, h) = i_ild 4 31 (wpn (T1_crowd Q S1_thoseIn SJ6_bitCount) C1_crowd m K) L s h := rfl
theorem x1_crowd_31 : wpn (T1_crowd Q S1_thoseIn SJ6_bitCount) C1_crowd (m + 1) K (31, L, s, h) = i_ist 2 32 (wpn (T1_crowd Q S1_thoseIn SJ6_bitCount) C1_crowd m K) L s h := rfl
theorem x1_crowd_32 : wpn (T1_crowd Q S1_thoseIn SJ6_bitCount) C1_crowd (m + 1) K (32, L, s, h) = i_ild 3 33 (wpn (T1_crowd Q S1_thoseIn SJ6_bitCount) C1_crowd m K) L s h := rfl
theorem x1_crowd_33 : wpn (T1_crowd Q S1_thoseIn SJ6_bitCount) C1_crowd (m + 1) K (33, L, s, h) = i_ist 1 34 (wpn (T1_crowd Q S1_thoseIn SJ6_bitCount) C1_crowd m K) L s h := rfl
theorem x1_crowd_34 : wpn (T1_crowd Q S1_thoseIn SJ6_bitCount) C1_crowd (m + 1) K (34, L, s, h) = i_inc 3 1 37 (wpn (T1_crowd Q S1_thoseIn SJ6_bitCount) C1_crowd m K) L s h := rfl
theorem x1_crowd_37 : wpn (T1_crowd Q S1_thoseIn SJ6_bitCount) C1_crowd (m + 1) K (37, L, s, h) = i_goto 7 (wpn (T1_crowd Q S1_thoseIn SJ6_bitCount) C1_crowd m K) L s h := rfl
theorem x1_crowd_40 : wpn (T1_crowd Q S1_thoseIn SJ6_bitCount) C1_crowd (m + 1) K (40, L, s, h) = i_ild 1 41 (wpn (T1_crowd Q S1_thoseIn SJ6_bitCount) C1_crowd m K) L s h := rfl
theorem x1_crowd_41 : wpn (T1_crowd Q S1_thoseIn SJ6_bitCount) C1_crowd (m + 1) K (41, L, s, h) = i_iret Q (wpn (T1_crowd Q S1_thoseIn SJ6_bitCount) C1_crowd m K) L s h := rfl
end TB
