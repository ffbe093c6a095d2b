/-! step tables of the methods, printed by wip/gen_tables.py -/
section TB
variable {Q : Po} {m : Nat} {K : St → Prop} {L : Lo} {s : List Value} {h : Hp}
def T0_begin (Q : Po) : Nat → Tr := nd 10 (nd 5 (nd 1 (lf 0 (i_ald 0 1)) (nd 2 (lf 1 (i_ild 1 2)) (lf 2 (i_put 0 2 5)))) (nd 6 (lf 5 (i_ald 0 6)) (nd 7 (lf 6 (i_ild 2 7)) (lf 7 (i_put 0 3 10))))) (nd 15 (nd 11 (lf 10 (i_ald 0 11)) (nd 12 (lf 11 (i_ild 3 12)) (lf 12 (i_put 0 4 15)))) (nd 17 (nd 16 (lf 15 (i_ald 0 16)) (lf 16 (i_ic 0 17))) (nd 20 (lf 17 (i_putz 0 5 20)) (lf 20 (i_vret Q)))))
def C0_begin : List Nat := []
theorem x0_begin_0 : wpn (T0_begin Q) C0_begin (m + 1) K (0, L, s, h) = i_ald 0 1 (wpn (T0_begin Q) C0_begin m K) L s h := rfl
theorem x0_begin_1 : wpn (T0_begin Q) C0_begin (m + 1) K (1, L, s, h) = i_ild 1 2 (wpn (T0_begin Q) C0_begin m K) L s h := rfl
theorem x0_begin_2 : wpn (T0_begin Q) C0_begin (m + 1) K (2, L, s, h) = i_put 0 2 5 (wpn (T0_begin Q) C0_begin m K) L s h := rfl
theorem x0_begin_5 : wpn (T0_begin Q) C0_begin (m + 1) K (5, L, s, h) = i_ald 0 6 (wpn (T0_begin Q) C0_begin m K) L s h := rfl
theorem x0_begin_6 : wpn (T0_begin Q) C0_begin (m + 1) K (6, L, s, h) = i_ild 2 7 (wpn (T0_begin Q) C0_begin m K) L s h := rfl
theorem x0_begin_7 : wpn (T0_begin Q) C0_begin (m + 1) K (7, L, s, h) = i_put 0 3 10 (wpn (T0_begin Q) C0_begin m K) L s h := rfl
theorem x0_begin_10 : wpn (T0_begin Q) C0_begin (m + 1) K (10, L, s, h) = i_ald 0 11 (wpn (T0_begin Q) C0_begin m K) L s h := rfl
theorem x0_begin_11 : wpn (T0_begin Q) C0_begin (m + 1) K (11, L, s, h) = i_ild 3 12 (wpn (T0_begin Q) C0_begin m K) L s h := rfl
theorem x0_begin_12 : wpn (T0_begin Q) C0_begin (m + 1) K (12, L, s, h) = i_put 0 4 15 (wpn (T0_begin Q) C0_begin m K) L s h := rfl
theorem x0_begin_15 : wpn (T0_begin Q) C0_begin (m + 1) K (15, L, s, h) = i_ald 0 16 (wpn (T0_begin Q) C0_begin m K) L s h := rfl
theorem x0_begin_16 : wpn (T0_begin Q) C0_begin (m + 1) K (16, L, s, h) = i_ic 0 17 (wpn (T0_begin Q) C0_begin m K) L s h := rfl
theorem x0_begin_17 : wpn (T0_begin Q) C0_begin (m + 1) K (17, L, s, h) = i_putz 0 5 20 (wpn (T0_begin Q) C0_begin m K) L s h := rfl
theorem x0_begin_20 : wpn (T0_begin Q) C0_begin (m + 1) K (20, L, s, h) = i_vret Q (wpn (T0_begin Q) C0_begin m K) L s h := rfl
def T0_mark (Q : Po) : Nat → Tr := nd 17 (nd 9 (nd 4 (nd 1 (lf 0 (i_ald 0 1)) (lf 1 (i_get 0 1 4))) (nd 6 (lf 4 (i_ic 30 6)) (lf 6 (i_ic_ge 29 9)))) (nd 13 (nd 10 (lf 9 (i_ald 0 10)) (lf 10 (i_get 0 0 13))) (nd 14 (lf 13 (i_ald 0 14)) (lf 14 (i_get 0 1 17))))) (nd 21 (nd 19 (nd 18 (lf 17 (i_ild 1 18)) (lf 18 (i_iast 19))) (nd 20 (lf 19 (i_ald 0 20)) (lf 20 (i_dup 21)))) (nd 25 (nd 24 (lf 21 (i_get 0 1 24)) (lf 24 (i_ic 1 25))) (nd 26 (lf 25 (i_iadd 26)) (nd 29 (lf 26 (i_put 0 1 29)) (lf 29 (i_vret Q))))))
def C0_mark : List Nat := []
theorem x0_mark_0 : wpn (T0_mark Q) C0_mark (m + 1) K (0, L, s, h) = i_ald 0 1 (wpn (T0_mark Q) C0_mark m K) L s h := rfl
theorem x0_mark_1 : wpn (T0_mark Q) C0_mark (m + 1) K (1, L, s, h) = i_get 0 1 4 (wpn (T0_mark Q) C0_mark m K) L s h := rfl
theorem x0_mark_4 : wpn (T0_mark Q) C0_mark (m + 1) K (4, L, s, h) = i_ic 30 6 (wpn (T0_mark Q) C0_mark m K) L s h := rfl
theorem x0_mark_6 : wpn (T0_mark Q) C0_mark (m + 1) K (6, L, s, h) = i_ic_ge 29 9 (wpn (T0_mark Q) C0_mark m K) L s h := rfl
theorem x0_mark_9 : wpn (T0_mark Q) C0_mark (m + 1) K (9, L, s, h) = i_ald 0 10 (wpn (T0_mark Q) C0_mark m K) L s h := rfl
theorem x0_mark_10 : wpn (T0_mark Q) C0_mark (m + 1) K (10, L, s, h) = i_get 0 0 13 (wpn (T0_mark Q) C0_mark m K) L s h := rfl
theorem x0_mark_13 : wpn (T0_mark Q) C0_mark (m + 1) K (13, L, s, h) = i_ald 0 14 (wpn (T0_mark Q) C0_mark m K) L s h := rfl
theorem x0_mark_14 : wpn (T0_mark Q) C0_mark (m + 1) K (14, L, s, h) = i_get 0 1 17 (wpn (T0_mark Q) C0_mark m K) L s h := rfl
theorem x0_mark_17 : wpn (T0_mark Q) C0_mark (m + 1) K (17, L, s, h) = i_ild 1 18 (wpn (T0_mark Q) C0_mark m K) L s h := rfl
theorem x0_mark_18 : wpn (T0_mark Q) C0_mark (m + 1) K (18, L, s, h) = i_iast 19 (wpn (T0_mark Q) C0_mark m K) L s h := rfl
theorem x0_mark_19 : wpn (T0_mark Q) C0_mark (m + 1) K (19, L, s, h) = i_ald 0 20 (wpn (T0_mark Q) C0_mark m K) L s h := rfl
theorem x0_mark_20 : wpn (T0_mark Q) C0_mark (m + 1) K (20, L, s, h) = i_dup 21 (wpn (T0_mark Q) C0_mark m K) L s h := rfl
theorem x0_mark_21 : wpn (T0_mark Q) C0_mark (m + 1) K (21, L, s, h) = i_get 0 1 24 (wpn (T0_mark Q) C0_mark m K) L s h := rfl
theorem x0_mark_24 : wpn (T0_mark Q) C0_mark (m + 1) K (24, L, s, h) = i_ic 1 25 (wpn (T0_mark Q) C0_mark m K) L s h := rfl
theorem x0_mark_25 : wpn (T0_mark Q) C0_mark (m + 1) K (25, L, s, h) = i_iadd 26 (wpn (T0_mark Q) C0_mark m K) L s h := rfl
theorem x0_mark_26 : wpn (T0_mark Q) C0_mark (m + 1) K (26, L, s, h) = i_put 0 1 29 (wpn (T0_mark Q) C0_mark m K) L s h := rfl
theorem x0_mark_29 : wpn (T0_mark Q) C0_mark (m + 1) K (29, L, s, h) = i_vret Q (wpn (T0_mark Q) C0_mark m K) L s h := rfl
def T0_own (Q : Po) : Nat → Tr := nd 13 (nd 6 (nd 4 (nd 1 (lf 0 (i_ald 0 1)) (lf 1 (i_get 0 2 4))) (nd 5 (lf 4 (i_ic 4 5)) (lf 5 (i_imul 6)))) (nd 8 (nd 7 (lf 6 (i_ild 1 7)) (lf 7 (i_iadd 8))) (nd 9 (lf 8 (i_ist 2 9)) (nd 10 (lf 9 (i_ild 2 10)) (lf 10 (i_if_lt 29 13)))))) (nd 24 (nd 17 (nd 14 (lf 13 (i_ild 2 14)) (lf 14 (i_rc 93 17))) (nd 18 (lf 17 (i_alen 18)) (nd 21 (lf 18 (i_ic_ge 29 21)) (lf 21 (i_rc 93 24))))) (nd 26 (nd 25 (lf 24 (i_ild 2 25)) (lf 25 (i_iald 26))) (nd 29 (lf 26 (i_goto 30)) (nd 30 (lf 29 (i_ic 0 30)) (lf 30 (i_iret Q))))))
def C0_own : List Nat := []
theorem x0_own_0 : wpn (T0_own Q) C0_own (m + 1) K (0, L, s, h) = i_ald 0 1 (wpn (T0_own Q) C0_own m K) L s h := rfl
theorem x0_own_1 : wpn (T0_own Q) C0_own (m + 1) K (1, L, s, h) = i_get 0 2 4 (wpn (T0_own Q) C0_own m K) L s h := rfl
theorem x0_own_4 : wpn (T0_own Q) C0_own (m + 1) K (4, L, s, h) = i_ic 4 5 (wpn (T0_own Q) C0_own m K) L s h := rfl
theorem x0_own_5 : wpn (T0_own Q) C0_own (m + 1) K (5, L, s, h) = i_imul 6 (wpn (T0_own Q) C0_own m K) L s h := rfl
theorem x0_own_6 : wpn (T0_own Q) C0_own (m + 1) K (6, L, s, h) = i_ild 1 7 (wpn (T0_own Q) C0_own m K) L s h := rfl
theorem x0_own_7 : wpn (T0_own Q) C0_own (m + 1) K (7, L, s, h) = i_iadd 8 (wpn (T0_own Q) C0_own m K) L s h := rfl
theorem x0_own_8 : wpn (T0_own Q) C0_own (m + 1) K (8, L, s, h) = i_ist 2 9 (wpn (T0_own Q) C0_own m K) L s h := rfl
theorem x0_own_9 : wpn (T0_own Q) C0_own (m + 1) K (9, L, s, h) = i_ild 2 10 (wpn (T0_own Q) C0_own m K) L s h := rfl
theorem x0_own_10 : wpn (T0_own Q) C0_own (m + 1) K (10, L, s, h) = i_if_lt 29 13 (wpn (T0_own Q) C0_own m K) L s h := rfl
theorem x0_own_13 : wpn (T0_own Q) C0_own (m + 1) K (13, L, s, h) = i_ild 2 14 (wpn (T0_own Q) C0_own m K) L s h := rfl
theorem x0_own_14 : wpn (T0_own Q) C0_own (m + 1) K (14, L, s, h) = i_rc 93 17 (wpn (T0_own Q) C0_own m K) L s h := rfl
theorem x0_own_17 : wpn (T0_own Q) C0_own (m + 1) K (17, L, s, h) = i_alen 18 (wpn (T0_own Q) C0_own m K) L s h := rfl
theorem x0_own_18 : wpn (T0_own Q) C0_own (m + 1) K (18, L, s, h) = i_ic_ge 29 21 (wpn (T0_own Q) C0_own m K) L s h := rfl
theorem x0_own_21 : wpn (T0_own Q) C0_own (m + 1) K (21, L, s, h) = i_rc 93 24 (wpn (T0_own Q) C0_own m K) L s h := rfl
theorem x0_own_24 : wpn (T0_own Q) C0_own (m + 1) K (24, L, s, h) = i_ild 2 25 (wpn (T0_own Q) C0_own m K) L s h := rfl
theorem x0_own_25 : wpn (T0_own Q) C0_own (m + 1) K (25, L, s, h) = i_iald 26 (wpn (T0_own Q) C0_own m K) L s h := rfl
theorem x0_own_26 : wpn (T0_own Q) C0_own (m + 1) K (26, L, s, h) = i_goto 30 (wpn (T0_own Q) C0_own m K) L s h := rfl
theorem x0_own_29 : wpn (T0_own Q) C0_own (m + 1) K (29, L, s, h) = i_ic 0 30 (wpn (T0_own Q) C0_own m K) L s h := rfl
theorem x0_own_30 : wpn (T0_own Q) C0_own (m + 1) K (30, L, s, h) = i_iret Q (wpn (T0_own Q) C0_own m K) L s h := rfl
def T0_parted (Q : Po) : Nat → Tr := nd 14 (nd 8 (nd 4 (nd 1 (lf 0 (i_ald 0 1)) (lf 1 (i_get 0 4 4))) (nd 5 (lf 4 (i_ald 0 5)) (lf 5 (i_get 0 3 8)))) (nd 10 (nd 9 (lf 8 (i_isub 9)) (lf 9 (i_ist 2 10))) (nd 11 (lf 10 (i_ild 2 11)) (lf 11 (i_if_ne 21 14))))) (nd 20 (nd 16 (nd 15 (lf 14 (i_ald 0 15)) (lf 15 (i_ic 1 16))) (nd 19 (lf 16 (i_putz 0 5 19)) (lf 19 (i_ic 0 20)))) (nd 22 (nd 21 (lf 20 (i_iret Q)) (lf 21 (i_ild 1 22))) (nd 23 (lf 22 (i_ild 2 23)) (nd 24 (lf 23 (i_idiv 24)) (lf 24 (i_iret Q))))))
def C0_parted : List Nat := []
theorem x0_parted_0 : wpn (T0_parted Q) C0_parted (m + 1) K (0, L, s, h) = i_ald 0 1 (wpn (T0_parted Q) C0_parted m K) L s h := rfl
theorem x0_parted_1 : wpn (T0_parted Q) C0_parted (m + 1) K (1, L, s, h) = i_get 0 4 4 (wpn (T0_parted Q) C0_parted m K) L s h := rfl
theorem x0_parted_4 : wpn (T0_parted Q) C0_parted (m + 1) K (4, L, s, h) = i_ald 0 5 (wpn (T0_parted Q) C0_parted m K) L s h := rfl
theorem x0_parted_5 : wpn (T0_parted Q) C0_parted (m + 1) K (5, L, s, h) = i_get 0 3 8 (wpn (T0_parted Q) C0_parted m K) L s h := rfl
theorem x0_parted_8 : wpn (T0_parted Q) C0_parted (m + 1) K (8, L, s, h) = i_isub 9 (wpn (T0_parted Q) C0_parted m K) L s h := rfl
theorem x0_parted_9 : wpn (T0_parted Q) C0_parted (m + 1) K (9, L, s, h) = i_ist 2 10 (wpn (T0_parted Q) C0_parted m K) L s h := rfl
theorem x0_parted_10 : wpn (T0_parted Q) C0_parted (m + 1) K (10, L, s, h) = i_ild 2 11 (wpn (T0_parted Q) C0_parted m K) L s h := rfl
theorem x0_parted_11 : wpn (T0_parted Q) C0_parted (m + 1) K (11, L, s, h) = i_if_ne 21 14 (wpn (T0_parted Q) C0_parted m K) L s h := rfl
theorem x0_parted_14 : wpn (T0_parted Q) C0_parted (m + 1) K (14, L, s, h) = i_ald 0 15 (wpn (T0_parted Q) C0_parted m K) L s h := rfl
theorem x0_parted_15 : wpn (T0_parted Q) C0_parted (m + 1) K (15, L, s, h) = i_ic 1 16 (wpn (T0_parted Q) C0_parted m K) L s h := rfl
theorem x0_parted_16 : wpn (T0_parted Q) C0_parted (m + 1) K (16, L, s, h) = i_putz 0 5 19 (wpn (T0_parted Q) C0_parted m K) L s h := rfl
theorem x0_parted_19 : wpn (T0_parted Q) C0_parted (m + 1) K (19, L, s, h) = i_ic 0 20 (wpn (T0_parted Q) C0_parted m K) L s h := rfl
theorem x0_parted_20 : wpn (T0_parted Q) C0_parted (m + 1) K (20, L, s, h) = i_iret Q (wpn (T0_parted Q) C0_parted m K) L s h := rfl
theorem x0_parted_21 : wpn (T0_parted Q) C0_parted (m + 1) K (21, L, s, h) = i_ild 1 22 (wpn (T0_parted Q) C0_parted m K) L s h := rfl
theorem x0_parted_22 : wpn (T0_parted Q) C0_parted (m + 1) K (22, L, s, h) = i_ild 2 23 (wpn (T0_parted Q) C0_parted m K) L s h := rfl
theorem x0_parted_23 : wpn (T0_parted Q) C0_parted (m + 1) K (23, L, s, h) = i_idiv 24 (wpn (T0_parted Q) C0_parted m K) L s h := rfl
theorem x0_parted_24 : wpn (T0_parted Q) C0_parted (m + 1) K (24, L, s, h) = i_iret Q (wpn (T0_parted Q) C0_parted m K) L s h := rfl
def T2_become (Q : Po) : Nat → Tr := nd 13 (nd 6 (nd 2 (nd 1 (lf 0 (i_ald 0 1)) (lf 1 (i_ild 1 2))) (nd 5 (lf 2 (i_put 2 1 5)) (lf 5 (i_ald 0 6)))) (nd 10 (nd 7 (lf 6 (i_ild 2 7)) (lf 7 (i_put 2 2 10))) (nd 11 (lf 10 (i_ic 0 11)) (nd 12 (lf 11 (i_ist 3 12)) (lf 12 (i_ild 3 13)))))) (nd 23 (nd 18 (nd 15 (lf 13 (i_ic 40 15)) (lf 15 (i_ic_ge 31 18))) (nd 19 (lf 18 (i_ald 0 19)) (nd 22 (lf 19 (i_get 2 0 22)) (lf 22 (i_ild 3 23))))) (nd 25 (nd 24 (lf 23 (i_ic 0 24)) (lf 24 (i_iast 25))) (nd 28 (lf 25 (i_inc 3 1 28)) (nd 31 (lf 28 (i_goto 12)) (lf 31 (i_vret Q))))))
def C2_become : List Nat := [12]
theorem x2_become_0 : wpn (T2_become Q) C2_become (m + 1) K (0, L, s, h) = i_ald 0 1 (wpn (T2_become Q) C2_become m K) L s h := rfl
theorem x2_become_1 : wpn (T2_become Q) C2_become (m + 1) K (1, L, s, h) = i_ild 1 2 (wpn (T2_become Q) C2_become m K) L s h := rfl
theorem x2_become_2 : wpn (T2_become Q) C2_become (m + 1) K (2, L, s, h) = i_put 2 1 5 (wpn (T2_become Q) C2_become m K) L s h := rfl
theorem x2_become_5 : wpn (T2_become Q) C2_become (m + 1) K (5, L, s, h) = i_ald 0 6 (wpn (T2_become Q) C2_become m K) L s h := rfl
theorem x2_become_6 : wpn (T2_become Q) C2_become (m + 1) K (6, L, s, h) = i_ild 2 7 (wpn (T2_become Q) C2_become m K) L s h := rfl
theorem x2_become_7 : wpn (T2_become Q) C2_become (m + 1) K (7, L, s, h) = i_put 2 2 10 (wpn (T2_become Q) C2_become m K) L s h := rfl
theorem x2_become_10 : wpn (T2_become Q) C2_become (m + 1) K (10, L, s, h) = i_ic 0 11 (wpn (T2_become Q) C2_become m K) L s h := rfl
theorem x2_become_11 : wpn (T2_become Q) C2_become (m + 1) K (11, L, s, h) = i_ist 3 12 (wpn (T2_become Q) C2_become m K) L s h := rfl
theorem k2_become_12 : wpn (T2_become Q) C2_become (m + 1) K (12, L, s, h) = K (12, L, s, h) := rfl
theorem t2_become_12 : T2_become Q 12 = i_ild 3 13 := rfl
theorem x2_become_13 : wpn (T2_become Q) C2_become (m + 1) K (13, L, s, h) = i_ic 40 15 (wpn (T2_become Q) C2_become m K) L s h := rfl
theorem x2_become_15 : wpn (T2_become Q) C2_become (m + 1) K (15, L, s, h) = i_ic_ge 31 18 (wpn (T2_become Q) C2_become m K) L s h := rfl
theorem x2_become_18 : wpn (T2_become Q) C2_become (m + 1) K (18, L, s, h) = i_ald 0 19 (wpn (T2_become Q) C2_become m K) L s h := rfl
theorem x2_become_19 : wpn (T2_become Q) C2_become (m + 1) K (19, L, s, h) = i_get 2 0 22 (wpn (T2_become Q) C2_become m K) L s h := rfl
theorem x2_become_22 : wpn (T2_become Q) C2_become (m + 1) K (22, L, s, h) = i_ild 3 23 (wpn (T2_become Q) C2_become m K) L s h := rfl
theorem x2_become_23 : wpn (T2_become Q) C2_become (m + 1) K (23, L, s, h) = i_ic 0 24 (wpn (T2_become Q) C2_become m K) L s h := rfl
theorem x2_become_24 : wpn (T2_become Q) C2_become (m + 1) K (24, L, s, h) = i_iast 25 (wpn (T2_become Q) C2_become m K) L s h := rfl
theorem x2_become_25 : wpn (T2_become Q) C2_become (m + 1) K (25, L, s, h) = i_inc 3 1 28 (wpn (T2_become Q) C2_become m K) L s h := rfl
theorem x2_become_28 : wpn (T2_become Q) C2_become (m + 1) K (28, L, s, h) = i_goto 12 (wpn (T2_become Q) C2_become m K) L s h := rfl
theorem x2_become_31 : wpn (T2_become Q) C2_become (m + 1) K (31, L, s, h) = i_vret Q (wpn (T2_become Q) C2_become m K) L s h := rfl
def T2_narrowed (Q : Po) : Nat → Tr := nd 34 (nd 4 (nd 1 (lf 0 (i_ald 0 1)) (lf 1 (i_get 2 1 4))) (nd 32 (lf 4 (i_sw [(0, 32), (1, 35)] 38)) (nd 33 (lf 32 (i_ild 1 33)) (lf 33 (i_i2b 34))))) (nd 37 (nd 35 (lf 34 (i_iret Q)) (nd 36 (lf 35 (i_ild 1 36)) (lf 36 (i_i2s 37)))) (nd 38 (lf 37 (i_iret Q)) (nd 39 (lf 38 (i_ild 1 39)) (lf 39 (i_iret Q)))))
def C2_narrowed : List Nat := []
theorem x2_narrowed_0 : wpn (T2_narrowed Q) C2_narrowed (m + 1) K (0, L, s, h) = i_ald 0 1 (wpn (T2_narrowed Q) C2_narrowed m K) L s h := rfl
theorem x2_narrowed_1 : wpn (T2_narrowed Q) C2_narrowed (m + 1) K (1, L, s, h) = i_get 2 1 4 (wpn (T2_narrowed Q) C2_narrowed m K) L s h := rfl
theorem x2_narrowed_4 : wpn (T2_narrowed Q) C2_narrowed (m + 1) K (4, L, s, h) = i_sw [(0, 32), (1, 35)] 38 (wpn (T2_narrowed Q) C2_narrowed m K) L s h := rfl
theorem x2_narrowed_32 : wpn (T2_narrowed Q) C2_narrowed (m + 1) K (32, L, s, h) = i_ild 1 33 (wpn (T2_narrowed Q) C2_narrowed m K) L s h := rfl
theorem x2_narrowed_33 : wpn (T2_narrowed Q) C2_narrowed (m + 1) K (33, L, s, h) = i_i2b 34 (wpn (T2_narrowed Q) C2_narrowed m K) L s h := rfl
theorem x2_narrowed_34 : wpn (T2_narrowed Q) C2_narrowed (m + 1) K (34, L, s, h) = i_iret Q (wpn (T2_narrowed Q) C2_narrowed m K) L s h := rfl
theorem x2_narrowed_35 : wpn (T2_narrowed Q) C2_narrowed (m + 1) K (35, L, s, h) = i_ild 1 36 (wpn (T2_narrowed Q) C2_narrowed m K) L s h := rfl
theorem x2_narrowed_36 : wpn (T2_narrowed Q) C2_narrowed (m + 1) K (36, L, s, h) = i_i2s 37 (wpn (T2_narrowed Q) C2_narrowed m K) L s h := rfl
theorem x2_narrowed_37 : wpn (T2_narrowed Q) C2_narrowed (m + 1) K (37, L, s, h) = i_iret Q (wpn (T2_narrowed Q) C2_narrowed m K) L s h := rfl
theorem x2_narrowed_38 : wpn (T2_narrowed Q) C2_narrowed (m + 1) K (38, L, s, h) = i_ild 1 39 (wpn (T2_narrowed Q) C2_narrowed m K) L s h := rfl
theorem x2_narrowed_39 : wpn (T2_narrowed Q) C2_narrowed (m + 1) K (39, L, s, h) = i_iret Q (wpn (T2_narrowed Q) C2_narrowed m K) L s h := rfl
def T3_holdInmate (Q : Po) : Nat → Tr := nd 5 (nd 1 (lf 0 (i_ald 0 1)) (nd 2 (lf 1 (i_ic 0 2)) (lf 2 (i_put 3 0 5)))) (nd 7 (nd 6 (lf 5 (i_ald 0 6)) (lf 6 (i_ild 1 7))) (nd 10 (lf 7 (i_put 3 1 10)) (lf 10 (i_vret Q))))
def C3_holdInmate : List Nat := []
theorem x3_holdInmate_0 : wpn (T3_holdInmate Q) C3_holdInmate (m + 1) K (0, L, s, h) = i_ald 0 1 (wpn (T3_holdInmate Q) C3_holdInmate m K) L s h := rfl
theorem x3_holdInmate_1 : wpn (T3_holdInmate Q) C3_holdInmate (m + 1) K (1, L, s, h) = i_ic 0 2 (wpn (T3_holdInmate Q) C3_holdInmate m K) L s h := rfl
theorem x3_holdInmate_2 : wpn (T3_holdInmate Q) C3_holdInmate (m + 1) K (2, L, s, h) = i_put 3 0 5 (wpn (T3_holdInmate Q) C3_holdInmate m K) L s h := rfl
theorem x3_holdInmate_5 : wpn (T3_holdInmate Q) C3_holdInmate (m + 1) K (5, L, s, h) = i_ald 0 6 (wpn (T3_holdInmate Q) C3_holdInmate m K) L s h := rfl
theorem x3_holdInmate_6 : wpn (T3_holdInmate Q) C3_holdInmate (m + 1) K (6, L, s, h) = i_ild 1 7 (wpn (T3_holdInmate Q) C3_holdInmate m K) L s h := rfl
theorem x3_holdInmate_7 : wpn (T3_holdInmate Q) C3_holdInmate (m + 1) K (7, L, s, h) = i_put 3 1 10 (wpn (T3_holdInmate Q) C3_holdInmate m K) L s h := rfl
theorem x3_holdInmate_10 : wpn (T3_holdInmate Q) C3_holdInmate (m + 1) K (10, L, s, h) = i_vret Q (wpn (T3_holdInmate Q) C3_holdInmate m K) L s h := rfl
def T3_holdRow (Q : Po) : Nat → Tr := nd 17 (nd 6 (nd 2 (nd 1 (lf 0 (i_ald 0 1)) (lf 1 (i_ald 1 2))) (nd 5 (lf 2 (i_get 2 1 5)) (lf 5 (i_ic (-1) 6)))) (nd 10 (nd 9 (lf 6 (i_ic_ne 13 9)) (lf 9 (i_ic 2 10))) (nd 13 (lf 10 (i_goto 14)) (nd 14 (lf 13 (i_ic 1 14)) (lf 14 (i_put 3 0 17)))))) (nd 25 (nd 19 (nd 18 (lf 17 (i_ald 0 18)) (lf 18 (i_ald 1 19))) (nd 22 (lf 19 (i_get 2 1 22)) (lf 22 (i_put 3 2 25)))) (nd 27 (nd 26 (lf 25 (i_ald 0 26)) (lf 26 (i_ald 1 27))) (nd 30 (lf 27 (i_get 2 2 30)) (nd 33 (lf 30 (i_put 3 3 33)) (lf 33 (i_vret Q))))))
def C3_holdRow : List Nat := []
theorem x3_holdRow_0 : wpn (T3_holdRow Q) C3_holdRow (m + 1) K (0, L, s, h) = i_ald 0 1 (wpn (T3_holdRow Q) C3_holdRow m K) L s h := rfl
theorem x3_holdRow_1 : wpn (T3_holdRow Q) C3_holdRow (m + 1) K (1, L, s, h) = i_ald 1 2 (wpn (T3_holdRow Q) C3_holdRow m K) L s h := rfl
theorem x3_holdRow_2 : wpn (T3_holdRow Q) C3_holdRow (m + 1) K (2, L, s, h) = i_get 2 1 5 (wpn (T3_holdRow Q) C3_holdRow m K) L s h := rfl
theorem x3_holdRow_5 : wpn (T3_holdRow Q) C3_holdRow (m + 1) K (5, L, s, h) = i_ic (-1) 6 (wpn (T3_holdRow Q) C3_holdRow m K) L s h := rfl
theorem x3_holdRow_6 : wpn (T3_holdRow Q) C3_holdRow (m + 1) K (6, L, s, h) = i_ic_ne 13 9 (wpn (T3_holdRow Q) C3_holdRow m K) L s h := rfl
theorem x3_holdRow_9 : wpn (T3_holdRow Q) C3_holdRow (m + 1) K (9, L, s, h) = i_ic 2 10 (wpn (T3_holdRow Q) C3_holdRow m K) L s h := rfl
theorem x3_holdRow_10 : wpn (T3_holdRow Q) C3_holdRow (m + 1) K (10, L, s, h) = i_goto 14 (wpn (T3_holdRow Q) C3_holdRow m K) L s h := rfl
theorem x3_holdRow_13 : wpn (T3_holdRow Q) C3_holdRow (m + 1) K (13, L, s, h) = i_ic 1 14 (wpn (T3_holdRow Q) C3_holdRow m K) L s h := rfl
theorem x3_holdRow_14 : wpn (T3_holdRow Q) C3_holdRow (m + 1) K (14, L, s, h) = i_put 3 0 17 (wpn (T3_holdRow Q) C3_holdRow m K) L s h := rfl
theorem x3_holdRow_17 : wpn (T3_holdRow Q) C3_holdRow (m + 1) K (17, L, s, h) = i_ald 0 18 (wpn (T3_holdRow Q) C3_holdRow m K) L s h := rfl
theorem x3_holdRow_18 : wpn (T3_holdRow Q) C3_holdRow (m + 1) K (18, L, s, h) = i_ald 1 19 (wpn (T3_holdRow Q) C3_holdRow m K) L s h := rfl
theorem x3_holdRow_19 : wpn (T3_holdRow Q) C3_holdRow (m + 1) K (19, L, s, h) = i_get 2 1 22 (wpn (T3_holdRow Q) C3_holdRow m K) L s h := rfl
theorem x3_holdRow_22 : wpn (T3_holdRow Q) C3_holdRow (m + 1) K (22, L, s, h) = i_put 3 2 25 (wpn (T3_holdRow Q) C3_holdRow m K) L s h := rfl
theorem x3_holdRow_25 : wpn (T3_holdRow Q) C3_holdRow (m + 1) K (25, L, s, h) = i_ald 0 26 (wpn (T3_holdRow Q) C3_holdRow m K) L s h := rfl
theorem x3_holdRow_26 : wpn (T3_holdRow Q) C3_holdRow (m + 1) K (26, L, s, h) = i_ald 1 27 (wpn (T3_holdRow Q) C3_holdRow m K) L s h := rfl
theorem x3_holdRow_27 : wpn (T3_holdRow Q) C3_holdRow (m + 1) K (27, L, s, h) = i_get 2 2 30 (wpn (T3_holdRow Q) C3_holdRow m K) L s h := rfl
theorem x3_holdRow_30 : wpn (T3_holdRow Q) C3_holdRow (m + 1) K (30, L, s, h) = i_put 3 3 33 (wpn (T3_holdRow Q) C3_holdRow m K) L s h := rfl
theorem x3_holdRow_33 : wpn (T3_holdRow Q) C3_holdRow (m + 1) K (33, L, s, h) = i_vret Q (wpn (T3_holdRow Q) C3_holdRow m K) L s h := rfl
end TB
