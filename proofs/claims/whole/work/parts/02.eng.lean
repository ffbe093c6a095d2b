/-! THE ENGINE: a machine of positions. A cell of the world has a position (a number below 56); a reference is a position; what the heap holds is a function of position and place. -/
abbrev Hp : Type := Nat → Nat → Int32
abbrev Lo : Type := List (Option Value)
abbrev St : Type := Nat × Lo × List Value × Hp
abbrev Po : Type := Option Value → Hp → Prop
abbrev Sp : Type := List Value → Hp → Po → Prop
abbrev Tr : Type := (St → Prop) → Lo → List Value → Hp → Prop
def up2 (h : Hp) (p k : Nat) (x : Int32) (p1 k1 : Nat) : Int32 := if p1 = p then (if k1 = k then x else h p1 k1) else h p1 k1
def upA (h : Hp) (p : Nat) (f : Nat → Int32) (p1 k1 : Nat) : Int32 := if p1 = p then f k1 else h p1 k1
def lyO : List (Option Nat) := [some 5, some 1, none, none, none, none, none, none, some 1, none, none, none, none, none, none, some 1, none, none, none, none, none, none, some 4, none, none, none, some 2, some 2, some 2, some 2, none, none, none, none, none, some 3, some 3, some 3, some 3, some 0, none, some 6, none, none, none, none, none, none, none, none, none, none, none, none, none, none]
def lyA : List (Option Nat) := [none, none, some 4, some 8, some 8, some 8, some 8, some 8, none, some 4, some 8, some 8, some 8, some 8, some 8, none, some 4, some 8, some 8, some 8, some 8, some 8, none, some 200, some 30, none, none, none, none, none, some 40, some 40, some 40, some 40, none, none, none, none, none, none, some 30, none, some 47, some 47, some 47, some 47, some 200, some 8, some 30, some 4, some 4, some 160, some 4, some 4, some 4, some 30]
def lyR : List (Option Nat) := [none, none, none, none, none, none, none, none, none, none, none, none, none, none, none, none, none, none, none, none, none, none, none, none, none, some 26, none, none, none, none, none, none, none, none, some 35, none, none, none, none, none, none, none, none, none, none, none, none, none, none, none, none, none, none, none, none, none]
def lyF : List (List (Option Nat)) := [[some 1, some 8, some 15, none, some 22, some 24, none, some 25, some 34, some 39], [some 2, some 3, some 4, some 5, some 6, some 7, none, none, none], [], [], [], [], [], [], [some 9, some 10, some 11, some 12, some 13, some 14, none, none, none], [], [], [], [], [], [], [some 16, some 17, some 18, some 19, some 20, some 21, none, none, none], [], [], [], [], [], [], [some 23, none, none, none, none, none, none], [], [], [], [some 30, none, none], [some 31, none, none], [some 32, none, none], [some 33, none, none], [], [], [], [], [], [none, none, none, none], [none, none, none, none], [none, none, none, none], [none, none, none, none], [some 40, none, none, none, none, none], [], [some 42, some 43, some 44, some 45, none, some 46, none, none, none, none, none, none, some 47, some 48, none, some 49, some 50, some 51, some 52, some 53, some 54, some 55, none, none, none, none, none], [], [], [], [], [], [], [], [], [], [], [], [], [], []]
/-- the class of the object at a position -/
def ocl (p : Nat) : Option Nat := lyO.getD p none
/-- the length of the int array at a position -/
def alen (p : Nat) : Option Nat := lyA.getD p none
/-- the first element (the others behind it) of the array of four references at a position -/
def ral (p : Nat) : Option Nat := lyR.getD p none
/-- the cell that a field refers to; none: the field is a number -/
def lay (p k : Nat) : Option Nat := (lyF.getD p []).getD k none
/-- the class tables that do not change: FIRST_LAWS, TOP_LAWS, ABOVE, OWN_BODIES -/
def tbF : List Int32 := [2, 3, 2, 20]
def tbT : List Int32 := [9, 9, 9, 99]
def tbA : List Int32 := [-1, 0, 0, 1, 2, 0]
def tbB : List Int32 := [10, 11, 12, 13, 10, 20, 12, 13, 30, 11, 12, 31, 51, 20, 50, 13, 40, 41, 12, 31, 10, 11, 61, 60]
def ext (p : Nat) : Option (List Int32) := if p = 90 then some tbF else if p = 91 then some tbT else if p = 92 then some tbA else if p = 93 then some tbB else none
def rdA (p : Nat) (h : Hp) : Option (Nat × (Nat → Int32)) := match alen p with
  | some n => some (n, h p)
  | none => match ext p with
    | some t => some (t.length, fun i => t.getD i 0)
    | none => none
def fv (p k : Nat) (h : Hp) : Value := match lay p k with
  | some q => .ref q
  | none => .int (h p k)
def strs : List (List Nat) := [[105, 110, 109, 97, 116, 101], [98, 117, 114, 103, 108, 97, 114], [100, 117, 101, 108, 108, 105, 115, 116], [102, 111, 114, 103, 101, 114], [110, 117, 110], [99, 104, 105, 108, 100], [115, 116, 114, 105, 99, 116], [101, 97, 115, 101], [100, 117, 101], [115, 110, 101, 101, 122, 101], [105, 110], [103, 114, 97, 99, 101], [114, 105, 116, 101], [119, 97, 105, 116], [105, 115], [102, 111, 114]]
def stc (p : Nat) : Option (List Nat) := if p < 200 then none else strs[p - 200]?
def sba (p : Nat) : Option (List Nat) := if p < 300 then none else strs[p - 300]?
theorem oc_0 : ocl 0 = some 5 := rfl
theorem fv_0_0 (h : Hp) : fv 0 0 h = .ref 1 := rfl
theorem fv_0_1 (h : Hp) : fv 0 1 h = .ref 8 := rfl
theorem fv_0_2 (h : Hp) : fv 0 2 h = .ref 15 := rfl
theorem fv_0_3 (h : Hp) : fv 0 3 h = .int (h 0 3) := rfl
theorem ly_0_3 : lay 0 3 = none := rfl
theorem fv_0_4 (h : Hp) : fv 0 4 h = .ref 22 := rfl
theorem fv_0_5 (h : Hp) : fv 0 5 h = .ref 24 := rfl
theorem fv_0_6 (h : Hp) : fv 0 6 h = .int (h 0 6) := rfl
theorem ly_0_6 : lay 0 6 = none := rfl
theorem fv_0_7 (h : Hp) : fv 0 7 h = .ref 25 := rfl
theorem fv_0_8 (h : Hp) : fv 0 8 h = .ref 34 := rfl
theorem fv_0_9 (h : Hp) : fv 0 9 h = .ref 39 := rfl
theorem oc_1 : ocl 1 = some 1 := rfl
theorem fv_1_0 (h : Hp) : fv 1 0 h = .ref 2 := rfl
theorem fv_1_1 (h : Hp) : fv 1 1 h = .ref 3 := rfl
theorem fv_1_2 (h : Hp) : fv 1 2 h = .ref 4 := rfl
theorem fv_1_3 (h : Hp) : fv 1 3 h = .ref 5 := rfl
theorem fv_1_4 (h : Hp) : fv 1 4 h = .ref 6 := rfl
theorem fv_1_5 (h : Hp) : fv 1 5 h = .ref 7 := rfl
theorem fv_1_6 (h : Hp) : fv 1 6 h = .int (h 1 6) := rfl
theorem ly_1_6 : lay 1 6 = none := rfl
theorem fv_1_7 (h : Hp) : fv 1 7 h = .int (h 1 7) := rfl
theorem ly_1_7 : lay 1 7 = none := rfl
theorem fv_1_8 (h : Hp) : fv 1 8 h = .int (h 1 8) := rfl
theorem ly_1_8 : lay 1 8 = none := rfl
theorem rd_2 (h : Hp) : rdA 2 h = some (4, h 2) := rfl
theorem al_2 : alen 2 = some 4 := rfl
theorem rd_3 (h : Hp) : rdA 3 h = some (8, h 3) := rfl
theorem al_3 : alen 3 = some 8 := rfl
theorem rd_4 (h : Hp) : rdA 4 h = some (8, h 4) := rfl
theorem al_4 : alen 4 = some 8 := rfl
theorem rd_5 (h : Hp) : rdA 5 h = some (8, h 5) := rfl
theorem al_5 : alen 5 = some 8 := rfl
theorem rd_6 (h : Hp) : rdA 6 h = some (8, h 6) := rfl
theorem al_6 : alen 6 = some 8 := rfl
theorem rd_7 (h : Hp) : rdA 7 h = some (8, h 7) := rfl
theorem al_7 : alen 7 = some 8 := rfl
theorem oc_8 : ocl 8 = some 1 := rfl
theorem fv_8_0 (h : Hp) : fv 8 0 h = .ref 9 := rfl
theorem fv_8_1 (h : Hp) : fv 8 1 h = .ref 10 := rfl
theorem fv_8_2 (h : Hp) : fv 8 2 h = .ref 11 := rfl
theorem fv_8_3 (h : Hp) : fv 8 3 h = .ref 12 := rfl
theorem fv_8_4 (h : Hp) : fv 8 4 h = .ref 13 := rfl
theorem fv_8_5 (h : Hp) : fv 8 5 h = .ref 14 := rfl
theorem fv_8_6 (h : Hp) : fv 8 6 h = .int (h 8 6) := rfl
theorem ly_8_6 : lay 8 6 = none := rfl
theorem fv_8_7 (h : Hp) : fv 8 7 h = .int (h 8 7) := rfl
theorem ly_8_7 : lay 8 7 = none := rfl
theorem fv_8_8 (h : Hp) : fv 8 8 h = .int (h 8 8) := rfl
theorem ly_8_8 : lay 8 8 = none := rfl
theorem rd_9 (h : Hp) : rdA 9 h = some (4, h 9) := rfl
theorem al_9 : alen 9 = some 4 := rfl
theorem rd_10 (h : Hp) : rdA 10 h = some (8, h 10) := rfl
theorem al_10 : alen 10 = some 8 := rfl
theorem rd_11 (h : Hp) : rdA 11 h = some (8, h 11) := rfl
theorem al_11 : alen 11 = some 8 := rfl
theorem rd_12 (h : Hp) : rdA 12 h = some (8, h 12) := rfl
theorem al_12 : alen 12 = some 8 := rfl
theorem rd_13 (h : Hp) : rdA 13 h = some (8, h 13) := rfl
theorem al_13 : alen 13 = some 8 := rfl
theorem rd_14 (h : Hp) : rdA 14 h = some (8, h 14) := rfl
theorem al_14 : alen 14 = some 8 := rfl
theorem oc_15 : ocl 15 = some 1 := rfl
theorem fv_15_0 (h : Hp) : fv 15 0 h = .ref 16 := rfl
theorem fv_15_1 (h : Hp) : fv 15 1 h = .ref 17 := rfl
theorem fv_15_2 (h : Hp) : fv 15 2 h = .ref 18 := rfl
theorem fv_15_3 (h : Hp) : fv 15 3 h = .ref 19 := rfl
theorem fv_15_4 (h : Hp) : fv 15 4 h = .ref 20 := rfl
theorem fv_15_5 (h : Hp) : fv 15 5 h = .ref 21 := rfl
theorem fv_15_6 (h : Hp) : fv 15 6 h = .int (h 15 6) := rfl
theorem ly_15_6 : lay 15 6 = none := rfl
theorem fv_15_7 (h : Hp) : fv 15 7 h = .int (h 15 7) := rfl
theorem ly_15_7 : lay 15 7 = none := rfl
theorem fv_15_8 (h : Hp) : fv 15 8 h = .int (h 15 8) := rfl
theorem ly_15_8 : lay 15 8 = none := rfl
theorem rd_16 (h : Hp) : rdA 16 h = some (4, h 16) := rfl
theorem al_16 : alen 16 = some 4 := rfl
theorem rd_17 (h : Hp) : rdA 17 h = some (8, h 17) := rfl
theorem al_17 : alen 17 = some 8 := rfl
theorem rd_18 (h : Hp) : rdA 18 h = some (8, h 18) := rfl
theorem al_18 : alen 18 = some 8 := rfl
theorem rd_19 (h : Hp) : rdA 19 h = some (8, h 19) := rfl
theorem al_19 : alen 19 = some 8 := rfl
theorem rd_20 (h : Hp) : rdA 20 h = some (8, h 20) := rfl
theorem al_20 : alen 20 = some 8 := rfl
theorem rd_21 (h : Hp) : rdA 21 h = some (8, h 21) := rfl
theorem al_21 : alen 21 = some 8 := rfl
theorem oc_22 : ocl 22 = some 4 := rfl
theorem fv_22_0 (h : Hp) : fv 22 0 h = .ref 23 := rfl
theorem fv_22_1 (h : Hp) : fv 22 1 h = .int (h 22 1) := rfl
theorem ly_22_1 : lay 22 1 = none := rfl
theorem fv_22_2 (h : Hp) : fv 22 2 h = .int (h 22 2) := rfl
theorem ly_22_2 : lay 22 2 = none := rfl
theorem fv_22_3 (h : Hp) : fv 22 3 h = .int (h 22 3) := rfl
theorem ly_22_3 : lay 22 3 = none := rfl
theorem fv_22_4 (h : Hp) : fv 22 4 h = .int (h 22 4) := rfl
theorem ly_22_4 : lay 22 4 = none := rfl
theorem fv_22_5 (h : Hp) : fv 22 5 h = .int (h 22 5) := rfl
theorem ly_22_5 : lay 22 5 = none := rfl
theorem fv_22_6 (h : Hp) : fv 22 6 h = .int (h 22 6) := rfl
theorem ly_22_6 : lay 22 6 = none := rfl
theorem rd_23 (h : Hp) : rdA 23 h = some (200, h 23) := rfl
theorem al_23 : alen 23 = some 200 := rfl
theorem rd_24 (h : Hp) : rdA 24 h = some (30, h 24) := rfl
theorem al_24 : alen 24 = some 30 := rfl
theorem ra_25 : ral 25 = some 26 := rfl
theorem oc_26 : ocl 26 = some 2 := rfl
theorem fv_26_0 (h : Hp) : fv 26 0 h = .ref 30 := rfl
theorem fv_26_1 (h : Hp) : fv 26 1 h = .int (h 26 1) := rfl
theorem ly_26_1 : lay 26 1 = none := rfl
theorem fv_26_2 (h : Hp) : fv 26 2 h = .int (h 26 2) := rfl
theorem ly_26_2 : lay 26 2 = none := rfl
theorem oc_27 : ocl 27 = some 2 := rfl
theorem fv_27_0 (h : Hp) : fv 27 0 h = .ref 31 := rfl
theorem fv_27_1 (h : Hp) : fv 27 1 h = .int (h 27 1) := rfl
theorem ly_27_1 : lay 27 1 = none := rfl
theorem fv_27_2 (h : Hp) : fv 27 2 h = .int (h 27 2) := rfl
theorem ly_27_2 : lay 27 2 = none := rfl
theorem oc_28 : ocl 28 = some 2 := rfl
theorem fv_28_0 (h : Hp) : fv 28 0 h = .ref 32 := rfl
theorem fv_28_1 (h : Hp) : fv 28 1 h = .int (h 28 1) := rfl
theorem ly_28_1 : lay 28 1 = none := rfl
theorem fv_28_2 (h : Hp) : fv 28 2 h = .int (h 28 2) := rfl
theorem ly_28_2 : lay 28 2 = none := rfl
theorem oc_29 : ocl 29 = some 2 := rfl
theorem fv_29_0 (h : Hp) : fv 29 0 h = .ref 33 := rfl
theorem fv_29_1 (h : Hp) : fv 29 1 h = .int (h 29 1) := rfl
theorem ly_29_1 : lay 29 1 = none := rfl
theorem fv_29_2 (h : Hp) : fv 29 2 h = .int (h 29 2) := rfl
theorem ly_29_2 : lay 29 2 = none := rfl
theorem rd_30 (h : Hp) : rdA 30 h = some (40, h 30) := rfl
theorem al_30 : alen 30 = some 40 := rfl
theorem rd_31 (h : Hp) : rdA 31 h = some (40, h 31) := rfl
theorem al_31 : alen 31 = some 40 := rfl
theorem rd_32 (h : Hp) : rdA 32 h = some (40, h 32) := rfl
theorem al_32 : alen 32 = some 40 := rfl
theorem rd_33 (h : Hp) : rdA 33 h = some (40, h 33) := rfl
theorem al_33 : alen 33 = some 40 := rfl
theorem ra_34 : ral 34 = some 35 := rfl
theorem oc_35 : ocl 35 = some 3 := rfl
theorem fv_35_0 (h : Hp) : fv 35 0 h = .int (h 35 0) := rfl
theorem ly_35_0 : lay 35 0 = none := rfl
theorem fv_35_1 (h : Hp) : fv 35 1 h = .int (h 35 1) := rfl
theorem ly_35_1 : lay 35 1 = none := rfl
theorem fv_35_2 (h : Hp) : fv 35 2 h = .int (h 35 2) := rfl
theorem ly_35_2 : lay 35 2 = none := rfl
theorem fv_35_3 (h : Hp) : fv 35 3 h = .int (h 35 3) := rfl
theorem ly_35_3 : lay 35 3 = none := rfl
theorem oc_36 : ocl 36 = some 3 := rfl
theorem fv_36_0 (h : Hp) : fv 36 0 h = .int (h 36 0) := rfl
theorem ly_36_0 : lay 36 0 = none := rfl
theorem fv_36_1 (h : Hp) : fv 36 1 h = .int (h 36 1) := rfl
theorem ly_36_1 : lay 36 1 = none := rfl
theorem fv_36_2 (h : Hp) : fv 36 2 h = .int (h 36 2) := rfl
theorem ly_36_2 : lay 36 2 = none := rfl
theorem fv_36_3 (h : Hp) : fv 36 3 h = .int (h 36 3) := rfl
theorem ly_36_3 : lay 36 3 = none := rfl
theorem oc_37 : ocl 37 = some 3 := rfl
theorem fv_37_0 (h : Hp) : fv 37 0 h = .int (h 37 0) := rfl
theorem ly_37_0 : lay 37 0 = none := rfl
theorem fv_37_1 (h : Hp) : fv 37 1 h = .int (h 37 1) := rfl
theorem ly_37_1 : lay 37 1 = none := rfl
theorem fv_37_2 (h : Hp) : fv 37 2 h = .int (h 37 2) := rfl
theorem ly_37_2 : lay 37 2 = none := rfl
theorem fv_37_3 (h : Hp) : fv 37 3 h = .int (h 37 3) := rfl
theorem ly_37_3 : lay 37 3 = none := rfl
theorem oc_38 : ocl 38 = some 3 := rfl
theorem fv_38_0 (h : Hp) : fv 38 0 h = .int (h 38 0) := rfl
theorem ly_38_0 : lay 38 0 = none := rfl
theorem fv_38_1 (h : Hp) : fv 38 1 h = .int (h 38 1) := rfl
theorem ly_38_1 : lay 38 1 = none := rfl
theorem fv_38_2 (h : Hp) : fv 38 2 h = .int (h 38 2) := rfl
theorem ly_38_2 : lay 38 2 = none := rfl
theorem fv_38_3 (h : Hp) : fv 38 3 h = .int (h 38 3) := rfl
theorem ly_38_3 : lay 38 3 = none := rfl
theorem oc_39 : ocl 39 = some 0 := rfl
theorem fv_39_0 (h : Hp) : fv 39 0 h = .ref 40 := rfl
theorem fv_39_1 (h : Hp) : fv 39 1 h = .int (h 39 1) := rfl
theorem ly_39_1 : lay 39 1 = none := rfl
theorem fv_39_2 (h : Hp) : fv 39 2 h = .int (h 39 2) := rfl
theorem ly_39_2 : lay 39 2 = none := rfl
theorem fv_39_3 (h : Hp) : fv 39 3 h = .int (h 39 3) := rfl
theorem ly_39_3 : lay 39 3 = none := rfl
theorem fv_39_4 (h : Hp) : fv 39 4 h = .int (h 39 4) := rfl
theorem ly_39_4 : lay 39 4 = none := rfl
theorem fv_39_5 (h : Hp) : fv 39 5 h = .int (h 39 5) := rfl
theorem ly_39_5 : lay 39 5 = none := rfl
theorem rd_40 (h : Hp) : rdA 40 h = some (30, h 40) := rfl
theorem al_40 : alen 40 = some 30 := rfl
theorem oc_41 : ocl 41 = some 6 := rfl
theorem fv_41_0 (h : Hp) : fv 41 0 h = .ref 42 := rfl
theorem fv_41_1 (h : Hp) : fv 41 1 h = .ref 43 := rfl
theorem fv_41_2 (h : Hp) : fv 41 2 h = .ref 44 := rfl
theorem fv_41_3 (h : Hp) : fv 41 3 h = .ref 45 := rfl
theorem fv_41_4 (h : Hp) : fv 41 4 h = .int (h 41 4) := rfl
theorem ly_41_4 : lay 41 4 = none := rfl
theorem fv_41_5 (h : Hp) : fv 41 5 h = .ref 46 := rfl
theorem fv_41_6 (h : Hp) : fv 41 6 h = .int (h 41 6) := rfl
theorem ly_41_6 : lay 41 6 = none := rfl
theorem fv_41_7 (h : Hp) : fv 41 7 h = .int (h 41 7) := rfl
theorem ly_41_7 : lay 41 7 = none := rfl
theorem fv_41_8 (h : Hp) : fv 41 8 h = .int (h 41 8) := rfl
theorem ly_41_8 : lay 41 8 = none := rfl
theorem fv_41_9 (h : Hp) : fv 41 9 h = .int (h 41 9) := rfl
theorem ly_41_9 : lay 41 9 = none := rfl
theorem fv_41_10 (h : Hp) : fv 41 10 h = .int (h 41 10) := rfl
theorem ly_41_10 : lay 41 10 = none := rfl
theorem fv_41_11 (h : Hp) : fv 41 11 h = .int (h 41 11) := rfl
theorem ly_41_11 : lay 41 11 = none := rfl
theorem fv_41_12 (h : Hp) : fv 41 12 h = .ref 47 := rfl
theorem fv_41_13 (h : Hp) : fv 41 13 h = .ref 48 := rfl
theorem fv_41_14 (h : Hp) : fv 41 14 h = .int (h 41 14) := rfl
theorem ly_41_14 : lay 41 14 = none := rfl
theorem fv_41_15 (h : Hp) : fv 41 15 h = .ref 49 := rfl
theorem fv_41_16 (h : Hp) : fv 41 16 h = .ref 50 := rfl
theorem fv_41_17 (h : Hp) : fv 41 17 h = .ref 51 := rfl
theorem fv_41_18 (h : Hp) : fv 41 18 h = .ref 52 := rfl
theorem fv_41_19 (h : Hp) : fv 41 19 h = .ref 53 := rfl
theorem fv_41_20 (h : Hp) : fv 41 20 h = .ref 54 := rfl
theorem fv_41_21 (h : Hp) : fv 41 21 h = .ref 55 := rfl
theorem fv_41_22 (h : Hp) : fv 41 22 h = .int (h 41 22) := rfl
theorem ly_41_22 : lay 41 22 = none := rfl
theorem fv_41_23 (h : Hp) : fv 41 23 h = .int (h 41 23) := rfl
theorem ly_41_23 : lay 41 23 = none := rfl
theorem fv_41_24 (h : Hp) : fv 41 24 h = .int (h 41 24) := rfl
theorem ly_41_24 : lay 41 24 = none := rfl
theorem fv_41_25 (h : Hp) : fv 41 25 h = .int (h 41 25) := rfl
theorem ly_41_25 : lay 41 25 = none := rfl
theorem fv_41_26 (h : Hp) : fv 41 26 h = .int (h 41 26) := rfl
theorem ly_41_26 : lay 41 26 = none := rfl
theorem rd_42 (h : Hp) : rdA 42 h = some (47, h 42) := rfl
theorem al_42 : alen 42 = some 47 := rfl
theorem rd_43 (h : Hp) : rdA 43 h = some (47, h 43) := rfl
theorem al_43 : alen 43 = some 47 := rfl
theorem rd_44 (h : Hp) : rdA 44 h = some (47, h 44) := rfl
theorem al_44 : alen 44 = some 47 := rfl
theorem rd_45 (h : Hp) : rdA 45 h = some (47, h 45) := rfl
theorem al_45 : alen 45 = some 47 := rfl
theorem rd_46 (h : Hp) : rdA 46 h = some (200, h 46) := rfl
theorem al_46 : alen 46 = some 200 := rfl
theorem rd_47 (h : Hp) : rdA 47 h = some (8, h 47) := rfl
theorem al_47 : alen 47 = some 8 := rfl
theorem rd_48 (h : Hp) : rdA 48 h = some (30, h 48) := rfl
theorem al_48 : alen 48 = some 30 := rfl
theorem rd_49 (h : Hp) : rdA 49 h = some (4, h 49) := rfl
theorem al_49 : alen 49 = some 4 := rfl
theorem rd_50 (h : Hp) : rdA 50 h = some (4, h 50) := rfl
theorem al_50 : alen 50 = some 4 := rfl
theorem rd_51 (h : Hp) : rdA 51 h = some (160, h 51) := rfl
theorem al_51 : alen 51 = some 160 := rfl
theorem rd_52 (h : Hp) : rdA 52 h = some (4, h 52) := rfl
theorem al_52 : alen 52 = some 4 := rfl
theorem rd_53 (h : Hp) : rdA 53 h = some (4, h 53) := rfl
theorem al_53 : alen 53 = some 4 := rfl
theorem rd_54 (h : Hp) : rdA 54 h = some (4, h 54) := rfl
theorem al_54 : alen 54 = some 4 := rfl
theorem rd_55 (h : Hp) : rdA 55 h = some (30, h 55) := rfl
theorem al_55 : alen 55 = some 30 := rfl
theorem rd_90 (h : Hp) : rdA 90 h = some (4, fun i => tbF.getD i 0) := rfl
theorem rd_91 (h : Hp) : rdA 91 h = some (4, fun i => tbT.getD i 0) := rfl
theorem rd_92 (h : Hp) : rdA 92 h = some (6, fun i => tbA.getD i 0) := rfl
theorem rd_93 (h : Hp) : rdA 93 h = some (24, fun i => tbB.getD i 0) := rfl
theorem st_200 : stc 200 = some [105, 110, 109, 97, 116, 101] := rfl
theorem sb_300 : sba 300 = some [105, 110, 109, 97, 116, 101] := rfl
theorem st_201 : stc 201 = some [98, 117, 114, 103, 108, 97, 114] := rfl
theorem sb_301 : sba 301 = some [98, 117, 114, 103, 108, 97, 114] := rfl
theorem st_202 : stc 202 = some [100, 117, 101, 108, 108, 105, 115, 116] := rfl
theorem sb_302 : sba 302 = some [100, 117, 101, 108, 108, 105, 115, 116] := rfl
theorem st_203 : stc 203 = some [102, 111, 114, 103, 101, 114] := rfl
theorem sb_303 : sba 303 = some [102, 111, 114, 103, 101, 114] := rfl
theorem st_204 : stc 204 = some [110, 117, 110] := rfl
theorem sb_304 : sba 304 = some [110, 117, 110] := rfl
theorem st_205 : stc 205 = some [99, 104, 105, 108, 100] := rfl
theorem sb_305 : sba 305 = some [99, 104, 105, 108, 100] := rfl
theorem st_206 : stc 206 = some [115, 116, 114, 105, 99, 116] := rfl
theorem sb_306 : sba 306 = some [115, 116, 114, 105, 99, 116] := rfl
theorem st_207 : stc 207 = some [101, 97, 115, 101] := rfl
theorem sb_307 : sba 307 = some [101, 97, 115, 101] := rfl
theorem st_208 : stc 208 = some [100, 117, 101] := rfl
theorem sb_308 : sba 308 = some [100, 117, 101] := rfl
theorem st_209 : stc 209 = some [115, 110, 101, 101, 122, 101] := rfl
theorem sb_309 : sba 309 = some [115, 110, 101, 101, 122, 101] := rfl
theorem st_210 : stc 210 = some [105, 110] := rfl
theorem sb_310 : sba 310 = some [105, 110] := rfl
theorem st_211 : stc 211 = some [103, 114, 97, 99, 101] := rfl
theorem sb_311 : sba 311 = some [103, 114, 97, 99, 101] := rfl
theorem st_212 : stc 212 = some [114, 105, 116, 101] := rfl
theorem sb_312 : sba 312 = some [114, 105, 116, 101] := rfl
theorem st_213 : stc 213 = some [119, 97, 105, 116] := rfl
theorem sb_313 : sba 313 = some [119, 97, 105, 116] := rfl
theorem st_214 : stc 214 = some [105, 115] := rfl
theorem sb_314 : sba 314 = some [105, 115] := rfl
theorem st_215 : stc 215 = some [102, 111, 114] := rfl
theorem sb_315 : sba 315 = some [102, 111, 114] := rfl
def lck : Lo → Nat → Bool
  | [], _ => false
  | _ :: _, 0 => true
  | a :: r, 1 => (match a with | some v => v.category == 1 | none => true) && lck r 0
  | _ :: r, i + 2 => lck r (i + 1)
theorem lck_0 (a : Option Value) (r : Lo) : lck (a :: r) 0 = true := by cases a <;> rfl
theorem lck_i (x : Int32) (r : Lo) (i : Nat) : lck (some (.int x) :: r) (i + 1) = lck r i := by cases i <;> rfl
theorem lck_r (x : Nat) (r : Lo) (i : Nat) : lck (some (.ref x) :: r) (i + 1) = lck r i := by cases i <;> rfl
theorem lck_n (r : Lo) (i : Nat) : lck (none :: r) (i + 1) = lck r i := by cases i <;> rfl
theorem lck_l (x : Int64) (r : Lo) (i : Nat) : lck (some (.long x) :: r) (i + 2) = lck r (i + 1) := rfl
def csum : List Value → Nat
  | [] => 0
  | v :: r => v.category + csum r
theorem csum_0 : csum [] = 0 := rfl
theorem csum_i (x : Int32) (r : List Value) : csum (.int x :: r) = 1 + csum r := rfl
theorem csum_r (x : Nat) (r : List Value) : csum (.ref x :: r) = 1 + csum r := rfl
theorem csum_l (x : Int64) (r : List Value) : csum (.long x :: r) = 2 + csum r := rfl
def pops : Nat → List Value → List Value → Option (List Value × List Value)
  | 0, acc, s => some (acc, s)
  | _ + 1, _, [] => none
  | n + 1, acc, v :: s => pops n (v :: acc) s
theorem pops_0 (acc s : List Value) : pops 0 acc s = some (acc, s) := rfl
theorem pops_s (n : Nat) (acc s : List Value) (v : Value) : pops (n + 1) acc (v :: s) = pops n (v :: acc) s := rfl
def psh : Option Value → List Value → List Value
  | none, r => r
  | some v, r => v :: r
theorem psh_n (r : List Value) : psh none r = r := rfl
theorem psh_s (v : Value) (r : List Value) : psh (some v) r = v :: r := rfl
def i_no : Tr := fun _ _ _ _ => False
def i_ild (i q : Nat) : Tr := fun k L s h => match L[i]? with | some (some (.int x)) => k (q, L, .int x :: s, h) | _ => False
def i_lld (i q : Nat) : Tr := fun k L s h => match L[i]? with | some (some (.long x)) => k (q, L, .long x :: s, h) | _ => False
def i_ald (i q : Nat) : Tr := fun k L s h => match L[i]? with | some (some (.ref x)) => k (q, L, .ref x :: s, h) | _ => False
def i_ist (i q : Nat) : Tr := fun k L s h => match s with | .int x :: r => lck L i = true ∧ k (q, L.set i (some (.int x)), r, h) | _ => False
def i_ast (i q : Nat) : Tr := fun k L s h => match s with | .ref x :: r => lck L i = true ∧ k (q, L.set i (some (.ref x)), r, h) | _ => False
def i_lst (i q : Nat) : Tr := fun k L s h => match s with | .long x :: r => (lck L i = true ∧ i + 1 < L.length) ∧ k (q, (L.set i (some (.long x))).set (i + 1) none, r, h) | _ => False
def i_inc (i : Nat) (n : Int32) (q : Nat) : Tr := fun k L s h => match L[i]? with | some (some (.int x)) => lck L i = true ∧ k (q, L.set i (some (.int (x + n))), s, h) | _ => False
def i_ic (v : Int32) (q : Nat) : Tr := fun k L s h => k (q, L, .int v :: s, h)
def i_lc (v : Int64) (q : Nat) : Tr := fun k L s h => k (q, L, .long v :: s, h)
def i_rc (p q : Nat) : Tr := fun k L s h => k (q, L, .ref p :: s, h)
def i_iadd (q : Nat) : Tr := fun k L s h => match s with | .int y :: .int x :: r => k (q, L, .int (x + y) :: r, h) | _ => False
def i_isub (q : Nat) : Tr := fun k L s h => match s with | .int y :: .int x :: r => k (q, L, .int (x - y) :: r, h) | _ => False
def i_imul (q : Nat) : Tr := fun k L s h => match s with | .int y :: .int x :: r => k (q, L, .int (x * y) :: r, h) | _ => False
def i_iand (q : Nat) : Tr := fun k L s h => match s with | .int y :: .int x :: r => k (q, L, .int (x &&& y) :: r, h) | _ => False
def i_ior (q : Nat) : Tr := fun k L s h => match s with | .int y :: .int x :: r => k (q, L, .int (x ||| y) :: r, h) | _ => False
def i_ixor (q : Nat) : Tr := fun k L s h => match s with | .int y :: .int x :: r => k (q, L, .int (x ^^^ y) :: r, h) | _ => False
def i_ishl (q : Nat) : Tr := fun k L s h => match s with | .int y :: .int x :: r => k (q, L, .int (x <<< (y &&& 31)) :: r, h) | _ => False
def i_ishr (q : Nat) : Tr := fun k L s h => match s with | .int y :: .int x :: r => k (q, L, .int (x >>> (y &&& 31)) :: r, h) | _ => False
def i_iushr (q : Nat) : Tr := fun k L s h => match s with | .int y :: .int x :: r => k (q, L, .int ((x.toUInt32 >>> (y.toUInt32 &&& Int32.toUInt32 31)).toInt32) :: r, h) | _ => False
def i_idiv (q : Nat) : Tr := fun k L s h => match s with | .int y :: .int x :: r => (¬ y = 0) ∧ k (q, L, .int (x / y) :: r, h) | _ => False
def i_irem (q : Nat) : Tr := fun k L s h => match s with | .int y :: .int x :: r => (¬ y = 0) ∧ k (q, L, .int (x - x / y * y) :: r, h) | _ => False
def i_ladd (q : Nat) : Tr := fun k L s h => match s with | .long y :: .long x :: r => k (q, L, .long (x + y) :: r, h) | _ => False
def i_lmul (q : Nat) : Tr := fun k L s h => match s with | .long y :: .long x :: r => k (q, L, .long (x * y) :: r, h) | _ => False
def i_land (q : Nat) : Tr := fun k L s h => match s with | .long y :: .long x :: r => k (q, L, .long (x &&& y) :: r, h) | _ => False
def i_lor (q : Nat) : Tr := fun k L s h => match s with | .long y :: .long x :: r => k (q, L, .long (x ||| y) :: r, h) | _ => False
def i_ldiv (q : Nat) : Tr := fun k L s h => match s with | .long y :: .long x :: r => (¬ y = 0) ∧ k (q, L, .long (x / y) :: r, h) | _ => False
def i_lrem (q : Nat) : Tr := fun k L s h => match s with | .long y :: .long x :: r => (¬ y = 0) ∧ k (q, L, .long (x - x / y * y) :: r, h) | _ => False
def i_lshl (q : Nat) : Tr := fun k L s h => match s with | .int y :: .long x :: r => k (q, L, .long (x <<< (y.toInt64 &&& 63)) :: r, h) | _ => False
def i_lshr (q : Nat) : Tr := fun k L s h => match s with | .int y :: .long x :: r => k (q, L, .long (x >>> (y.toInt64 &&& 63)) :: r, h) | _ => False
def i_lushr (q : Nat) : Tr := fun k L s h => match s with | .int y :: .long x :: r => k (q, L, .long ((x.toUInt64 >>> (y.toInt64.toUInt64 &&& Int64.toUInt64 63)).toInt64) :: r, h) | _ => False
def i_lcmp (q : Nat) : Tr := fun k L s h => match s with | .long y :: .long x :: r => k (q, L, .int (lg_cmp x y) :: r, h) | _ => False
def i_i2l (q : Nat) : Tr := fun k L s h => match s with | .int x :: r => k (q, L, .long x.toInt64 :: r, h) | _ => False
def i_l2i (q : Nat) : Tr := fun k L s h => match s with | .long x :: r => k (q, L, .int x.toInt32 :: r, h) | _ => False
def i_i2b (q : Nat) : Tr := fun k L s h => match s with | .int x :: r => k (q, L, .int x.toInt8.toInt32 :: r, h) | _ => False
def i_i2s (q : Nat) : Tr := fun k L s h => match s with | .int x :: r => k (q, L, .int x.toInt16.toInt32 :: r, h) | _ => False
def i_dup (q : Nat) : Tr := fun k L s h => match s with | .int x :: r => k (q, L, .int x :: .int x :: r, h) | .ref p :: r => k (q, L, .ref p :: .ref p :: r, h) | _ => False
def i_dup2 (q : Nat) : Tr := fun k L s h => match s with | .int x :: .ref p :: r => k (q, L, .int x :: .ref p :: .int x :: .ref p :: r, h) | _ => False
def i_goto (t : Nat) : Tr := fun k L s h => k (t, L, s, h)
def i_if_eq (t q : Nat) : Tr := fun k L s h => match s with | .int x :: r => (x = 0 → k (t, L, r, h)) ∧ (¬ x = 0 → k (q, L, r, h)) | _ => False
def i_if_ne (t q : Nat) : Tr := fun k L s h => match s with | .int x :: r => (¬ x = 0 → k (t, L, r, h)) ∧ (x = 0 → k (q, L, r, h)) | _ => False
def i_if_lt (t q : Nat) : Tr := fun k L s h => match s with | .int x :: r => (x < 0 → k (t, L, r, h)) ∧ (¬ x < 0 → k (q, L, r, h)) | _ => False
def i_if_ge (t q : Nat) : Tr := fun k L s h => match s with | .int x :: r => (0 ≤ x → k (t, L, r, h)) ∧ (¬ 0 ≤ x → k (q, L, r, h)) | _ => False
def i_if_gt (t q : Nat) : Tr := fun k L s h => match s with | .int x :: r => (0 < x → k (t, L, r, h)) ∧ (¬ 0 < x → k (q, L, r, h)) | _ => False
def i_if_le (t q : Nat) : Tr := fun k L s h => match s with | .int x :: r => (x ≤ 0 → k (t, L, r, h)) ∧ (¬ x ≤ 0 → k (q, L, r, h)) | _ => False
def i_ic_eq (t q : Nat) : Tr := fun k L s h => match s with | .int y :: .int x :: r => (x = y → k (t, L, r, h)) ∧ (¬ x = y → k (q, L, r, h)) | _ => False
def i_ic_ne (t q : Nat) : Tr := fun k L s h => match s with | .int y :: .int x :: r => (¬ x = y → k (t, L, r, h)) ∧ (x = y → k (q, L, r, h)) | _ => False
def i_ic_lt (t q : Nat) : Tr := fun k L s h => match s with | .int y :: .int x :: r => (x < y → k (t, L, r, h)) ∧ (¬ x < y → k (q, L, r, h)) | _ => False
def i_ic_ge (t q : Nat) : Tr := fun k L s h => match s with | .int y :: .int x :: r => (y ≤ x → k (t, L, r, h)) ∧ (¬ y ≤ x → k (q, L, r, h)) | _ => False
def i_ic_gt (t q : Nat) : Tr := fun k L s h => match s with | .int y :: .int x :: r => (y < x → k (t, L, r, h)) ∧ (¬ y < x → k (q, L, r, h)) | _ => False
def i_ic_le (t q : Nat) : Tr := fun k L s h => match s with | .int y :: .int x :: r => (x ≤ y → k (t, L, r, h)) ∧ (¬ x ≤ y → k (q, L, r, h)) | _ => False
def i_sw (cs : List (Int32 × Nat)) (d : Nat) : Tr := fun k L s h => match s with | .int x :: r => (∀ c ∈ cs, x = c.1 → k (c.2, L, r, h)) ∧ ((∀ c ∈ cs, ¬ x = c.1) → k (d, L, r, h)) | _ => False
def i_get (ci j q : Nat) : Tr := fun k L s h => match s with | .ref p :: r => ocl p = some ci ∧ k (q, L, fv p j h :: r, h) | _ => False
def i_put (ci j q : Nat) : Tr := fun k L s h => match s with | .int x :: .ref p :: r => (ocl p = some ci ∧ lay p j = none) ∧ k (q, L, r, up2 h p j x) | _ => False
def i_putz (ci j q : Nat) : Tr := fun k L s h => match s with | .int x :: .ref p :: r => (ocl p = some ci ∧ lay p j = none) ∧ (x = 0 ∨ x = 1) ∧ k (q, L, r, up2 h p j x) | _ => False
def i_iald (q : Nat) : Tr := fun k L s h => match s with | .int i :: .ref p :: r => (match rdA p h with | some a => vp_in i a.1 ∧ k (q, L, .int (a.2 i.toNatClampNeg) :: r, h) | none => False) | _ => False
def i_iast (q : Nat) : Tr := fun k L s h => match s with | .int x :: .int i :: .ref p :: r => (match alen p with | some n => vp_in i n ∧ k (q, L, r, up2 h p i.toNatClampNeg x) | none => False) | _ => False
def i_aald (q : Nat) : Tr := fun k L s h => match s with | .int i :: .ref p :: r => (match ral p with | some b => vp_in i 4 ∧ k (q, L, .ref (b + i.toNatClampNeg) :: r, h) | none => False) | _ => False
def i_alen (q : Nat) : Tr := fun k L s h => match s with | .ref p :: r => (match rdA p h with | some a => k (q, L, .int (nI a.1) :: r, h) | none => False) | _ => False
def i_sgv (q : Nat) : Tr := fun k L s h => match s with | .ref p :: r => (match stc p with | some t => k (q, L, .ref (p + 100) :: r, h) | none => False) | _ => False
def i_sgc (q : Nat) : Tr := fun k L s h => match s with | .ref p :: r => (match stc p with | some t => k (q, L, .int 0 :: r, h) | none => False) | _ => False
def i_balen (q : Nat) : Tr := fun k L s h => match s with | .ref p :: r => (match sba p with | some t => k (q, L, .int (nI t.length) :: r, h) | none => False) | _ => False
def i_bald (q : Nat) : Tr := fun k L s h => match s with | .int i :: .ref p :: r => (match sba p with | some t => vp_in i t.length ∧ k (q, L, .int (nI (t.getD i.toNatClampNeg 0)) :: r, h) | none => False) | _ => False
def i_i2c (q : Nat) : Tr := fun k L s h => match s with | .int x :: r => k (q, L, .int (x.toUInt32 % 65536).toInt32 :: r, h) | _ => False
def i_pop (q : Nat) : Tr := fun k L s h => match s with | .int x :: r => k (q, L, r, h) | _ => False
def i_gsf (q : Nat) : Tr := fun k L s h => k (q, L, .null :: s, h) ∧ k (q, L, .ref 400 :: s, h)
def i_cE (n : Nat) (S : Sp) (q : Nat) : Tr := fun k L s h => match pops (n + 1) [] s with | some (.ref p :: as, r) => (∃ t, stc p = some t) ∧ csum r ≤ 8 ∧ S (.ref p :: as) h (fun v h1 => k (q, L, psh v r, h1)) | _ => False
def i_cret (Q : Po) : Tr := fun k L s h => match s with | [.int x] => (∃ n, n < 65536 ∧ x = nI n) ∧ Q (some (.int x)) h | _ => False
def i_bret (Q : Po) : Tr := fun k L s h => match s with | [.int x] => x = 0 ∧ Q (some (.int x)) h | _ => False
def i_copy (q : Nat) : Tr := fun k L s h => match s with | .int n :: .int dp :: .ref d :: .int sp :: .ref p :: r => (match rdA p h, alen d with | some a, some m => csum r ≤ 8 ∧ (¬ sp < 0 ∧ ¬ dp < 0 ∧ ¬ n < 0 ∧ sp.toNatClampNeg + n.toNatClampNeg ≤ a.1 ∧ dp.toNatClampNeg + n.toNatClampNeg ≤ m) ∧ k (q, L, r, upA h d (va_cpy a.2 (h d) sp.toNatClampNeg dp.toNatClampNeg n.toNatClampNeg)) | _, _ => False) | _ => False
def i_cS (n : Nat) (S : Sp) (q : Nat) : Tr := fun k L s h => match pops n [] s with | some (av, r) => csum r ≤ 8 ∧ S av h (fun v h1 => k (q, L, psh v r, h1)) | none => False
def i_cV (n ci : Nat) (S : Sp) (q : Nat) : Tr := fun k L s h => match pops (n + 1) [] s with | some (.ref p :: as, r) => ocl p = some ci ∧ csum r ≤ 8 ∧ S (.ref p :: as) h (fun v h1 => k (q, L, psh v r, h1)) | _ => False
def i_iret (Q : Po) : Tr := fun k L s h => match s with | [.int x] => Q (some (.int x)) h | _ => False
def i_zret (Q : Po) : Tr := fun k L s h => match s with | [.int x] => (x = 0 ∨ x = 1) ∧ Q (some (.int x)) h | _ => False
def i_lret (Q : Po) : Tr := fun k L s h => match s with | [.long x] => Q (some (.long x)) h | _ => False
def i_vret (Q : Po) : Tr := fun k L s h => match s with | [] => Q none h | _ => False
def nd (c : Nat) (a b : Nat → Tr) : Nat → Tr := fun pc => if pc < c then a pc else b pc
def lf (n : Nat) (t : Tr) : Nat → Tr := fun pc => if pc = n then t else i_no
def wpn (T : Nat → Tr) (C : List Nat) : Nat → (St → Prop) → St → Prop
  | 0, _, _ => False
  | n + 1, K, st => if C.contains st.1 then K st else T st.1 (wpn T C n K) st.2.1 st.2.2.1 st.2.2.2
/-- what every judgement of states that is closed under the steps holds of -/
def Cl (T : Nat → Tr) (J : St → Prop) : Prop := ∀ (pc : Nat) (k : St → Prop) (L : Lo) (s : List Value) (h : Hp), T pc k L s h → (∀ st, k st → J st) → J (pc, L, s, h)
/-- from this state the code runs to its end and Q holds there -/
def Rn (T : Nat → Tr) (st : St) : Prop := ∀ J : St → Prop, Cl T J → J st
theorem Rn_at {T : Nat → Tr} {pc : Nat} {L : Lo} {s : List Value} {h : Hp} (k : St → Prop) (h1 : T pc k L s h) (h2 : ∀ st, k st → Rn T st) : Rn T (pc, L, s, h) := fun J hJ => hJ pc k L s h h1 (fun st hk => h2 st hk J hJ)
theorem Rn_wp {T : Nat → Tr} {C : List Nat} {K : St → Prop} (hK : ∀ st, K st → Rn T st) : ∀ (n : Nat) (st : St), wpn T C n K st → Rn T st
  | 0, _, h => h.elim
  | n + 1, (pc, L, s, h), hw => by
    unfold wpn at hw
    by_cases hc : C.contains pc = true
    · rw [if_pos hc] at hw
      exact hK _ hw
    · rw [if_neg hc] at hw
      exact Rn_at (wpn T C n K) hw (fun st h => Rn_wp hK n st h)
/-- at a loop's head: one step is made in any case -/
theorem Rn_go {T : Nat → Tr} (C : List Nat) (n : Nat) {pc : Nat} {L : Lo} {s : List Value} {h : Hp} (h1 : T pc (wpn T C n (Rn T)) L s h) : Rn T (pc, L, s, h) := Rn_at _ h1 (fun st h => Rn_wp (fun _ h => h) n st h)
theorem Rn_in {T : Nat → Tr} (C : List Nat) (n : Nat) {st : St} (h1 : wpn T C n (Rn T) st) : Rn T st := Rn_wp (fun _ h => h) n st h1
/-- the locals at a method's entry -/
def lay0 : List Value → Lo
  | [] => []
  | v :: r => if v.category = 2 then some v :: none :: lay0 r else some v :: lay0 r
theorem lay0_0 : lay0 [] = [] := rfl
theorem lay0_i (x : Int32) (r : List Value) : lay0 (.int x :: r) = some (.int x) :: lay0 r := rfl
theorem lay0_r (x : Nat) (r : List Value) : lay0 (.ref x :: r) = some (.ref x) :: lay0 r := rfl
theorem lay0_l (x : Int64) (r : List Value) : lay0 (.long x :: r) = some (.long x) :: none :: lay0 r := rfl
def ent (nL : Nat) (av : List Value) : Lo := lay0 av ++ List.replicate (nL - (lay0 av).length) none
