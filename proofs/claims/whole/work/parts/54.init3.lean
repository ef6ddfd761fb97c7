/-- the model before its barges stand -/
def modW (g : Gp) (a : Nat) (Q : Nat → Nat) : va_W := [(a, .inr (7, [.int 0, .ref (Q 46), .ref (Q 47), .int (nI 2), .int 0, .ref (Q 48), .int 0, .ref (Q 49), .int 0, .int 0, .long 0, .int 0, .int 0, .int 0, .int 0, .int 0, .ref (Q 50), .ref (Q 51), .ref (Q 52), .ref (Q 53), .ref (Q 54), .int 0, .int 0, .ref (Q 55), .ref (Q 56), .ref (Q 57), .ref (Q 58), .ref (Q 59)])), ((Q 46), .inl (g.cI, 24, .inl (fun _ => 0))), ((Q 47), .inl (g.cI, 288, .inl (fun _ => 0))), ((Q 48), .inl (g.cI, 16, .inl (fun _ => 0))), ((Q 49), .inl (g.cI, 200, .inl (fun _ => 0))), ((Q 50), .inl (g.cI, 48, .inl (fun _ => 0))), ((Q 51), .inl (g.cI, 21, .inl (fun _ => 0))), ((Q 52), .inl (g.cI, 42, .inl (fun _ => 0))), ((Q 53), .inl (g.cZ, 2, .inl (fun _ => 0))), ((Q 54), .inl (g.cI, 24150, .inl (fun _ => 0))), ((Q 55), .inl (g.cI, 24, .inl (fun _ => 0))), ((Q 56), .inl (g.cI, 24, .inl (fun _ => 0))), ((Q 57), .inl (g.cI, 24, .inl (fun _ => 0))), ((Q 58), .inl (g.cI, 24, .inl (fun _ => 0))), ((Q 59), .inl (g.cJ, 8694, .inr (.inl (fun _ => 0))))]
def adW (f : Nat → Nat) (a : Nat) (Q : Nat → Nat) : Nat → Nat := fun k => if k = 71 then a else if 46 ≤ k ∧ k < 60 then Q k else f k
def I0 : List Int32 := [nI 0, nI 2, nI 0, nI 0, nI 3, nI 0, nI 0, -1, nI 0, nI 0, nI 0, nI 0, nI 0, 0, nI 2, 0, 0, 0, 0, 0, 0, 0, 0, 0, 0, 0]
def sg0 : Sg := (fun j => I0.getD j 0, fun k => if k = 28 then fillA (fun _ => 0) (-2) 112 else if k = 31 then fillA (fun _ => 0) (nI 160) 24 else if k = 33 then fillA (fun _ => 0) (nI 160) 24 else fun _ => 0, fun _ _ => 0, 0)
def posW : List Nat := [2, 3, 4, 5, 6, 7, 8, 9, 10, 11, 13, 14, 16, 17, 18, 19, 20, 23, 24, 25, 26, 27, 29, 30, 31, 32, 33, 34, 36, 37, 38, 40, 41, 43, 44, 45, 46, 47, 48, 50, 51, 52, 53, 54, 55, 56, 58, 59, 60, 61, 62, 63, 64, 65, 66, 67, 68, 69, 70, 71, 21, 0, 1, 12, 15, 22, 28, 39, 42, 35, 49, 57]
theorem posW_inj : ∀ i, i < 72 → ∀ j, j < 72 → posW.getD i 0 = posW.getD j 0 → i = j := by decide +kernel
theorem mw_0 (g : Gp) (f : Nat → Nat) (a : Nat) (Q : Nat → Nat) : (kbW g f ++ modW g a Q)[2]? = some (adW f a Q 0, ceE g (adW f a Q) sg0 0) := rfl
theorem mw_1 (g : Gp) (f : Nat → Nat) (a : Nat) (Q : Nat → Nat) : (kbW g f ++ modW g a Q)[3]? = some (adW f a Q 1, ceE g (adW f a Q) sg0 1) := rfl
theorem mw_2 (g : Gp) (f : Nat → Nat) (a : Nat) (Q : Nat → Nat) : (kbW g f ++ modW g a Q)[4]? = some (adW f a Q 2, ceE g (adW f a Q) sg0 2) := rfl
theorem mw_3 (g : Gp) (f : Nat → Nat) (a : Nat) (Q : Nat → Nat) : (kbW g f ++ modW g a Q)[5]? = some (adW f a Q 3, ceE g (adW f a Q) sg0 3) := rfl
theorem mw_4 (g : Gp) (f : Nat → Nat) (a : Nat) (Q : Nat → Nat) : (kbW g f ++ modW g a Q)[6]? = some (adW f a Q 4, ceE g (adW f a Q) sg0 4) := rfl
theorem mw_5 (g : Gp) (f : Nat → Nat) (a : Nat) (Q : Nat → Nat) : (kbW g f ++ modW g a Q)[7]? = some (adW f a Q 5, ceE g (adW f a Q) sg0 5) := rfl
theorem mw_6 (g : Gp) (f : Nat → Nat) (a : Nat) (Q : Nat → Nat) : (kbW g f ++ modW g a Q)[8]? = some (adW f a Q 6, ceE g (adW f a Q) sg0 6) := rfl
theorem mw_7 (g : Gp) (f : Nat → Nat) (a : Nat) (Q : Nat → Nat) : (kbW g f ++ modW g a Q)[9]? = some (adW f a Q 7, ceE g (adW f a Q) sg0 7) := rfl
theorem mw_8 (g : Gp) (f : Nat → Nat) (a : Nat) (Q : Nat → Nat) : (kbW g f ++ modW g a Q)[10]? = some (adW f a Q 8, ceE g (adW f a Q) sg0 8) := rfl
theorem mw_9 (g : Gp) (f : Nat → Nat) (a : Nat) (Q : Nat → Nat) : (kbW g f ++ modW g a Q)[11]? = some (adW f a Q 9, ceE g (adW f a Q) sg0 9) := rfl
theorem mw_10 (g : Gp) (f : Nat → Nat) (a : Nat) (Q : Nat → Nat) : (kbW g f ++ modW g a Q)[13]? = some (adW f a Q 10, ceE g (adW f a Q) sg0 10) := rfl
theorem mw_11 (g : Gp) (f : Nat → Nat) (a : Nat) (Q : Nat → Nat) : (kbW g f ++ modW g a Q)[14]? = some (adW f a Q 11, ceE g (adW f a Q) sg0 11) := rfl
theorem mw_12 (g : Gp) (f : Nat → Nat) (a : Nat) (Q : Nat → Nat) : (kbW g f ++ modW g a Q)[16]? = some (adW f a Q 12, ceE g (adW f a Q) sg0 12) := rfl
theorem mw_13 (g : Gp) (f : Nat → Nat) (a : Nat) (Q : Nat → Nat) : (kbW g f ++ modW g a Q)[17]? = some (adW f a Q 13, ceE g (adW f a Q) sg0 13) := rfl
theorem mw_14 (g : Gp) (f : Nat → Nat) (a : Nat) (Q : Nat → Nat) : (kbW g f ++ modW g a Q)[18]? = some (adW f a Q 14, ceE g (adW f a Q) sg0 14) := rfl
theorem mw_15 (g : Gp) (f : Nat → Nat) (a : Nat) (Q : Nat → Nat) : (kbW g f ++ modW g a Q)[19]? = some (adW f a Q 15, ceE g (adW f a Q) sg0 15) := rfl
theorem mw_16 (g : Gp) (f : Nat → Nat) (a : Nat) (Q : Nat → Nat) : (kbW g f ++ modW g a Q)[20]? = some (adW f a Q 16, ceE g (adW f a Q) sg0 16) := rfl
theorem mw_17 (g : Gp) (f : Nat → Nat) (a : Nat) (Q : Nat → Nat) : (kbW g f ++ modW g a Q)[23]? = some (adW f a Q 17, ceE g (adW f a Q) sg0 17) := rfl
theorem mw_18 (g : Gp) (f : Nat → Nat) (a : Nat) (Q : Nat → Nat) : (kbW g f ++ modW g a Q)[24]? = some (adW f a Q 18, ceE g (adW f a Q) sg0 18) := rfl
theorem mw_19 (g : Gp) (f : Nat → Nat) (a : Nat) (Q : Nat → Nat) : (kbW g f ++ modW g a Q)[25]? = some (adW f a Q 19, ceE g (adW f a Q) sg0 19) := rfl
theorem mw_20 (g : Gp) (f : Nat → Nat) (a : Nat) (Q : Nat → Nat) : (kbW g f ++ modW g a Q)[26]? = some (adW f a Q 20, ceE g (adW f a Q) sg0 20) := rfl
theorem mw_21 (g : Gp) (f : Nat → Nat) (a : Nat) (Q : Nat → Nat) : (kbW g f ++ modW g a Q)[27]? = some (adW f a Q 21, ceE g (adW f a Q) sg0 21) := rfl
theorem mw_22 (g : Gp) (f : Nat → Nat) (a : Nat) (Q : Nat → Nat) : (kbW g f ++ modW g a Q)[29]? = some (adW f a Q 22, ceE g (adW f a Q) sg0 22) := rfl
theorem mw_23 (g : Gp) (f : Nat → Nat) (a : Nat) (Q : Nat → Nat) : (kbW g f ++ modW g a Q)[30]? = some (adW f a Q 23, ceE g (adW f a Q) sg0 23) := rfl
theorem mw_24 (g : Gp) (f : Nat → Nat) (a : Nat) (Q : Nat → Nat) : (kbW g f ++ modW g a Q)[31]? = some (adW f a Q 24, ceE g (adW f a Q) sg0 24) := rfl
theorem mw_25 (g : Gp) (f : Nat → Nat) (a : Nat) (Q : Nat → Nat) : (kbW g f ++ modW g a Q)[32]? = some (adW f a Q 25, ceE g (adW f a Q) sg0 25) := rfl
theorem mw_26 (g : Gp) (f : Nat → Nat) (a : Nat) (Q : Nat → Nat) : (kbW g f ++ modW g a Q)[33]? = some (adW f a Q 26, ceE g (adW f a Q) sg0 26) := rfl
theorem mw_27 (g : Gp) (f : Nat → Nat) (a : Nat) (Q : Nat → Nat) : (kbW g f ++ modW g a Q)[34]? = some (adW f a Q 27, ceE g (adW f a Q) sg0 27) := rfl
theorem mw_28 (g : Gp) (f : Nat → Nat) (a : Nat) (Q : Nat → Nat) : (kbW g f ++ modW g a Q)[36]? = some (adW f a Q 28, ceE g (adW f a Q) sg0 28) := rfl
theorem mw_29 (g : Gp) (f : Nat → Nat) (a : Nat) (Q : Nat → Nat) : (kbW g f ++ modW g a Q)[37]? = some (adW f a Q 29, ceE g (adW f a Q) sg0 29) := rfl
theorem mw_30 (g : Gp) (f : Nat → Nat) (a : Nat) (Q : Nat → Nat) : (kbW g f ++ modW g a Q)[38]? = some (adW f a Q 30, ceE g (adW f a Q) sg0 30) := rfl
theorem mw_31 (g : Gp) (f : Nat → Nat) (a : Nat) (Q : Nat → Nat) : (kbW g f ++ modW g a Q)[40]? = some (adW f a Q 31, ceE g (adW f a Q) sg0 31) := rfl
theorem mw_32 (g : Gp) (f : Nat → Nat) (a : Nat) (Q : Nat → Nat) : (kbW g f ++ modW g a Q)[41]? = some (adW f a Q 32, ceE g (adW f a Q) sg0 32) := rfl
theorem mw_33 (g : Gp) (f : Nat → Nat) (a : Nat) (Q : Nat → Nat) : (kbW g f ++ modW g a Q)[43]? = some (adW f a Q 33, ceE g (adW f a Q) sg0 33) := rfl
theorem mw_34 (g : Gp) (f : Nat → Nat) (a : Nat) (Q : Nat → Nat) : (kbW g f ++ modW g a Q)[44]? = some (adW f a Q 34, ceE g (adW f a Q) sg0 34) := rfl
theorem mw_35 (g : Gp) (f : Nat → Nat) (a : Nat) (Q : Nat → Nat) : (kbW g f ++ modW g a Q)[45]? = some (adW f a Q 35, ceE g (adW f a Q) sg0 35) := rfl
theorem mw_36 (g : Gp) (f : Nat → Nat) (a : Nat) (Q : Nat → Nat) : (kbW g f ++ modW g a Q)[46]? = some (adW f a Q 36, ceE g (adW f a Q) sg0 36) := rfl
theorem mw_37 (g : Gp) (f : Nat → Nat) (a : Nat) (Q : Nat → Nat) : (kbW g f ++ modW g a Q)[47]? = some (adW f a Q 37, ceE g (adW f a Q) sg0 37) := rfl
theorem mw_38 (g : Gp) (f : Nat → Nat) (a : Nat) (Q : Nat → Nat) : (kbW g f ++ modW g a Q)[48]? = some (adW f a Q 38, ceE g (adW f a Q) sg0 38) := rfl
theorem mw_39 (g : Gp) (f : Nat → Nat) (a : Nat) (Q : Nat → Nat) : (kbW g f ++ modW g a Q)[50]? = some (adW f a Q 39, ceE g (adW f a Q) sg0 39) := rfl
theorem mw_40 (g : Gp) (f : Nat → Nat) (a : Nat) (Q : Nat → Nat) : (kbW g f ++ modW g a Q)[51]? = some (adW f a Q 40, ceE g (adW f a Q) sg0 40) := rfl
theorem mw_41 (g : Gp) (f : Nat → Nat) (a : Nat) (Q : Nat → Nat) : (kbW g f ++ modW g a Q)[52]? = some (adW f a Q 41, ceE g (adW f a Q) sg0 41) := rfl
theorem mw_42 (g : Gp) (f : Nat → Nat) (a : Nat) (Q : Nat → Nat) : (kbW g f ++ modW g a Q)[53]? = some (adW f a Q 42, ceE g (adW f a Q) sg0 42) := rfl
theorem mw_43 (g : Gp) (f : Nat → Nat) (a : Nat) (Q : Nat → Nat) : (kbW g f ++ modW g a Q)[54]? = some (adW f a Q 43, ceE g (adW f a Q) sg0 43) := rfl
theorem mw_44 (g : Gp) (f : Nat → Nat) (a : Nat) (Q : Nat → Nat) : (kbW g f ++ modW g a Q)[55]? = some (adW f a Q 44, ceE g (adW f a Q) sg0 44) := rfl
theorem mw_45 (g : Gp) (f : Nat → Nat) (a : Nat) (Q : Nat → Nat) : (kbW g f ++ modW g a Q)[56]? = some (adW f a Q 45, ceE g (adW f a Q) sg0 45) := rfl
theorem mw_46 (g : Gp) (f : Nat → Nat) (a : Nat) (Q : Nat → Nat) : (kbW g f ++ modW g a Q)[58]? = some (adW f a Q 46, ceE g (adW f a Q) sg0 46) := rfl
theorem mw_47 (g : Gp) (f : Nat → Nat) (a : Nat) (Q : Nat → Nat) : (kbW g f ++ modW g a Q)[59]? = some (adW f a Q 47, ceE g (adW f a Q) sg0 47) := rfl
theorem mw_48 (g : Gp) (f : Nat → Nat) (a : Nat) (Q : Nat → Nat) : (kbW g f ++ modW g a Q)[60]? = some (adW f a Q 48, ceE g (adW f a Q) sg0 48) := rfl
theorem mw_49 (g : Gp) (f : Nat → Nat) (a : Nat) (Q : Nat → Nat) : (kbW g f ++ modW g a Q)[61]? = some (adW f a Q 49, ceE g (adW f a Q) sg0 49) := rfl
theorem mw_50 (g : Gp) (f : Nat → Nat) (a : Nat) (Q : Nat → Nat) : (kbW g f ++ modW g a Q)[62]? = some (adW f a Q 50, ceE g (adW f a Q) sg0 50) := rfl
theorem mw_51 (g : Gp) (f : Nat → Nat) (a : Nat) (Q : Nat → Nat) : (kbW g f ++ modW g a Q)[63]? = some (adW f a Q 51, ceE g (adW f a Q) sg0 51) := rfl
theorem mw_52 (g : Gp) (f : Nat → Nat) (a : Nat) (Q : Nat → Nat) : (kbW g f ++ modW g a Q)[64]? = some (adW f a Q 52, ceE g (adW f a Q) sg0 52) := rfl
theorem mw_53 (g : Gp) (f : Nat → Nat) (a : Nat) (Q : Nat → Nat) : (kbW g f ++ modW g a Q)[65]? = some (adW f a Q 53, ceE g (adW f a Q) sg0 53) := rfl
theorem mw_54 (g : Gp) (f : Nat → Nat) (a : Nat) (Q : Nat → Nat) : (kbW g f ++ modW g a Q)[66]? = some (adW f a Q 54, ceE g (adW f a Q) sg0 54) := rfl
theorem mw_55 (g : Gp) (f : Nat → Nat) (a : Nat) (Q : Nat → Nat) : (kbW g f ++ modW g a Q)[67]? = some (adW f a Q 55, ceE g (adW f a Q) sg0 55) := rfl
theorem mw_56 (g : Gp) (f : Nat → Nat) (a : Nat) (Q : Nat → Nat) : (kbW g f ++ modW g a Q)[68]? = some (adW f a Q 56, ceE g (adW f a Q) sg0 56) := rfl
theorem mw_57 (g : Gp) (f : Nat → Nat) (a : Nat) (Q : Nat → Nat) : (kbW g f ++ modW g a Q)[69]? = some (adW f a Q 57, ceE g (adW f a Q) sg0 57) := rfl
theorem mw_58 (g : Gp) (f : Nat → Nat) (a : Nat) (Q : Nat → Nat) : (kbW g f ++ modW g a Q)[70]? = some (adW f a Q 58, ceE g (adW f a Q) sg0 58) := rfl
theorem mw_59 (g : Gp) (f : Nat → Nat) (a : Nat) (Q : Nat → Nat) : (kbW g f ++ modW g a Q)[71]? = some (adW f a Q 59, ceE g (adW f a Q) sg0 59) := rfl
theorem mw_60 (g : Gp) (f : Nat → Nat) (a : Nat) (Q : Nat → Nat) : (kbW g f ++ modW g a Q)[21]? = some (adW f a Q 60, ceE g (adW f a Q) sg0 60) := rfl
theorem mw_61 (g : Gp) (f : Nat → Nat) (a : Nat) (Q : Nat → Nat) : (kbW g f ++ modW g a Q)[0]? = some (adW f a Q 61, ceE g (adW f a Q) sg0 61) := rfl
theorem mw_62 (g : Gp) (f : Nat → Nat) (a : Nat) (Q : Nat → Nat) : (kbW g f ++ modW g a Q)[1]? = some (adW f a Q 62, ceE g (adW f a Q) sg0 62) := rfl
theorem mw_63 (g : Gp) (f : Nat → Nat) (a : Nat) (Q : Nat → Nat) : (kbW g f ++ modW g a Q)[12]? = some (adW f a Q 63, ceE g (adW f a Q) sg0 63) := rfl
theorem mw_64 (g : Gp) (f : Nat → Nat) (a : Nat) (Q : Nat → Nat) : (kbW g f ++ modW g a Q)[15]? = some (adW f a Q 64, ceE g (adW f a Q) sg0 64) := rfl
theorem mw_65 (g : Gp) (f : Nat → Nat) (a : Nat) (Q : Nat → Nat) : (kbW g f ++ modW g a Q)[22]? = some (adW f a Q 65, ceE g (adW f a Q) sg0 65) := rfl
theorem mw_66 (g : Gp) (f : Nat → Nat) (a : Nat) (Q : Nat → Nat) : (kbW g f ++ modW g a Q)[28]? = some (adW f a Q 66, ceE g (adW f a Q) sg0 66) := rfl
theorem mw_67 (g : Gp) (f : Nat → Nat) (a : Nat) (Q : Nat → Nat) : (kbW g f ++ modW g a Q)[39]? = some (adW f a Q 67, ceE g (adW f a Q) sg0 67) := rfl
theorem mw_68 (g : Gp) (f : Nat → Nat) (a : Nat) (Q : Nat → Nat) : (kbW g f ++ modW g a Q)[42]? = some (adW f a Q 68, ceE g (adW f a Q) sg0 68) := rfl
theorem mw_69 (g : Gp) (f : Nat → Nat) (a : Nat) (Q : Nat → Nat) : (kbW g f ++ modW g a Q)[35]? = some (adW f a Q 69, ceE g (adW f a Q) sg0 69) := rfl
theorem mw_70 (g : Gp) (f : Nat → Nat) (a : Nat) (Q : Nat → Nat) : (kbW g f ++ modW g a Q)[49]? = some (adW f a Q 70, ceE g (adW f a Q) sg0 70) := rfl
theorem mw_71 (g : Gp) (f : Nat → Nat) (a : Nat) (Q : Nat → Nat) : (kbW g f ++ modW g a Q)[57]? = some (adW f a Q 71, ceE g (adW f a Q) sg0 71) := rfl
theorem mw_all (g : Gp) (f : Nat → Nat) (a : Nat) (Q : Nat → Nat) : ∀ k, k < 72 → (kbW g f ++ modW g a Q)[posW.getD k 0]? = some (adW f a Q k, ceE g (adW f a Q) sg0 k)
  | 0, _ => mw_0 g f a Q
  | 1, _ => mw_1 g f a Q
  | 2, _ => mw_2 g f a Q
  | 3, _ => mw_3 g f a Q
  | 4, _ => mw_4 g f a Q
  | 5, _ => mw_5 g f a Q
  | 6, _ => mw_6 g f a Q
  | 7, _ => mw_7 g f a Q
  | 8, _ => mw_8 g f a Q
  | 9, _ => mw_9 g f a Q
  | 10, _ => mw_10 g f a Q
  | 11, _ => mw_11 g f a Q
  | 12, _ => mw_12 g f a Q
  | 13, _ => mw_13 g f a Q
  | 14, _ => mw_14 g f a Q
  | 15, _ => mw_15 g f a Q
  | 16, _ => mw_16 g f a Q
  | 17, _ => mw_17 g f a Q
  | 18, _ => mw_18 g f a Q
  | 19, _ => mw_19 g f a Q
  | 20, _ => mw_20 g f a Q
  | 21, _ => mw_21 g f a Q
  | 22, _ => mw_22 g f a Q
  | 23, _ => mw_23 g f a Q
  | 24, _ => mw_24 g f a Q
  | 25, _ => mw_25 g f a Q
  | 26, _ => mw_26 g f a Q
  | 27, _ => mw_27 g f a Q
  | 28, _ => mw_28 g f a Q
  | 29, _ => mw_29 g f a Q
  | 30, _ => mw_30 g f a Q
  | 31, _ => mw_31 g f a Q
  | 32, _ => mw_32 g f a Q
  | 33, _ => mw_33 g f a Q
  | 34, _ => mw_34 g f a Q
  | 35, _ => mw_35 g f a Q
  | 36, _ => mw_36 g f a Q
  | 37, _ => mw_37 g f a Q
  | 38, _ => mw_38 g f a Q
  | 39, _ => mw_39 g f a Q
  | 40, _ => mw_40 g f a Q
  | 41, _ => mw_41 g f a Q
  | 42, _ => mw_42 g f a Q
  | 43, _ => mw_43 g f a Q
  | 44, _ => mw_44 g f a Q
  | 45, _ => mw_45 g f a Q
  | 46, _ => mw_46 g f a Q
  | 47, _ => mw_47 g f a Q
  | 48, _ => mw_48 g f a Q
  | 49, _ => mw_49 g f a Q
  | 50, _ => mw_50 g f a Q
  | 51, _ => mw_51 g f a Q
  | 52, _ => mw_52 g f a Q
  | 53, _ => mw_53 g f a Q
  | 54, _ => mw_54 g f a Q
  | 55, _ => mw_55 g f a Q
  | 56, _ => mw_56 g f a Q
  | 57, _ => mw_57 g f a Q
  | 58, _ => mw_58 g f a Q
  | 59, _ => mw_59 g f a Q
  | 60, _ => mw_60 g f a Q
  | 61, _ => mw_61 g f a Q
  | 62, _ => mw_62 g f a Q
  | 63, _ => mw_63 g f a Q
  | 64, _ => mw_64 g f a Q
  | 65, _ => mw_65 g f a Q
  | 66, _ => mw_66 g f a Q
  | 67, _ => mw_67 g f a Q
  | 68, _ => mw_68 g f a Q
  | 69, _ => mw_69 g f a Q
  | 70, _ => mw_70 g f a Q
  | 71, _ => mw_71 g f a Q
  | k + 72, h => absurd h (by omega)
theorem wd_of {g : Gp} {ad : Nat → Nat} {σ : Sg} {ws : va_W} {H : Heap} (h : ∀ k, k < 72 → ws[posW.getD k 0]? = some (ad k, ceE g ad σ k)) (hP : va_P g.D vwCl ws H) (hD : va_D (AA g) ws) : Wd g ad σ H := by
  have key : ∀ (k : Nat) (q : Nat × va_E), (wl g ad σ)[k]? = some q → k < 72 ∧ ws[posW.getD k 0]? = some q := by
    intro k q hq
    by_cases hk : k < 72
    · rw [wl_get g ad σ hk] at hq
      rw [← hq]
      exact ⟨hk, h k hk⟩
    · have h1 : (wl g ad σ)[k]? = none := List.getElem?_eq_none (by unfold wl; simpa using Nat.le_of_not_lt hk)
      rw [h1] at hq
      cases hq
  refine ⟨fun k q hq => hP _ q (key k q hq).2, fun i j p q hi hj e => ?_, fun k q hq => hD.2 _ q (key k q hq).2⟩
  exact posW_inj i (key i p hi).1 j (key j q hj).1 (hD.1 _ _ p q (key i p hi).2 (key j q hj).2 e)
def T0 : Tv := fun k _ => if k = 11 then 2 else 0
theorem T0_ok : TOk T0 := by
  refine ⟨fun k i => ?_, Nat.zero_le _, by decide, fun i => ⟨Nat.zero_le _, Nat.zero_le _, Nat.zero_le _⟩, fun i hi => absurd hi (Nat.not_lt_zero _), fun j => ⟨Nat.zero_le _, Nat.zero_le _⟩, fun b => ⟨Nat.zero_le _, Nat.zero_le _, Nat.zero_le _, Nat.zero_le _, Nat.zero_le _⟩, fun b hb => absurd hb (show ¬ (0 : Nat) = 1 by decide)⟩
  show (if k = 11 then 2 else 0) < 256
  split <;> decide
theorem T0_z {k i : Nat} (h : k ≠ 11) : T0 k i = 0 := if_neg h
theorem sg0_A {k : Nat} (h1 : k ≠ 28) (h2 : k ≠ 31) (h3 : k ≠ 33) (i : Nat) : sg0.A k i = nI 0 := by
  show (if k = 28 then fillA (fun _ => 0) (-2) 112 else if k = 31 then fillA (fun _ => 0) (nI 160) 24 else if k = 33 then fillA (fun _ => 0) (nI 160) 24 else fun _ => 0) i = nI 0
  rw [if_neg h1, if_neg h2, if_neg h3]
  rfl
theorem sg0_M : RepM T0 sg0 := by
  refine ⟨rfl, rfl, rfl, fun r hr k hk => ?_, fun j hj => ⟨?_, ?_⟩, fun b hb k hk => ?_⟩
  · rw [sg0_A (by decide) (by decide) (by decide), T0_z (by omega)]
  · rw [sg0_A (by decide) (by decide) (by decide), T0_z (by decide)]
  · rw [sg0_A (by decide) (by decide) (by decide), T0_z (by decide)]
  · rw [sg0_A (by decide) (by decide) (by decide), T0_z (by omega)]
theorem sg0_C : RepC T0 sg0 := by
  refine ⟨rfl, rfl, fun k hk i hi => ?_⟩
  rw [sg0_A (by omega) (by omega) (by omega), T0_z (by omega)]
set_option maxHeartbeats 4000000 in
set_option maxRecDepth 20000 in
theorem c_iX7 {g : Gp} {lau : Launch} {f : Nat → Nat} {a : Nat} : ConP g lau yX7_init cX7_init 1 none 2 41 14 33581 [.ref a] (kbW g f ++ [(a, .inr (7, [.int 0, .null, .null, .int 0, .int 0, .null, .int 0, .null, .int 0, .int 0, .long 0, .int 0, .int 0, .int 0, .int 0, .int 0, .null, .null, .null, .null, .null, .int 0, .int 0, .null, .null, .null, .null, .null]))]) (fun r H => r = none ∧ ∃ (Q : Nat → Nat) (s2 : Sg), Wd g (adW f a Q) s2 H ∧ same [51] [] [] false sg0 s2 ∧ RepN 51 0 (begF T0) s2) := by
  refine con_mkP (by decide) (Nat.le_of_ble_eq_true rfl) (fun x hxl K hr => ?_)
  refine gx_lv (lv' := [(0, .ref a)]) rfl ?_
  refine gx_aload K 0 rfl rfl dX7_init_0 ?_
  refine gx_objInit K oi_RX7 (by decide) (by decide) dX7_init_1 ?_
  refine gx_aload K 0 rfl rfl dX7_init_4 ?_
  refine gx_bipush K (nI 24) (by decide) dX7_init_5 ?_
  refine gx_newI K 24 (nI_pos (by decide)) (nI_clamp (by decide)) (by decide) (Nat.le_of_ble_eq_true rfl) (Nat.le_of_ble_eq_true rfl) dX7_init_7 (fun q0 => ?_)
  refine gx_ap (L' := [(a, .inr (7, [.int 0, .null, .null, .int 0, .int 0, .null, .int 0, .null, .int 0, .int 0, .long 0, .int 0, .int 0, .int 0, .int 0, .int 0, .null, .null, .null, .null, .null, .int 0, .int 0, .null, .null, .null, .null, .null])), (q0, .inl (g.cI, 24, .inl (fun _ => 0)))]) rfl (nc' := 1) (ns' := 24) rfl rfl ?_
  refine gx_putF K 0 (ci := 7) (k := 1) (C := RX7) (T := TX7) (N := 28) (ty := .array (.int)) inX7 tyX7 tyX7_ok nmX7 rfl rfl (by decide) fl_RX7_7 rfl rfl rfl (by decide +kernel) rfl rfl (Nat.le_of_ble_eq_true rfl) (L' := [(a, .inr (7, [.int 0, .ref q0, .null, .int 0, .int 0, .null, .int 0, .null, .int 0, .int 0, .long 0, .int 0, .int 0, .int 0, .int 0, .int 0, .null, .null, .null, .null, .null, .int 0, .int 0, .null, .null, .null, .null, .null])), (q0, .inl (g.cI, 24, .inl (fun _ => 0)))]) rfl dX7_init_9 ?_
  refine gx_aload K 0 rfl rfl dX7_init_12 ?_
  refine gx_sipush K (nI 288) (by decide) dX7_init_13 ?_
  refine gx_newI K 288 (nI_pos (by decide)) (nI_clamp (by decide)) (by decide) (Nat.le_of_ble_eq_true rfl) (Nat.le_of_ble_eq_true rfl) dX7_init_16 (fun q1 => ?_)
  refine gx_ap (L' := [(a, .inr (7, [.int 0, .ref q0, .null, .int 0, .int 0, .null, .int 0, .null, .int 0, .int 0, .long 0, .int 0, .int 0, .int 0, .int 0, .int 0, .null, .null, .null, .null, .null, .int 0, .int 0, .null, .null, .null, .null, .null])), (q0, .inl (g.cI, 24, .inl (fun _ => 0))), (q1, .inl (g.cI, 288, .inl (fun _ => 0)))]) rfl (nc' := 2) (ns' := 312) rfl rfl ?_
  refine gx_putF K 0 (ci := 7) (k := 2) (C := RX7) (T := TX7) (N := 28) (ty := .array (.int)) inX7 tyX7 tyX7_ok nmX7 rfl rfl (by decide) fl_RX7_13 rfl rfl rfl (by decide +kernel) rfl rfl (Nat.le_of_ble_eq_true rfl) (L' := [(a, .inr (7, [.int 0, .ref q0, .ref q1, .int 0, .int 0, .null, .int 0, .null, .int 0, .int 0, .long 0, .int 0, .int 0, .int 0, .int 0, .int 0, .null, .null, .null, .null, .null, .int 0, .int 0, .null, .null, .null, .null, .null])), (q0, .inl (g.cI, 24, .inl (fun _ => 0))), (q1, .inl (g.cI, 288, .inl (fun _ => 0)))]) rfl dX7_init_18 ?_
  refine gx_aload K 0 rfl rfl dX7_init_21 ?_
  refine gx_iconst K (nI 2) (by decide) dX7_init_22 ?_
  refine gx_put K 0 (ci := 7) (k := 3) (C := RX7) (T := TX7) (N := 28) (ty := .int) inX7 tyX7 tyX7_ok nmX7 rfl rfl (by decide) fl_RX7_16 rfl (by decide +kernel) rfl rfl (Nat.le_of_ble_eq_true rfl) (L' := [(a, .inr (7, [.int 0, .ref q0, .ref q1, .int (nI 2), .int 0, .null, .int 0, .null, .int 0, .int 0, .long 0, .int 0, .int 0, .int 0, .int 0, .int 0, .null, .null, .null, .null, .null, .int 0, .int 0, .null, .null, .null, .null, .null])), (q0, .inl (g.cI, 24, .inl (fun _ => 0))), (q1, .inl (g.cI, 288, .inl (fun _ => 0)))]) rfl dX7_init_23 ?_
  refine gx_aload K 0 rfl rfl dX7_init_26 ?_
  refine gx_bipush K (nI 16) (by decide) dX7_init_27 ?_
  refine gx_newI K 16 (nI_pos (by decide)) (nI_clamp (by decide)) (by decide) (Nat.le_of_ble_eq_true rfl) (Nat.le_of_ble_eq_true rfl) dX7_init_29 (fun q2 => ?_)
  refine gx_ap (L' := [(a, .inr (7, [.int 0, .ref q0, .ref q1, .int (nI 2), .int 0, .null, .int 0, .null, .int 0, .int 0, .long 0, .int 0, .int 0, .int 0, .int 0, .int 0, .null, .null, .null, .null, .null, .int 0, .int 0, .null, .null, .null, .null, .null])), (q0, .inl (g.cI, 24, .inl (fun _ => 0))), (q1, .inl (g.cI, 288, .inl (fun _ => 0))), (q2, .inl (g.cI, 16, .inl (fun _ => 0)))]) rfl (nc' := 3) (ns' := 328) rfl rfl ?_
  refine gx_putF K 0 (ci := 7) (k := 5) (C := RX7) (T := TX7) (N := 28) (ty := .array (.int)) inX7 tyX7 tyX7_ok nmX7 rfl rfl (by decide) fl_RX7_20 rfl rfl rfl (by decide +kernel) rfl rfl (Nat.le_of_ble_eq_true rfl) (L' := [(a, .inr (7, [.int 0, .ref q0, .ref q1, .int (nI 2), .int 0, .ref q2, .int 0, .null, .int 0, .int 0, .long 0, .int 0, .int 0, .int 0, .int 0, .int 0, .null, .null, .null, .null, .null, .int 0, .int 0, .null, .null, .null, .null, .null])), (q0, .inl (g.cI, 24, .inl (fun _ => 0))), (q1, .inl (g.cI, 288, .inl (fun _ => 0))), (q2, .inl (g.cI, 16, .inl (fun _ => 0)))]) rfl dX7_init_31 ?_
  refine gx_aload K 0 rfl rfl dX7_init_34 ?_
  refine gx_sipush K (nI 200) (by decide) dX7_init_35 ?_
  refine gx_newI K 200 (nI_pos (by decide)) (nI_clamp (by decide)) (by decide) (Nat.le_of_ble_eq_true rfl) (Nat.le_of_ble_eq_true rfl) dX7_init_38 (fun q3 => ?_)
  refine gx_ap (L' := [(a, .inr (7, [.int 0, .ref q0, .ref q1, .int (nI 2), .int 0, .ref q2, .int 0, .null, .int 0, .int 0, .long 0, .int 0, .int 0, .int 0, .int 0, .int 0, .null, .null, .null, .null, .null, .int 0, .int 0, .null, .null, .null, .null, .null])), (q0, .inl (g.cI, 24, .inl (fun _ => 0))), (q1, .inl (g.cI, 288, .inl (fun _ => 0))), (q2, .inl (g.cI, 16, .inl (fun _ => 0))), (q3, .inl (g.cI, 200, .inl (fun _ => 0)))]) rfl (nc' := 4) (ns' := 528) rfl rfl ?_
  refine gx_putF K 0 (ci := 7) (k := 7) (C := RX7) (T := TX7) (N := 28) (ty := .array (.int)) inX7 tyX7 tyX7_ok nmX7 rfl rfl (by decide) fl_RX7_23 rfl rfl rfl (by decide +kernel) rfl rfl (Nat.le_of_ble_eq_true rfl) (L' := [(a, .inr (7, [.int 0, .ref q0, .ref q1, .int (nI 2), .int 0, .ref q2, .int 0, .ref q3, .int 0, .int 0, .long 0, .int 0, .int 0, .int 0, .int 0, .int 0, .null, .null, .null, .null, .null, .int 0, .int 0, .null, .null, .null, .null, .null])), (q0, .inl (g.cI, 24, .inl (fun _ => 0))), (q1, .inl (g.cI, 288, .inl (fun _ => 0))), (q2, .inl (g.cI, 16, .inl (fun _ => 0))), (q3, .inl (g.cI, 200, .inl (fun _ => 0)))]) rfl dX7_init_40 ?_
  refine gx_aload K 0 rfl rfl dX7_init_43 ?_
  refine gx_bipush K (nI 48) (by decide) dX7_init_44 ?_
  refine gx_newI K 48 (nI_pos (by decide)) (nI_clamp (by decide)) (by decide) (Nat.le_of_ble_eq_true rfl) (Nat.le_of_ble_eq_true rfl) dX7_init_46 (fun q4 => ?_)
  refine gx_ap (L' := [(a, .inr (7, [.int 0, .ref q0, .ref q1, .int (nI 2), .int 0, .ref q2, .int 0, .ref q3, .int 0, .int 0, .long 0, .int 0, .int 0, .int 0, .int 0, .int 0, .null, .null, .null, .null, .null, .int 0, .int 0, .null, .null, .null, .null, .null])), (q0, .inl (g.cI, 24, .inl (fun _ => 0))), (q1, .inl (g.cI, 288, .inl (fun _ => 0))), (q2, .inl (g.cI, 16, .inl (fun _ => 0))), (q3, .inl (g.cI, 200, .inl (fun _ => 0))), (q4, .inl (g.cI, 48, .inl (fun _ => 0)))]) rfl (nc' := 5) (ns' := 576) rfl rfl ?_
  refine gx_putF K 0 (ci := 7) (k := 16) (C := RX7) (T := TX7) (N := 28) (ty := .array (.int)) inX7 tyX7 tyX7_ok nmX7 rfl rfl (by decide) fl_RX7_26 rfl rfl rfl (by decide +kernel) rfl rfl (Nat.le_of_ble_eq_true rfl) (L' := [(a, .inr (7, [.int 0, .ref q0, .ref q1, .int (nI 2), .int 0, .ref q2, .int 0, .ref q3, .int 0, .int 0, .long 0, .int 0, .int 0, .int 0, .int 0, .int 0, .ref q4, .null, .null, .null, .null, .int 0, .int 0, .null, .null, .null, .null, .null])), (q0, .inl (g.cI, 24, .inl (fun _ => 0))), (q1, .inl (g.cI, 288, .inl (fun _ => 0))), (q2, .inl (g.cI, 16, .inl (fun _ => 0))), (q3, .inl (g.cI, 200, .inl (fun _ => 0))), (q4, .inl (g.cI, 48, .inl (fun _ => 0)))]) rfl dX7_init_48 ?_
  refine gx_aload K 0 rfl rfl dX7_init_51 ?_
  refine gx_bipush K (nI 21) (by decide) dX7_init_52 ?_
  refine gx_newI K 21 (nI_pos (by decide)) (nI_clamp (by decide)) (by decide) (Nat.le_of_ble_eq_true rfl) (Nat.le_of_ble_eq_true rfl) dX7_init_54 (fun q5 => ?_)
  refine gx_ap (L' := [(a, .inr (7, [.int 0, .ref q0, .ref q1, .int (nI 2), .int 0, .ref q2, .int 0, .ref q3, .int 0, .int 0, .long 0, .int 0, .int 0, .int 0, .int 0, .int 0, .ref q4, .null, .null, .null, .null, .int 0, .int 0, .null, .null, .null, .null, .null])), (q0, .inl (g.cI, 24, .inl (fun _ => 0))), (q1, .inl (g.cI, 288, .inl (fun _ => 0))), (q2, .inl (g.cI, 16, .inl (fun _ => 0))), (q3, .inl (g.cI, 200, .inl (fun _ => 0))), (q4, .inl (g.cI, 48, .inl (fun _ => 0))), (q5, .inl (g.cI, 21, .inl (fun _ => 0)))]) rfl (nc' := 6) (ns' := 597) rfl rfl ?_
  refine gx_putF K 0 (ci := 7) (k := 17) (C := RX7) (T := TX7) (N := 28) (ty := .array (.int)) inX7 tyX7 tyX7_ok nmX7 rfl rfl (by decide) fl_RX7_29 rfl rfl rfl (by decide +kernel) rfl rfl (Nat.le_of_ble_eq_true rfl) (L' := [(a, .inr (7, [.int 0, .ref q0, .ref q1, .int (nI 2), .int 0, .ref q2, .int 0, .ref q3, .int 0, .int 0, .long 0, .int 0, .int 0, .int 0, .int 0, .int 0, .ref q4, .ref q5, .null, .null, .null, .int 0, .int 0, .null, .null, .null, .null, .null])), (q0, .inl (g.cI, 24, .inl (fun _ => 0))), (q1, .inl (g.cI, 288, .inl (fun _ => 0))), (q2, .inl (g.cI, 16, .inl (fun _ => 0))), (q3, .inl (g.cI, 200, .inl (fun _ => 0))), (q4, .inl (g.cI, 48, .inl (fun _ => 0))), (q5, .inl (g.cI, 21, .inl (fun _ => 0)))]) rfl dX7_init_56 ?_
  refine gx_aload K 0 rfl rfl dX7_init_59 ?_
  refine gx_bipush K (nI 42) (by decide) dX7_init_60 ?_
  refine gx_newI K 42 (nI_pos (by decide)) (nI_clamp (by decide)) (by decide) (Nat.le_of_ble_eq_true rfl) (Nat.le_of_ble_eq_true rfl) dX7_init_62 (fun q6 => ?_)
  refine gx_ap (L' := [(a, .inr (7, [.int 0, .ref q0, .ref q1, .int (nI 2), .int 0, .ref q2, .int 0, .ref q3, .int 0, .int 0, .long 0, .int 0, .int 0, .int 0, .int 0, .int 0, .ref q4, .ref q5, .null, .null, .null, .int 0, .int 0, .null, .null, .null, .null, .null])), (q0, .inl (g.cI, 24, .inl (fun _ => 0))), (q1, .inl (g.cI, 288, .inl (fun _ => 0))), (q2, .inl (g.cI, 16, .inl (fun _ => 0))), (q3, .inl (g.cI, 200, .inl (fun _ => 0))), (q4, .inl (g.cI, 48, .inl (fun _ => 0))), (q5, .inl (g.cI, 21, .inl (fun _ => 0))), (q6, .inl (g.cI, 42, .inl (fun _ => 0)))]) rfl (nc' := 7) (ns' := 639) rfl rfl ?_
  refine gx_putF K 0 (ci := 7) (k := 18) (C := RX7) (T := TX7) (N := 28) (ty := .array (.int)) inX7 tyX7 tyX7_ok nmX7 rfl rfl (by decide) fl_RX7_32 rfl rfl rfl (by decide +kernel) rfl rfl (Nat.le_of_ble_eq_true rfl) (L' := [(a, .inr (7, [.int 0, .ref q0, .ref q1, .int (nI 2), .int 0, .ref q2, .int 0, .ref q3, .int 0, .int 0, .long 0, .int 0, .int 0, .int 0, .int 0, .int 0, .ref q4, .ref q5, .ref q6, .null, .null, .int 0, .int 0, .null, .null, .null, .null, .null])), (q0, .inl (g.cI, 24, .inl (fun _ => 0))), (q1, .inl (g.cI, 288, .inl (fun _ => 0))), (q2, .inl (g.cI, 16, .inl (fun _ => 0))), (q3, .inl (g.cI, 200, .inl (fun _ => 0))), (q4, .inl (g.cI, 48, .inl (fun _ => 0))), (q5, .inl (g.cI, 21, .inl (fun _ => 0))), (q6, .inl (g.cI, 42, .inl (fun _ => 0)))]) rfl dX7_init_64 ?_
  refine gx_aload K 0 rfl rfl dX7_init_67 ?_
  refine gx_iconst K (nI 2) (by decide) dX7_init_68 ?_
  refine gx_newZ K 2 (nI_pos (by decide)) (nI_clamp (by decide)) (by decide) (Nat.le_of_ble_eq_true rfl) (Nat.le_of_ble_eq_true rfl) dX7_init_69 (fun q7 => ?_)
  refine gx_ap (L' := [(a, .inr (7, [.int 0, .ref q0, .ref q1, .int (nI 2), .int 0, .ref q2, .int 0, .ref q3, .int 0, .int 0, .long 0, .int 0, .int 0, .int 0, .int 0, .int 0, .ref q4, .ref q5, .ref q6, .null, .null, .int 0, .int 0, .null, .null, .null, .null, .null])), (q0, .inl (g.cI, 24, .inl (fun _ => 0))), (q1, .inl (g.cI, 288, .inl (fun _ => 0))), (q2, .inl (g.cI, 16, .inl (fun _ => 0))), (q3, .inl (g.cI, 200, .inl (fun _ => 0))), (q4, .inl (g.cI, 48, .inl (fun _ => 0))), (q5, .inl (g.cI, 21, .inl (fun _ => 0))), (q6, .inl (g.cI, 42, .inl (fun _ => 0))), (q7, .inl (g.cZ, 2, .inl (fun _ => 0)))]) rfl (nc' := 8) (ns' := 641) rfl rfl ?_
  refine gx_putF K 0 (ci := 7) (k := 19) (C := RX7) (T := TX7) (N := 28) (ty := .array (.boolean)) inX7 tyX7 tyX7_ok nmX7 rfl rfl (by decide) fl_RX7_35 rfl rfl rfl (by decide +kernel) rfl rfl (Nat.le_of_ble_eq_true rfl) (L' := [(a, .inr (7, [.int 0, .ref q0, .ref q1, .int (nI 2), .int 0, .ref q2, .int 0, .ref q3, .int 0, .int 0, .long 0, .int 0, .int 0, .int 0, .int 0, .int 0, .ref q4, .ref q5, .ref q6, .ref q7, .null, .int 0, .int 0, .null, .null, .null, .null, .null])), (q0, .inl (g.cI, 24, .inl (fun _ => 0))), (q1, .inl (g.cI, 288, .inl (fun _ => 0))), (q2, .inl (g.cI, 16, .inl (fun _ => 0))), (q3, .inl (g.cI, 200, .inl (fun _ => 0))), (q4, .inl (g.cI, 48, .inl (fun _ => 0))), (q5, .inl (g.cI, 21, .inl (fun _ => 0))), (q6, .inl (g.cI, 42, .inl (fun _ => 0))), (q7, .inl (g.cZ, 2, .inl (fun _ => 0)))]) rfl dX7_init_71 ?_
  refine gx_aload K 0 rfl rfl dX7_init_74 ?_
  refine gx_sipush K (nI 24150) (by decide) dX7_init_75 ?_
  refine gx_newI K 24150 (nI_pos (by decide)) (nI_clamp (by decide)) (by decide) (Nat.le_of_ble_eq_true rfl) (Nat.le_of_ble_eq_true rfl) dX7_init_78 (fun q8 => ?_)
  refine gx_ap (L' := [(a, .inr (7, [.int 0, .ref q0, .ref q1, .int (nI 2), .int 0, .ref q2, .int 0, .ref q3, .int 0, .int 0, .long 0, .int 0, .int 0, .int 0, .int 0, .int 0, .ref q4, .ref q5, .ref q6, .ref q7, .null, .int 0, .int 0, .null, .null, .null, .null, .null])), (q0, .inl (g.cI, 24, .inl (fun _ => 0))), (q1, .inl (g.cI, 288, .inl (fun _ => 0))), (q2, .inl (g.cI, 16, .inl (fun _ => 0))), (q3, .inl (g.cI, 200, .inl (fun _ => 0))), (q4, .inl (g.cI, 48, .inl (fun _ => 0))), (q5, .inl (g.cI, 21, .inl (fun _ => 0))), (q6, .inl (g.cI, 42, .inl (fun _ => 0))), (q7, .inl (g.cZ, 2, .inl (fun _ => 0))), (q8, .inl (g.cI, 24150, .inl (fun _ => 0)))]) rfl (nc' := 9) (ns' := 24791) rfl rfl ?_
  refine gx_putF K 0 (ci := 7) (k := 20) (C := RX7) (T := TX7) (N := 28) (ty := .array (.int)) inX7 tyX7 tyX7_ok nmX7 rfl rfl (by decide) fl_RX7_39 rfl rfl rfl (by decide +kernel) rfl rfl (Nat.le_of_ble_eq_true rfl) (L' := [(a, .inr (7, [.int 0, .ref q0, .ref q1, .int (nI 2), .int 0, .ref q2, .int 0, .ref q3, .int 0, .int 0, .long 0, .int 0, .int 0, .int 0, .int 0, .int 0, .ref q4, .ref q5, .ref q6, .ref q7, .ref q8, .int 0, .int 0, .null, .null, .null, .null, .null])), (q0, .inl (g.cI, 24, .inl (fun _ => 0))), (q1, .inl (g.cI, 288, .inl (fun _ => 0))), (q2, .inl (g.cI, 16, .inl (fun _ => 0))), (q3, .inl (g.cI, 200, .inl (fun _ => 0))), (q4, .inl (g.cI, 48, .inl (fun _ => 0))), (q5, .inl (g.cI, 21, .inl (fun _ => 0))), (q6, .inl (g.cI, 42, .inl (fun _ => 0))), (q7, .inl (g.cZ, 2, .inl (fun _ => 0))), (q8, .inl (g.cI, 24150, .inl (fun _ => 0)))]) rfl dX7_init_80 ?_
  refine gx_aload K 0 rfl rfl dX7_init_83 ?_
  refine gx_bipush K (nI 24) (by decide) dX7_init_84 ?_
  refine gx_newI K 24 (nI_pos (by decide)) (nI_clamp (by decide)) (by decide) (Nat.le_of_ble_eq_true rfl) (Nat.le_of_ble_eq_true rfl) dX7_init_86 (fun q9 => ?_)
  refine gx_ap (L' := [(a, .inr (7, [.int 0, .ref q0, .ref q1, .int (nI 2), .int 0, .ref q2, .int 0, .ref q3, .int 0, .int 0, .long 0, .int 0, .int 0, .int 0, .int 0, .int 0, .ref q4, .ref q5, .ref q6, .ref q7, .ref q8, .int 0, .int 0, .null, .null, .null, .null, .null])), (q0, .inl (g.cI, 24, .inl (fun _ => 0))), (q1, .inl (g.cI, 288, .inl (fun _ => 0))), (q2, .inl (g.cI, 16, .inl (fun _ => 0))), (q3, .inl (g.cI, 200, .inl (fun _ => 0))), (q4, .inl (g.cI, 48, .inl (fun _ => 0))), (q5, .inl (g.cI, 21, .inl (fun _ => 0))), (q6, .inl (g.cI, 42, .inl (fun _ => 0))), (q7, .inl (g.cZ, 2, .inl (fun _ => 0))), (q8, .inl (g.cI, 24150, .inl (fun _ => 0))), (q9, .inl (g.cI, 24, .inl (fun _ => 0)))]) rfl (nc' := 10) (ns' := 24815) rfl rfl ?_
  refine gx_putF K 0 (ci := 7) (k := 23) (C := RX7) (T := TX7) (N := 28) (ty := .array (.int)) inX7 tyX7 tyX7_ok nmX7 rfl rfl (by decide) fl_RX7_42 rfl rfl rfl (by decide +kernel) rfl rfl (Nat.le_of_ble_eq_true rfl) (L' := [(a, .inr (7, [.int 0, .ref q0, .ref q1, .int (nI 2), .int 0, .ref q2, .int 0, .ref q3, .int 0, .int 0, .long 0, .int 0, .int 0, .int 0, .int 0, .int 0, .ref q4, .ref q5, .ref q6, .ref q7, .ref q8, .int 0, .int 0, .ref q9, .null, .null, .null, .null])), (q0, .inl (g.cI, 24, .inl (fun _ => 0))), (q1, .inl (g.cI, 288, .inl (fun _ => 0))), (q2, .inl (g.cI, 16, .inl (fun _ => 0))), (q3, .inl (g.cI, 200, .inl (fun _ => 0))), (q4, .inl (g.cI, 48, .inl (fun _ => 0))), (q5, .inl (g.cI, 21, .inl (fun _ => 0))), (q6, .inl (g.cI, 42, .inl (fun _ => 0))), (q7, .inl (g.cZ, 2, .inl (fun _ => 0))), (q8, .inl (g.cI, 24150, .inl (fun _ => 0))), (q9, .inl (g.cI, 24, .inl (fun _ => 0)))]) rfl dX7_init_88 ?_
  refine gx_aload K 0 rfl rfl dX7_init_91 ?_
  refine gx_bipush K (nI 24) (by decide) dX7_init_92 ?_
  refine gx_newI K 24 (nI_pos (by decide)) (nI_clamp (by decide)) (by decide) (Nat.le_of_ble_eq_true rfl) (Nat.le_of_ble_eq_true rfl) dX7_init_94 (fun q10 => ?_)
  refine gx_ap (L' := [(a, .inr (7, [.int 0, .ref q0, .ref q1, .int (nI 2), .int 0, .ref q2, .int 0, .ref q3, .int 0, .int 0, .long 0, .int 0, .int 0, .int 0, .int 0, .int 0, .ref q4, .ref q5, .ref q6, .ref q7, .ref q8, .int 0, .int 0, .ref q9, .null, .null, .null, .null])), (q0, .inl (g.cI, 24, .inl (fun _ => 0))), (q1, .inl (g.cI, 288, .inl (fun _ => 0))), (q2, .inl (g.cI, 16, .inl (fun _ => 0))), (q3, .inl (g.cI, 200, .inl (fun _ => 0))), (q4, .inl (g.cI, 48, .inl (fun _ => 0))), (q5, .inl (g.cI, 21, .inl (fun _ => 0))), (q6, .inl (g.cI, 42, .inl (fun _ => 0))), (q7, .inl (g.cZ, 2, .inl (fun _ => 0))), (q8, .inl (g.cI, 24150, .inl (fun _ => 0))), (q9, .inl (g.cI, 24, .inl (fun _ => 0))), (q10, .inl (g.cI, 24, .inl (fun _ => 0)))]) rfl (nc' := 11) (ns' := 24839) rfl rfl ?_
  refine gx_putF K 0 (ci := 7) (k := 24) (C := RX7) (T := TX7) (N := 28) (ty := .array (.int)) inX7 tyX7 tyX7_ok nmX7 rfl rfl (by decide) fl_RX7_45 rfl rfl rfl (by decide +kernel) rfl rfl (Nat.le_of_ble_eq_true rfl) (L' := [(a, .inr (7, [.int 0, .ref q0, .ref q1, .int (nI 2), .int 0, .ref q2, .int 0, .ref q3, .int 0, .int 0, .long 0, .int 0, .int 0, .int 0, .int 0, .int 0, .ref q4, .ref q5, .ref q6, .ref q7, .ref q8, .int 0, .int 0, .ref q9, .ref q10, .null, .null, .null])), (q0, .inl (g.cI, 24, .inl (fun _ => 0))), (q1, .inl (g.cI, 288, .inl (fun _ => 0))), (q2, .inl (g.cI, 16, .inl (fun _ => 0))), (q3, .inl (g.cI, 200, .inl (fun _ => 0))), (q4, .inl (g.cI, 48, .inl (fun _ => 0))), (q5, .inl (g.cI, 21, .inl (fun _ => 0))), (q6, .inl (g.cI, 42, .inl (fun _ => 0))), (q7, .inl (g.cZ, 2, .inl (fun _ => 0))), (q8, .inl (g.cI, 24150, .inl (fun _ => 0))), (q9, .inl (g.cI, 24, .inl (fun _ => 0))), (q10, .inl (g.cI, 24, .inl (fun _ => 0)))]) rfl dX7_init_96 ?_
  refine gx_aload K 0 rfl rfl dX7_init_99 ?_
  refine gx_bipush K (nI 24) (by decide) dX7_init_100 ?_
  refine gx_newI K 24 (nI_pos (by decide)) (nI_clamp (by decide)) (by decide) (Nat.le_of_ble_eq_true rfl) (Nat.le_of_ble_eq_true rfl) dX7_init_102 (fun q11 => ?_)
  refine gx_ap (L' := [(a, .inr (7, [.int 0, .ref q0, .ref q1, .int (nI 2), .int 0, .ref q2, .int 0, .ref q3, .int 0, .int 0, .long 0, .int 0, .int 0, .int 0, .int 0, .int 0, .ref q4, .ref q5, .ref q6, .ref q7, .ref q8, .int 0, .int 0, .ref q9, .ref q10, .null, .null, .null])), (q0, .inl (g.cI, 24, .inl (fun _ => 0))), (q1, .inl (g.cI, 288, .inl (fun _ => 0))), (q2, .inl (g.cI, 16, .inl (fun _ => 0))), (q3, .inl (g.cI, 200, .inl (fun _ => 0))), (q4, .inl (g.cI, 48, .inl (fun _ => 0))), (q5, .inl (g.cI, 21, .inl (fun _ => 0))), (q6, .inl (g.cI, 42, .inl (fun _ => 0))), (q7, .inl (g.cZ, 2, .inl (fun _ => 0))), (q8, .inl (g.cI, 24150, .inl (fun _ => 0))), (q9, .inl (g.cI, 24, .inl (fun _ => 0))), (q10, .inl (g.cI, 24, .inl (fun _ => 0))), (q11, .inl (g.cI, 24, .inl (fun _ => 0)))]) rfl (nc' := 12) (ns' := 24863) rfl rfl ?_
  refine gx_putF K 0 (ci := 7) (k := 25) (C := RX7) (T := TX7) (N := 28) (ty := .array (.int)) inX7 tyX7 tyX7_ok nmX7 rfl rfl (by decide) fl_RX7_48 rfl rfl rfl (by decide +kernel) rfl rfl (Nat.le_of_ble_eq_true rfl) (L' := [(a, .inr (7, [.int 0, .ref q0, .ref q1, .int (nI 2), .int 0, .ref q2, .int 0, .ref q3, .int 0, .int 0, .long 0, .int 0, .int 0, .int 0, .int 0, .int 0, .ref q4, .ref q5, .ref q6, .ref q7, .ref q8, .int 0, .int 0, .ref q9, .ref q10, .ref q11, .null, .null])), (q0, .inl (g.cI, 24, .inl (fun _ => 0))), (q1, .inl (g.cI, 288, .inl (fun _ => 0))), (q2, .inl (g.cI, 16, .inl (fun _ => 0))), (q3, .inl (g.cI, 200, .inl (fun _ => 0))), (q4, .inl (g.cI, 48, .inl (fun _ => 0))), (q5, .inl (g.cI, 21, .inl (fun _ => 0))), (q6, .inl (g.cI, 42, .inl (fun _ => 0))), (q7, .inl (g.cZ, 2, .inl (fun _ => 0))), (q8, .inl (g.cI, 24150, .inl (fun _ => 0))), (q9, .inl (g.cI, 24, .inl (fun _ => 0))), (q10, .inl (g.cI, 24, .inl (fun _ => 0))), (q11, .inl (g.cI, 24, .inl (fun _ => 0)))]) rfl dX7_init_104 ?_
  refine gx_aload K 0 rfl rfl dX7_init_107 ?_
  refine gx_bipush K (nI 24) (by decide) dX7_init_108 ?_
  refine gx_newI K 24 (nI_pos (by decide)) (nI_clamp (by decide)) (by decide) (Nat.le_of_ble_eq_true rfl) (Nat.le_of_ble_eq_true rfl) dX7_init_110 (fun q12 => ?_)
  refine gx_ap (L' := [(a, .inr (7, [.int 0, .ref q0, .ref q1, .int (nI 2), .int 0, .ref q2, .int 0, .ref q3, .int 0, .int 0, .long 0, .int 0, .int 0, .int 0, .int 0, .int 0, .ref q4, .ref q5, .ref q6, .ref q7, .ref q8, .int 0, .int 0, .ref q9, .ref q10, .ref q11, .null, .null])), (q0, .inl (g.cI, 24, .inl (fun _ => 0))), (q1, .inl (g.cI, 288, .inl (fun _ => 0))), (q2, .inl (g.cI, 16, .inl (fun _ => 0))), (q3, .inl (g.cI, 200, .inl (fun _ => 0))), (q4, .inl (g.cI, 48, .inl (fun _ => 0))), (q5, .inl (g.cI, 21, .inl (fun _ => 0))), (q6, .inl (g.cI, 42, .inl (fun _ => 0))), (q7, .inl (g.cZ, 2, .inl (fun _ => 0))), (q8, .inl (g.cI, 24150, .inl (fun _ => 0))), (q9, .inl (g.cI, 24, .inl (fun _ => 0))), (q10, .inl (g.cI, 24, .inl (fun _ => 0))), (q11, .inl (g.cI, 24, .inl (fun _ => 0))), (q12, .inl (g.cI, 24, .inl (fun _ => 0)))]) rfl (nc' := 13) (ns' := 24887) rfl rfl ?_
  refine gx_putF K 0 (ci := 7) (k := 26) (C := RX7) (T := TX7) (N := 28) (ty := .array (.int)) inX7 tyX7 tyX7_ok nmX7 rfl rfl (by decide) fl_RX7_51 rfl rfl rfl (by decide +kernel) rfl rfl (Nat.le_of_ble_eq_true rfl) (L' := [(a, .inr (7, [.int 0, .ref q0, .ref q1, .int (nI 2), .int 0, .ref q2, .int 0, .ref q3, .int 0, .int 0, .long 0, .int 0, .int 0, .int 0, .int 0, .int 0, .ref q4, .ref q5, .ref q6, .ref q7, .ref q8, .int 0, .int 0, .ref q9, .ref q10, .ref q11, .ref q12, .null])), (q0, .inl (g.cI, 24, .inl (fun _ => 0))), (q1, .inl (g.cI, 288, .inl (fun _ => 0))), (q2, .inl (g.cI, 16, .inl (fun _ => 0))), (q3, .inl (g.cI, 200, .inl (fun _ => 0))), (q4, .inl (g.cI, 48, .inl (fun _ => 0))), (q5, .inl (g.cI, 21, .inl (fun _ => 0))), (q6, .inl (g.cI, 42, .inl (fun _ => 0))), (q7, .inl (g.cZ, 2, .inl (fun _ => 0))), (q8, .inl (g.cI, 24150, .inl (fun _ => 0))), (q9, .inl (g.cI, 24, .inl (fun _ => 0))), (q10, .inl (g.cI, 24, .inl (fun _ => 0))), (q11, .inl (g.cI, 24, .inl (fun _ => 0))), (q12, .inl (g.cI, 24, .inl (fun _ => 0)))]) rfl dX7_init_112 ?_
  refine gx_aload K 0 rfl rfl dX7_init_115 ?_
  refine gx_sipush K (nI 8694) (by decide) dX7_init_116 ?_
  refine gx_newJ K 8694 (nI_pos (by decide)) (nI_clamp (by decide)) (by decide) (Nat.le_of_ble_eq_true rfl) (Nat.le_of_ble_eq_true rfl) dX7_init_119 (fun q13 => ?_)
  refine gx_ap (L' := [(a, .inr (7, [.int 0, .ref q0, .ref q1, .int (nI 2), .int 0, .ref q2, .int 0, .ref q3, .int 0, .int 0, .long 0, .int 0, .int 0, .int 0, .int 0, .int 0, .ref q4, .ref q5, .ref q6, .ref q7, .ref q8, .int 0, .int 0, .ref q9, .ref q10, .ref q11, .ref q12, .null])), (q0, .inl (g.cI, 24, .inl (fun _ => 0))), (q1, .inl (g.cI, 288, .inl (fun _ => 0))), (q2, .inl (g.cI, 16, .inl (fun _ => 0))), (q3, .inl (g.cI, 200, .inl (fun _ => 0))), (q4, .inl (g.cI, 48, .inl (fun _ => 0))), (q5, .inl (g.cI, 21, .inl (fun _ => 0))), (q6, .inl (g.cI, 42, .inl (fun _ => 0))), (q7, .inl (g.cZ, 2, .inl (fun _ => 0))), (q8, .inl (g.cI, 24150, .inl (fun _ => 0))), (q9, .inl (g.cI, 24, .inl (fun _ => 0))), (q10, .inl (g.cI, 24, .inl (fun _ => 0))), (q11, .inl (g.cI, 24, .inl (fun _ => 0))), (q12, .inl (g.cI, 24, .inl (fun _ => 0))), (q13, .inl (g.cJ, 8694, .inr (.inl (fun _ => 0))))]) rfl (nc' := 14) (ns' := 33581) rfl rfl ?_
  refine gx_putF K 0 (ci := 7) (k := 27) (C := RX7) (T := TX7) (N := 28) (ty := .array (.long)) inX7 tyX7 tyX7_ok nmX7 rfl rfl (by decide) fl_RX7_54 rfl rfl rfl (by decide +kernel) rfl rfl (Nat.le_of_ble_eq_true rfl) (L' := [(a, .inr (7, [.int 0, .ref q0, .ref q1, .int (nI 2), .int 0, .ref q2, .int 0, .ref q3, .int 0, .int 0, .long 0, .int 0, .int 0, .int 0, .int 0, .int 0, .ref q4, .ref q5, .ref q6, .ref q7, .ref q8, .int 0, .int 0, .ref q9, .ref q10, .ref q11, .ref q12, .ref q13])), (q0, .inl (g.cI, 24, .inl (fun _ => 0))), (q1, .inl (g.cI, 288, .inl (fun _ => 0))), (q2, .inl (g.cI, 16, .inl (fun _ => 0))), (q3, .inl (g.cI, 200, .inl (fun _ => 0))), (q4, .inl (g.cI, 48, .inl (fun _ => 0))), (q5, .inl (g.cI, 21, .inl (fun _ => 0))), (q6, .inl (g.cI, 42, .inl (fun _ => 0))), (q7, .inl (g.cZ, 2, .inl (fun _ => 0))), (q8, .inl (g.cI, 24150, .inl (fun _ => 0))), (q9, .inl (g.cI, 24, .inl (fun _ => 0))), (q10, .inl (g.cI, 24, .inl (fun _ => 0))), (q11, .inl (g.cI, 24, .inl (fun _ => 0))), (q12, .inl (g.cI, 24, .inl (fun _ => 0))), (q13, .inl (g.cJ, 8694, .inr (.inl (fun _ => 0))))]) rfl dX7_init_121 ?_
  refine gx_aload K 0 rfl rfl dX7_init_124 ?_
  obtain ⟨Q, hQ⟩ : ∃ Q : Nat → Nat, Q = fun k => [q0, q1, q2, q3, q4, q5, q6, q7, q8, q9, q10, q11, q12, q13].getD (k - 46) 0 := ⟨_, rfl⟩
  have eW : kbW g f ++ [(a, .inr (7, [.int 0, .ref q0, .ref q1, .int (nI 2), .int 0, .ref q2, .int 0, .ref q3, .int 0, .int 0, .long 0, .int 0, .int 0, .int 0, .int 0, .int 0, .ref q4, .ref q5, .ref q6, .ref q7, .ref q8, .int 0, .int 0, .ref q9, .ref q10, .ref q11, .ref q12, .ref q13])), (q0, .inl (g.cI, 24, .inl (fun _ => 0))), (q1, .inl (g.cI, 288, .inl (fun _ => 0))), (q2, .inl (g.cI, 16, .inl (fun _ => 0))), (q3, .inl (g.cI, 200, .inl (fun _ => 0))), (q4, .inl (g.cI, 48, .inl (fun _ => 0))), (q5, .inl (g.cI, 21, .inl (fun _ => 0))), (q6, .inl (g.cI, 42, .inl (fun _ => 0))), (q7, .inl (g.cZ, 2, .inl (fun _ => 0))), (q8, .inl (g.cI, 24150, .inl (fun _ => 0))), (q9, .inl (g.cI, 24, .inl (fun _ => 0))), (q10, .inl (g.cI, 24, .inl (fun _ => 0))), (q11, .inl (g.cI, 24, .inl (fun _ => 0))), (q12, .inl (g.cI, 24, .inl (fun _ => 0))), (q13, .inl (g.cJ, 8694, .inr (.inl (fun _ => 0))))] = kbW g f ++ modW g a Q := by rw [hQ]; rfl
  refine gx_cv eW ?_
  refine gx_toGJ K (ad := adW f a Q) (σ := sg0) (fun H h1 h2 => wd_of (mw_all g f a Q) h1 h2) (Nat.le_of_ble_eq_true rfl) (Nat.le_of_ble_eq_true rfl) ?_
  refine r_st (st' := [.ref (adW f a Q 71)]) rfl ?_
  refine r_callV K.1 71 (As := []) (rest := []) mv_X7_begin ml_RX7_58 (m_begin T0_ok sg0_M) (by decide) rfl rfl rfl rfl (Nat.le_of_ble_eq_true rfl) ⟨by decide, by decide⟩ dX7_init_125 (fun r_ ad_ s_ h_ => ?_)
  obtain ⟨rfl, rfl, hs, hN⟩ := h_
  refine r_st (st' := []) rfl ?_
  exact gj_vretP K hr (fun H hW => ⟨rfl, Q, s_, hW, hs, hN⟩) dX7_init_128
