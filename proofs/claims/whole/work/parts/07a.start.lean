/-! THE START GIVES THE BASE -/
def FFS : List Int32 := [0, 5, 13, 15, 18]
def FMS : List Int32 := [0, 1, 0, 99, 0, 0, 0, 1, 1, 6, 0, 0, 1, 1, 0, 60, 0, 0, 1, 1, 0, 9, 0, 0, 0, 2, 1, 8, 0, 99, 0, 2, 0, 7, 0, 5, 0, 2, 0, 7, 0, 5, 0, 1, 0, 7, 0, 0, 0, 1, 1, 9, 0, 0, 0, 1, 1, 9, 0, 0, 0, 0, 0, 0, 0, 0, 0, 0, 0, 0, 0, 0, 0, 0, 0, 0, 0, 0, 0, 1, 1, 99, 0, 0, 0, 2, 0, 23, 0, 99, 0, 1, 1, 4, 0, 0, 0, 2, 1, 15, 1, 36, 0, 2, 1, 15, 1, 36]
/-- the constants: the script, the reader's two tables, the texts' bytes -/
def CT (L : Nat) (xs : Nat → Int32) : Ct := fun r =>
  if r = 1000300 then some (50, L, xs)
  else if r = 1000200 then some (50, 5, fun j => FFS.getD j 0)
  else if r = 1000201 then some (50, 108, fun j => FMS.getD j 0)
  else if 1000100 ≤ r ∧ r < 1000122 then some (51, (TXL.getD (r - 1000100) []).length, fun j => (TXL.getD (r - 1000100) []).getD j 0)
  else none
abbrev FLS : List Cond := flatC (Jvm.Cond.and given_1 narrow_1)
def isF (p : Nat) (w : Cond) : Bool := decide (FLS[p]? = some w)
theorem isF_in {p : Nat} {w : Cond} (h : isF p w = true) : w ∈ FLS := List.mem_of_getElem? (of_decide_eq_true h)
abbrev tF (n : String) : Term := .static "GriefTram$Reader" n "[I"
abbrev tS (i : Nat) : Term := .string "GriefTram$Reader" (TXK.getD i (0, "")).1
abbrev tV (i : Nat) : Term := .field (tS i) "java/lang/String" "value" "[B"
set_option maxRecDepth 100000 in
theorem f_ff : isF 5 (Cond.arrayOf (tF "FIRST_FORMS") .int) = true ∧ isF 6 (Cond.eq (.length (tF "FIRST_FORMS")) (.int (Int32.ofNat 5))) = true ∧ ∀ j, j < 5 → isF (7 + j) (Cond.eq (.elem (tF "FIRST_FORMS") (.int (Int32.ofNat j))) (.int (FFS.getD j 0))) = true := by decide +kernel
set_option maxRecDepth 100000 in
theorem f_fm : isF 18 (Cond.arrayOf (tF "FORMS") .int) = true ∧ isF 19 (Cond.eq (.length (tF "FORMS")) (.int (Int32.ofNat 108))) = true ∧ ∀ j, j < 108 → isF (20 + j) (Cond.eq (.elem (tF "FORMS") (.int (Int32.ofNat j))) (.int (FMS.getD j 0))) = true := by decide +kernel
set_option maxRecDepth 100000 in
theorem f_cs : isF 12 (Cond.eq (.static "java/lang/String" "COMPACT_STRINGS" "Z") (.int 1)) = true ∧ isF 13 (Cond.isRef (.static "jdk/internal/util/Preconditions" "SIOOBE_FORMATTER" "Ljava/util/function/BiFunction;")) = true := by decide +kernel
set_option maxRecDepth 100000 in
theorem f_st : ∀ i, i < 22 → isF (([193, 201, 211, 222, 233, 245, 259, 273, 287, 303, 320, 336, 356, 376, 397, 419, 442, 469, 497, 523, 550, 579] : List Nat).getD i 0) (Cond.exactly (tS i) "java/lang/String") = true ∧ isF (([194, 202, 212, 223, 234, 246, 260, 274, 288, 304, 321, 337, 357, 377, 398, 420, 443, 470, 498, 524, 551, 580] : List Nat).getD i 0) (Cond.eq (.field (tS i) "java/lang/String" "coder" "B") (.int 0)) = true ∧ isF (([195, 203, 213, 224, 235, 247, 261, 275, 289, 305, 322, 338, 358, 378, 399, 421, 444, 471, 499, 525, 552, 581] : List Nat).getD i 0) (Cond.arrayOf (tV i) .byte) = true ∧ isF (([196, 204, 214, 225, 236, 248, 262, 276, 290, 306, 323, 339, 359, 379, 400, 422, 445, 472, 500, 526, 553, 582] : List Nat).getD i 0) (Cond.eq (.length (tV i)) (.int (Int32.ofNat (TXL.getD i []).length))) = true := by decide +kernel
set_option maxRecDepth 100000 in
theorem f_el : ∀ i, i < 22 → ∀ j, j < (TXL.getD i []).length → isF (([196, 204, 214, 225, 236, 248, 262, 276, 290, 306, 323, 339, 359, 379, 400, 422, 445, 472, 500, 526, 553, 582] : List Nat).getD i 0 + 1 + j) (Cond.eq (.elem (tV i) (.int (Int32.ofNat j))) (.int ((TXL.getD i []).getD j 0))) = true := by decide +kernel
set_option maxRecDepth 100000 in
theorem f_sr : ∀ i, i < 22 → isW (([3054, 3055, 3056, 3057, 3058, 3059, 3060, 3061, 3062, 3063, 3064, 3065, 3066, 3067, 3068, 3069, 3070, 3071, 3145, 3146, 3147, 3148] : List Nat).getD i 0) (Cond.stringRef "GriefTram$Reader" (TXK.getD i (0, "")).1 (TXK.getD i (0, "")).2) = true ∧ (TXL.getD i []).length < 2 ^ 31 := by decide +kernel
set_option maxRecDepth 100000 in
theorem f_ls : isW 3050 (Cond.laysStatic "GriefTram$Reader" "FIRST_FORMS" "[I") = true ∧ isW 3137 (Cond.laysStatic "GriefTram$Reader" "FORMS" "[I") = true ∧ isW 3085 (Cond.laysStatic "java/lang/String" "COMPACT_STRINGS" "Z") = true ∧ isW 3101 (Cond.laysStatic "jdk/internal/util/Preconditions" "SIOOBE_FORMATTER" "Ljava/util/function/BiFunction;") = true := by decide +kernel
set_option maxRecDepth 100000 in
theorem f_in : isW 1007 (Cond.initialized "GriefTram$Reader") = true ∧ isW 1015 (Cond.initialized "java/lang/String") = true ∧ isW 1017 (Cond.initialized "jdk/internal/util/Preconditions") = true := by decide +kernel
set_option maxRecDepth 100000 in
theorem f_ac : isW 1106 (Cond.arrayClass .int) = true ∧ isW 1105 (Cond.arrayClass .byte) = true ∧ isW 2150 (Cond.arrayClass .boolean) = true ∧ isW 7025 (Cond.arrayClass .long) = true := by decide +kernel
set_option maxRecDepth 100000 in
theorem f_ao : isW 1036 (Cond.arrayOver (tyK 54)) = true ∧ isW 1038 (Cond.arrayOver (tyK 55)) = true ∧ isW 1040 (Cond.arrayOver (tyK 56)) = true ∧ isW 1042 (Cond.arrayOver (tyK 57)) = true ∧ isW 2009 (Cond.arrayOver (tyK 58)) = true := by decide +kernel
