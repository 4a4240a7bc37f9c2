/-! THE LAYOUT behind the two constructors -/
/-- the cells' kinds -/
def T0 : List (Nat × Nat) := [(11, 8), (8, 9), (51, 600), (50, 4), (54, 2), (55, 2), (56, 2), (57, 2), (4, 9), (50, 8), (50, 8), (50, 8), (50, 4), (50, 9), (50, 9), (6, 4), (50, 40), (50, 40), (50, 40), (2, 5), (50, 24), (50, 25), (50, 25), (50, 25), (7, 10), (50, 10), (50, 10), (50, 10), (50, 4), (50, 4), (4, 9), (50, 8), (50, 8), (50, 8), (50, 4), (50, 9), (50, 9), (6, 4), (50, 40), (50, 40), (50, 40), (2, 5), (50, 24), (50, 25), (50, 25), (50, 25), (7, 10), (50, 10), (50, 10), (50, 10), (50, 4), (50, 4), (58, 3), (5, 14), (4, 9), (50, 8), (50, 8), (50, 8), (50, 4), (50, 9), (50, 9), (6, 4), (50, 40), (50, 40), (50, 40), (2, 5), (50, 24), (50, 25), (50, 25), (50, 25), (7, 10), (50, 10), (50, 10), (50, 10), (50, 4), (50, 4), (51, 0), (50, 2), (9, 9), (50, 8), (50, 8), (50, 6), (1, 3), (50, 8), (50, 8), (10, 6), (52, 256), (50, 256), (50, 8), (0, 7), (50, 6), (50, 6), (50, 8), (50, 256), (3, 3), (50, 4), (50, 16), (50, 592), (12, 58), (51, 2400), (50, 4), (50, 4), (50, 4), (50, 16), (50, 312), (50, 968), (50, 200), (50, 256), (50, 121), (50, 3), (50, 8), (50, 8), (50, 6), (52, 256), (50, 256), (50, 6), (50, 6), (50, 256), (50, 256), (50, 25), (50, 25), (50, 4), (50, 4), (50, 4), (50, 640), (50, 9), (50, 9), (50, 9), (50, 9), (53, 256), (52, 3)]
/-- the references that never change -/
def R0L : List (Nat × Nat × Nat) := [(0, 0, 1), (0, 1, 52), (0, 2, 53), (0, 3, 78), (0, 4, 82), (0, 5, 85), (0, 6, 89), (0, 7, 94), (1, 0, 2), (1, 4, 3), (1, 5, 4), (1, 6, 5), (1, 7, 6), (1, 8, 7), (4, 0, 8), (4, 1, 30), (5, 0, 15), (5, 1, 37), (6, 0, 19), (6, 1, 41), (7, 0, 24), (7, 1, 46), (8, 0, 9), (8, 3, 10), (8, 4, 11), (8, 6, 12), (8, 7, 13), (8, 8, 14), (15, 0, 16), (15, 1, 17), (15, 2, 18), (19, 1, 20), (19, 2, 21), (19, 3, 22), (19, 4, 23), (24, 2, 25), (24, 3, 26), (24, 4, 27), (24, 8, 28), (24, 9, 29), (30, 0, 31), (30, 3, 32), (30, 4, 33), (30, 6, 34), (30, 7, 35), (30, 8, 36), (37, 0, 38), (37, 1, 39), (37, 2, 40), (41, 1, 42), (41, 2, 43), (41, 3, 44), (41, 4, 45), (46, 2, 47), (46, 3, 48), (46, 4, 49), (46, 8, 50), (46, 9, 51), (53, 0, 54), (53, 1, 61), (53, 2, 65), (53, 3, 70), (53, 13, 77), (54, 0, 55), (54, 3, 56), (54, 4, 57), (54, 6, 58), (54, 7, 59), (54, 8, 60), (61, 0, 62), (61, 1, 63), (61, 2, 64), (65, 1, 66), (65, 2, 67), (65, 3, 68), (65, 4, 69), (70, 2, 71), (70, 3, 72), (70, 4, 73), (70, 8, 74), (70, 9, 75), (78, 6, 79), (78, 7, 80), (78, 8, 81), (82, 1, 83), (82, 2, 84), (85, 0, 82), (85, 3, 86), (85, 4, 87), (85, 5, 88), (89, 3, 90), (89, 4, 91), (89, 5, 92), (89, 6, 93), (94, 0, 95), (94, 1, 96), (94, 2, 97), (98, 1, 99), (98, 2, 100), (98, 3, 101), (98, 4, 102), (98, 5, 103), (98, 6, 104), (98, 7, 105), (98, 8, 106), (98, 9, 107), (98, 19, 108), (98, 20, 109), (98, 28, 110), (98, 29, 111), (98, 30, 112), (98, 35, 113), (98, 36, 114), (98, 37, 115), (98, 38, 116), (98, 40, 117), (98, 41, 118), (98, 43, 119), (98, 44, 120), (98, 46, 121), (98, 48, 122), (98, 49, 123), (98, 50, 124), (98, 51, 125), (98, 52, 126), (98, 54, 127), (98, 55, 128), (98, 56, 129), (98, 57, 130)]
def R0 (i k : Nat) : Option Nat := match R0L.find? (fun q => q.1 == i && q.2.1 == k) with
  | some (_, _, a) => some a
  | none => none
theorem CG.go {C : Ct} {y : Nat} {as : List Value} {M : Mm} {a : Option Value} {P : Option Value → Mm → Prop} (h : CG C y as M (fun w M' => w = a ∧ M' = M)) (K : P a M) : CG C y as M P := h.mono (by
  rintro w M' ⟨rfl, rfl⟩
  exact K)
/-- what every state keeps: the kinds of the first cells, and the fixed references -/
def KM (T : List (Nat × Nat)) (R : Nat → Nat → Option Nat) : Prop := (∀ (i : Nat) (q : Nat × Nat), T0[i]? = some q → T[i]? = some q) ∧ ∀ i k a, R0 i k = some a → R i k = some a
/-- constants are of no use to the constructors -/
theorem stp_C {C : Ct} {o len pc : Nat} {ins : Instr} {lv : Lv} {ll : Ll} {st : List Value} {M : Mm} {g : Cg} (h : stp (fun _ => none) o ins len pc lv ll st M = some g) : stp C o ins len pc lv ll st M = some g := by
  have har : ∀ r q, ar (fun _ => none) M r = some q → ar C M r = some q := by
    intro r q hq
    unfold ar at hq ⊢
    split at hq
    · exact hq
    · cases hq
  cases ins with
  | iaload =>
    simp only [stp] at h ⊢
    split at h
    · split at h
      · rename_i ha
        rw [har _ _ ha]
        exact h
      · cases h
    · cases h
  | baload =>
    simp only [stp] at h ⊢
    split at h
    · split at h
      · rename_i ha
        rw [har _ _ ha]
        exact h
      · cases h
    · cases h
  | arraylength =>
    simp only [stp] at h ⊢
    split at h
    · split at h
      · rename_i ha
        rw [har _ _ ha]
        exact h
      · cases h
    · cases h
  | _ => exact h
theorem ev_C {C : Ct} {n : Nat} : ∀ {y : Nat} {g : Cg} {x : Option Value × Mm}, ev (fun _ => none) n y g = some x → ev C n y g = some x := by
  induction n with
  | zero => intro y g x h; cases h
  | succ n ih =>
    intro y g x h
    have h1 : evB (fun _ => none) (ev C n) y g = some x := evB_mono (fun _ _ _ h => ih h) h
    show evB C (ev C n) y g = some x
    revert h1
    unfold evB
    split
    · exact id
    · split
      · exact id
      · split
        · exact id
        · split
          · exact id
          · intro h1
            split at h1
            · cases h1
            · rename_i hs
              rw [stp_C hs]
              exact h1
/-- a constructor on a new object -/
def mk (y kd n mL : Nat) (M : Mm) : Option Mm := match nw M kd n with
  | none => none
  | some (r, M1) => match ev (fun _ => none) 4000 y (0, entV [.ref r] mL, [], [], M1) with
    | some (none, M2) => some M2
    | _ => none
def start : Option Mm := match mk 144 11 8 1 Mem0 with
  | none => none
  | some M => mk 188 12 58 1 M
def good0 (M : Mm) : Bool := decide (M.1 = T0) && (R0L.all fun q => decide (M.2.2.2 q.1 q.2.1 = some q.2.2))
set_option maxRecDepth 1000000 in
theorem start_ok : (match start with
  | some M => good0 M
  | none => false) = true := by decide +kernel
