/-! bits -/
theorem nI_and (a b : Nat) : nI a &&& nI b = nI (a &&& b) := by
  apply Int32.toBitVec_inj.mp
  rw [Int32.toBitVec_and]
  exact BitVec.ofNat_and.symm
theorem nI_or (a b : Nat) : nI a ||| nI b = nI (a ||| b) := by
  apply Int32.toBitVec_inj.mp
  rw [Int32.toBitVec_or]
  exact BitVec.ofNat_or.symm
theorem nI_xor (a b : Nat) : nI a ^^^ nI b = nI (a ^^^ b) := by
  apply Int32.toBitVec_inj.mp
  rw [Int32.toBitVec_xor]
  exact BitVec.ofNat_xor.symm
theorem bv_andn (x y : BitVec 32) : x &&& (y ^^^ BitVec.allOnes 32) = x ^^^ (x &&& y) := by
  apply BitVec.eq_of_getLsbD_eq
  intro i hi
  simp only [BitVec.getLsbD_and, BitVec.getLsbD_xor, BitVec.getLsbD_allOnes, hi, decide_true]
  cases x.getLsbD i <;> cases y.getLsbD i <;> rfl
theorem nI_andn (a b : Nat) : nI a &&& (nI b ^^^ zI (-1)) = nI (a ^^^ (a &&& b)) := by
  rw [← nI_xor, ← nI_and]
  apply Int32.toBitVec_inj.mp
  rw [Int32.toBitVec_and, Int32.toBitVec_xor, Int32.toBitVec_xor, Int32.toBitVec_and, ← bv_andn]
  rfl
theorem shl_nI : ∀ n, n < 9 → nI 1 <<< (nI n &&& 31) = nI (2 ^ n) := by decide +kernel
theorem xor_lt256 : ∀ i, i < 256 → ∀ j, j < 256 → 1 ≤ j → j &&& i = j → i ^^^ j < i := by decide +kernel
theorem bit_pos {S r : Nat} (h : S.testBit r = true) : 0 < S := by
  rcases Nat.eq_zero_or_pos S with e | e
  · subst e
    rw [Nat.zero_testBit] at h
    cases h
  · exact e
section GBT
variable {C : Ct} {y pc len o ix i j : Nat} {lv : Lv} {ll : Ll} {st : List Value} {M : Mm} {Q : Option Value → Mm → Prop} {ret : Option FieldType} {a : Int32} {za : Int}
theorem G_andN (hf : fe y pc = some (.iand, len, o, ret)) (K : G C y (pc + 1, lv, ll, .int (nI (i &&& j)) :: st, M) Q) : G C y (pc, lv, ll, .int (nI j) :: .int (nI i) :: st, M) Q := by
  rw [← nI_and] at K
  exact G_S hf rfl rfl rfl K
theorem G_andnN (hf : fe y pc = some (.iand, len, o, ret)) (K : G C y (pc + 1, lv, ll, .int (nI (i ^^^ (i &&& j))) :: st, M) Q) : G C y (pc, lv, ll, .int (nI j ^^^ zI (-1)) :: .int (nI i) :: st, M) Q := by
  rw [← nI_andn] at K
  exact G_S hf rfl rfl rfl K
theorem G_orN (hf : fe y pc = some (.ior, len, o, ret)) (K : G C y (pc + 1, lv, ll, .int (nI (i ||| j)) :: st, M) Q) : G C y (pc, lv, ll, .int (nI j) :: .int (nI i) :: st, M) Q := by
  rw [← nI_or] at K
  exact G_S hf rfl rfl rfl K
theorem G_xorN (hf : fe y pc = some (.ixor, len, o, ret)) (K : G C y (pc + 1, lv, ll, .int (nI (i ^^^ j)) :: st, M) Q) : G C y (pc, lv, ll, .int (nI j) :: .int (nI i) :: st, M) Q := by
  rw [← nI_xor] at K
  exact G_S hf rfl rfl rfl K
theorem G_shl1 (hf : fe y pc = some (.ishl, len, o, ret)) (hi : i < 9) (K : G C y (pc + 1, lv, ll, .int (nI (2 ^ i)) :: st, M) Q) : G C y (pc, lv, ll, .int (nI i) :: .int (nI 1) :: st, M) Q := by
  rw [← shl_nI i hi] at K
  exact G_S hf rfl rfl rfl K
theorem G_negZ (hf : fe y pc = some (.ineg, len, o, ret)) (ea : a = zI za) (K : G C y (pc + 1, lv, ll, .int (zI (-za)) :: st, M) Q) : G C y (pc, lv, ll, .int a :: st, M) Q := by
  rw [← zI_neg, ← ea] at K
  exact G_S hf rfl rfl rfl K
theorem G_absZ (hf : fe y pc = some (.invokestatic ix, len, o, ret)) (hc : callOf o (.invokestatic ix) = none) (hs : stp C o (.invokestatic ix) len pc lv ll (.int a :: st) M = some (pc + 3, lv, ll, .int (if 0 ≤ a then a else 0 - a) :: st, M)) (ea : a = zI za) (h1 : -2147483648 ≤ za) (h2 : za < 2147483648) (K : G C y (pc + 3, lv, ll, .int (nI za.natAbs) :: st, M) Q) : G C y (pc, lv, ll, .int a :: st, M) Q := by
  refine G_S hf rfl hc hs ?_
  have e : (if 0 ≤ a then a else 0 - a) = nI za.natAbs := by
    subst ea
    by_cases h : (0 : Int32) ≤ zI za
    · have h' := Int32.le_iff_toInt_le.mp h
      rw [zI_toInt h1 h2, Int32.toInt_zero] at h'
      rw [if_pos h, nI_zI, Int.natAbs_of_nonneg h']
    · have h' : ¬ (0 : Int) ≤ za := fun q => h (by rw [Int32.le_iff_toInt_le, zI_toInt h1 h2, Int32.toInt_zero]; exact q)
      rw [if_neg h, nI_zI, show ((za.natAbs : Nat) : Int) = 0 - za by omega, ← zI_sub]
      rfl
  rw [e]
  exact K
end GBT
theorem bestF_y {p : Nat → Bool} {lt : Nat → Nat → Bool} {n : Nat} (hp : p n = true) (hl : ∀ c, bestF p lt n = some c → lt n c = true) : bestF p lt (n + 1) = some n := by
  cases hb : bestF p lt n with
  | none => exact bestF_first hp hb
  | some c => exact bestF_new hp hb (hl c hb)
/-- better than the best till now -/
def btr (lt : Nat → Nat → Bool) (n : Nat) : Option Nat → Bool
  | none => true
  | some c => lt n c
theorem bestF_b {p : Nat → Bool} {lt : Nat → Nat → Bool} {n : Nat} (hp : p n = true) (hl : btr lt n (bestF p lt n) = true) : bestF p lt (n + 1) = some n :=
  bestF_y hp (fun c hc => by rw [hc] at hl; exact hl)
theorem bestF_k {p : Nat → Bool} {lt : Nat → Nat → Bool} {n : Nat} (hl : ¬ btr lt n (bestF p lt n) = true) : bestF p lt (n + 1) = bestF p lt n := by
  cases hb : bestF p lt n with
  | none => rw [hb] at hl; exact absurd rfl hl
  | some c => rw [hb] at hl; rw [bestF_keep hb hl]
