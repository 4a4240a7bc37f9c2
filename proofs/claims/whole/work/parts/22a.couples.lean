/-! couples: tables over sets -/
def tbF (F : (Nat → Nat) → Nat → Nat) : Nat → Nat → Nat
  | 0, _ => 0
  | n + 1, x => if x = n then F (tbF F n) n else tbF F n x
def rcF (F : (Nat → Nat) → Nat → Nat) (s : Nat) : Nat := F (tbF F s) s
theorem tbF_at {F : (Nat → Nat) → Nat → Nat} : ∀ n x, x < n → tbF F n x = rcF F x
  | 0, x, h => by omega
  | n + 1, x, h => by
    rw [tbF]
    split
    · rename_i e
      subst e
      rfl
    · exact tbF_at n x (by omega)
theorem rcF_eq {F : (Nat → Nat) → Nat → Nat} {s : Nat} (hF : ∀ T T' : Nat → Nat, (∀ x, x < s → T x = T' x) → F T s = F T' s) : rcF F s = F (rcF F) s := hF _ _ (fun x hx => tbF_at s x hx)
/-- a set without one -/
def cl (x k : Nat) : Nat := x ^^^ (x &&& 2 ^ k)
theorem cl_at : ∀ x, x < 256 → ∀ a, a < 8 → x.testBit a = true → pc8 (cl x a) + 1 = pc8 x ∧ cl x a < x := by decide +kernel
theorem cl_le : ∀ x, x < 256 → ∀ a, a < 8 → cl x a ≤ x := by decide +kernel
theorem cl_bit : ∀ x, x < 256 → ∀ a, a < 8 → ∀ r, r < 8 → r ≠ a → (cl x a).testBit r = x.testBit r := by decide +kernel
theorem ntz_bit : ∀ x, x < 256 → 0 < x → x.testBit (ntzF x) = true := by decide +kernel
theorem ntz_2 : ∀ n, n < 9 → ∀ x, x < 256 → x < 2 ^ n → 0 < x → ntzF x < n := by decide +kernel
theorem bit_n : ∀ n, n < 9 → ∀ x, x < 256 → x < 2 ^ n → ∀ r, r < 8 → x.testBit r = true → r < n := by decide +kernel
theorem ntz_ex : ∀ x, x < 256 → 0 < x → pc8 x % 2 = 0 → ∃ r, r < 8 ∧ ntzF x < r ∧ x.testBit r = true := by decide +kernel
theorem ntz_lo : ∀ x, x < 256 → ∀ k, k < ntzF x → x.testBit k = false := by
  have h : ∀ x, x < 256 → ∀ k, k < 8 → k < ntzF x → x.testBit k = false := by decide +kernel
  intro x hx k hk
  exact h x hx k (by have := ntz_lt x; omega) hk
theorem cl_sub {x S k : Nat} (h : x &&& S = x) : cl x k &&& S = cl x k := by
  refine Nat.eq_of_testBit_eq (fun i => ?_)
  have := congrArg (fun z => Nat.testBit z i) h
  simp only [Nat.testBit_and] at this
  simp only [cl, Nat.testBit_and, Nat.testBit_xor]
  cases hx : x.testBit i
  · simp
  · rw [hx] at this
    simp only [Bool.true_and] at this
    simp [this]
/-- a couple gone: both of its two -/
theorem cl2 {x a r : Nat} (hx : x < 256) (ha : a < 8) (hr : r < 8) (h1 : x.testBit a = true) (h2 : x.testBit r = true) (hne : r ≠ a) : cl (cl x a) r < x ∧ cl (cl x a) r < 256 ∧ pc8 (cl (cl x a) r) + 2 = pc8 x := by
  have e1 := cl_at x hx a ha h1
  have e2 := cl_bit x hx a ha r hr hne
  have e3 := cl_at (cl x a) (by omega) r hr (by rw [e2]; exact h2)
  omega
section CPP
variable {D T T' : Nat → Nat} {S a t : Nat}
def hf (D : Nat → Nat) (a r : Nat) : Nat := (D (19 + a) + D (19 + r) + 1) / 2
def cvM (D T : Nat → Nat) (S a : Nat) : Nat → Nat
  | 0 => 1000000
  | r + 1 => if a < r ∧ S.testBit r = true then min (cvM D T S a r) (max (hf D a r) (T (cl (cl S a) r))) else cvM D T S a r
def cvF (D T : Nat → Nat) (S : Nat) : Nat := if S = 0 then 0 else cvM D T S (ntzF S) (D 2)
def lcF (D : Nat → Nat) : Nat → Nat := rcF (cvF D)
def wyM (D : Nat → Nat) (t : Nat) (T : Nat → Nat) (S a : Nat) : Nat → Nat
  | 0 => 0
  | r + 1 => if (a < r ∧ S.testBit r = true) ∧ hf D a r ≤ t then wyM D t T S a r + T (cl (cl S a) r) else wyM D t T S a r
def wyF (D : Nat → Nat) (t : Nat) (T : Nat → Nat) (S : Nat) : Nat := if S = 0 then 1 else wyM D t T S (ntzF S) (D 2)
def lwF (D : Nat → Nat) (t : Nat) : Nat → Nat := rcF (wyF D t)
theorem cvM_lo : ∀ r, r ≤ a + 1 → cvM D T S a r = 1000000
  | 0, _ => rfl
  | r + 1, h => by
    rw [cvM, if_neg (by omega)]
    exact cvM_lo r (by omega)
theorem wyM_lo : ∀ r, r ≤ a + 1 → wyM D t T S a r = 0
  | 0, _ => rfl
  | r + 1, h => by
    rw [wyM, if_neg (by omega)]
    exact wyM_lo r (by omega)
theorem cvM_le6 : ∀ r, cvM D T S a r ≤ 1000000
  | 0 => Nat.le_refl _
  | r + 1 => by
    have := cvM_le6 r
    rw [cvM]
    split <;> omega
theorem cvM_cg (hS : S < 256) (h0 : 0 < S) (hT : ∀ x, x < S → T x = T' x) : ∀ r, r ≤ 8 → cvM D T S (ntzF S) r = cvM D T' S (ntzF S) r
  | 0, _ => rfl
  | r + 1, h => by
    rw [cvM, cvM, cvM_cg hS h0 hT r (by omega)]
    split
    · rename_i q
      rw [hT _ (cl2 hS (ntz_lt S) (by omega) (ntz_bit S hS h0) q.2 (by omega)).1]
    · rfl
theorem wyM_cg (hS : S < 256) (h0 : 0 < S) (hT : ∀ x, x < S → T x = T' x) : ∀ r, r ≤ 8 → wyM D t T S (ntzF S) r = wyM D t T' S (ntzF S) r
  | 0, _ => rfl
  | r + 1, h => by
    rw [wyM, wyM, wyM_cg hS h0 hT r (by omega)]
    split
    · rename_i q
      rw [hT _ (cl2 hS (ntz_lt S) (by omega) (ntz_bit S hS h0) q.1.2 (by omega)).1]
    · rfl
theorem lcF_0 : lcF D 0 = 0 := rfl
theorem lwF_0 : lwF D t 0 = 1 := rfl
theorem lcF_eq (hS : S < 256) (h0 : 0 < S) (h2 : D 2 ≤ 8) : lcF D S = cvM D (lcF D) S (ntzF S) (D 2) := by
  have e : lcF D S = cvF D (lcF D) S := rcF_eq (fun T T' hT => by
    unfold cvF
    rw [if_neg (by omega), if_neg (by omega)]
    exact cvM_cg hS h0 hT _ h2)
  rw [e, cvF, if_neg (by omega)]
theorem lwF_eq (hS : S < 256) (h0 : 0 < S) (h2 : D 2 ≤ 8) : lwF D t S = wyM D t (lwF D t) S (ntzF S) (D 2) := by
  have e : lwF D t S = wyF D t (lwF D t) S := rcF_eq (fun T T' hT => by
    unfold wyF
    rw [if_neg (by omega), if_neg (by omega)]
    exact wyM_cg hS h0 hT _ h2)
  rw [e, wyF, if_neg (by omega)]
theorem lcF_le (hS : S < 256) (h2 : D 2 ≤ 8) : lcF D S ≤ 1000000 := by
  by_cases h0 : S = 0
  · subst h0
    rw [lcF_0]
    omega
  · rw [lcF_eq hS (by omega) h2]
    exact cvM_le6 _
theorem cvM_le {r0 : Nat} (h1 : a < r0) (hb : S.testBit r0 = true) : ∀ n, r0 < n → cvM D T S a n ≤ max (hf D a r0) (T (cl (cl S a) r0))
  | 0, h => by omega
  | n + 1, h => by
    rw [cvM]
    by_cases e : n = r0
    · subst e
      rw [if_pos ⟨h1, hb⟩]
      omega
    · have := cvM_le h1 hb n (by omega)
      split <;> omega
theorem hf_le (hD : DOK D) {a r : Nat} (ha : a < 8) (hr : r < 8) : hf D a r ≤ 60 := by
  have h1 := hD.2.2.2.2.2.1 a ha
  have h2 := hD.2.2.2.2.2.1 r hr
  unfold hf
  omega
theorem lcF_even (hD : DOK D) : ∀ n S, S < n → S < 256 → S < 2 ^ D 2 → pc8 S % 2 = 0 → lcF D S ≤ 60
  | 0, S, h, _, _, _ => by omega
  | n + 1, S, h, hS, hSD, he => by
    have h2 : D 2 ≤ 8 := hD.2.2.1
    by_cases h0 : S = 0
    · subst h0
      rw [lcF_0]
      omega
    · obtain ⟨r, hr, h1, hb⟩ := ntz_ex S hS (by omega) he
      have hrD := bit_n (D 2) (by omega) S hS hSD r hr hb
      have hc := cl2 hS (ntz_lt S) hr (ntz_bit S hS (by omega)) hb (by omega)
      have ih := lcF_even hD n (cl (cl S (ntzF S)) r) (by omega) (by omega) (by omega) (by omega)
      have hl := cvM_le (D := D) (T := lcF D) h1 hb (D 2) hrD
      have := hf_le hD (ntz_lt S) hr
      rw [lcF_eq hS (by omega) h2]
      omega
theorem cvM_60 (hS : S < 256) (hSD : S < 2 ^ D 2) (h0 : 0 < S) (hD : DOK D) (he : pc8 S % 2 = 0) : ∀ r, r ≤ 8 → cvM D (lcF D) S (ntzF S) r = 1000000 ∨ cvM D (lcF D) S (ntzF S) r ≤ 60
  | 0, _ => Or.inl rfl
  | r + 1, h => by
    have ih := cvM_60 hS hSD h0 hD he r (by omega)
    rw [cvM]
    split
    · rename_i q
      have hc := cl2 hS (ntz_lt S) (by omega) (ntz_bit S hS h0) q.2 (by omega)
      have h1 := lcF_even hD _ (cl (cl S (ntzF S)) r) (Nat.lt_succ_self _) (by omega) (by omega) (by omega)
      have h2 := hf_le hD (ntz_lt S) (show r < 8 by omega)
      omega
    · exact ih
end CPP
/-- the couples of a set, as asked -/
def cplF (D : Nat → Nat) (x w : Int32) : Int32 := match isS D x with
  | none => zI (-1)
  | some S => if S = 0 ∨ pc8 S % 2 = 1 then zI (-1) else if w = 0 then nI (lcF D S) else nI (lwF D (lcF D S) S)
