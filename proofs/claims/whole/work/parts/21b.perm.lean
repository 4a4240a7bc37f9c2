/-! orders by codes; they come to an end -/
def dg (c i : Nat) : Nat := c / 8 ^ i % 8
def enc (f : Nat → Nat) : Nat → Nat
  | 0 => 0
  | k + 1 => enc f k + f k * 8 ^ k
theorem dg_lt (c i : Nat) : dg c i < 8 := Nat.mod_lt _ (by decide)
theorem enc_lt {f : Nat → Nat} : ∀ m, (∀ i, i < m → f i < 8) → enc f m < 8 ^ m
  | 0, _ => by show 0 < 1; omega
  | m + 1, h => by
    have h1 := enc_lt m (fun i hi => h i (by omega))
    have h2 := h m (by omega)
    have h3 : f m * 8 ^ m ≤ 7 * 8 ^ m := Nat.mul_le_mul_right _ (by omega)
    rw [enc, Nat.pow_succ]
    omega
theorem dg_enc {f : Nat → Nat} : ∀ m, (∀ i, i < m → f i < 8) → ∀ i, i < m → dg (enc f m) i = f i
  | 0, _, i, hi => by omega
  | m + 1, h, i, hi => by
    have h1 := enc_lt m (fun i hi => h i (by omega))
    have h2 := h m (by omega)
    unfold dg
    rw [enc]
    by_cases e : i = m
    · subst e
      rw [Nat.add_mul_div_right _ _ (Nat.pow_pos (by decide)), Nat.div_eq_of_lt h1, Nat.zero_add, Nat.mod_eq_of_lt h2]
    · have ih := dg_enc m (fun i hi => h i (by omega)) i (by omega)
      unfold dg at ih
      have ep : f m * 8 ^ m = f m * 8 ^ (m - i - 1) * 8 * 8 ^ i := by
        rw [Nat.mul_assoc, Nat.mul_assoc, ← Nat.pow_succ', ← Nat.pow_add]
        congr 2
        omega
      rw [ep, Nat.add_mul_div_right _ _ (Nat.pow_pos (by decide)), Nat.add_mul_mod_self_right, ih]
/-- an order of m -/
def okP (m c : Nat) : Prop := ∀ i, i < m → dg c i < m ∧ ∀ j, j < i → dg c i ≠ dg c j
def okC (m c : Nat) : Bool := decide (∀ i, i < m → dg c i < m ∧ ∀ j, j < i → dg c i ≠ dg c j)
def nxC (m c : Nat) : Nat := match nxF m (dg c) with
  | none => 0
  | some g => enc g m + 1
def endC (m : Nat) : Nat → Nat → Bool
  | 0, _ => false
  | f + 1, c => okC m c && (match nxC m c with
    | 0 => true
    | c' + 1 => endC m f c')
def c0 (m : Nat) : Nat := enc (fun i => i) m
set_option maxRecDepth 100000 in
theorem endC_0 : ∀ m, m < 7 → endC m 720 (c0 m) = true := by decide +kernel
theorem endC_ok {m f c : Nat} (h : endC m (f + 1) c = true) : okP m c ∧ ∀ c', nxC m c = c' + 1 → endC m f c' = true := by
  rw [endC, Bool.and_eq_true] at h
  have h1 := h.1
  unfold okC at h1
  have h3 := of_decide_eq_true h1
  refine ⟨h3, fun c' e => ?_⟩
  have h2 := h.2
  rw [e] at h2
  exact h2
/-! ranks and riders -/
section RHO
variable {ρ o : Nat → Nat} {m : Nat}
theorem nxT_rho (hρ : ∀ i j, i < m → j < m → (ρ i < ρ j ↔ i < j)) (ho : ∀ i, i < m → o i < m) : ∀ k, k + 1 ≤ m ∨ k = 0 → nxT (fun i => ρ (o i)) k = nxT o k
  | 0, _ => rfl
  | k + 1, hk => by
    have ih := nxT_rho hρ ho k (by omega)
    rw [nxT, nxT, ih]
    have := hρ (o (k + 1)) (o k) (ho _ (by omega)) (ho _ (by omega))
    by_cases q : o (k + 1) < o k
    · rw [if_pos q, if_pos (this.mpr q)]
    · rw [if_neg q, if_neg (fun z => q (this.mp z))]
theorem nxW_rho (hρ : ∀ i j, i < m → j < m → (ρ i < ρ j ↔ i < j)) (ho : ∀ i, i < m → o i < m) {t : Nat} (ht : t < m) : ∀ w, w < m → nxW (fun i => ρ (o i)) t w = nxW o t w
  | 0, _ => rfl
  | w + 1, hw => by
    have ih := nxW_rho hρ ho ht w (by omega)
    rw [nxW, nxW, ih]
    have := hρ (o (w + 1)) (o t) (ho _ hw) (ho _ ht)
    by_cases q : o (w + 1) < o t
    · rw [if_pos q, if_pos (this.mpr q)]
    · rw [if_neg q, if_neg (fun z => q (this.mp z))]
theorem swF_rho (i j : Nat) : swF (fun i => ρ (o i)) i j = fun r => ρ (swF o i j r) := by
  funext r
  unfold swF up1
  split
  · rfl
  · split <;> rfl
theorem rvF_rho : ∀ f (o : Nat → Nat) lo hi, rvF f (fun i => ρ (o i)) lo hi = fun r => ρ (rvF f o lo hi r)
  | 0, _, _, _ => rfl
  | f + 1, o, lo, hi => by
    by_cases q : lo < hi
    · rw [rvF, if_pos q, swF_rho, rvF_rho f]
      funext r
      rw [rvF, if_pos q]
    · rw [rvF, if_neg q]
      funext r
      rw [rvF, if_neg q]
theorem nxF_rho (hρ : ∀ i j, i < m → j < m → (ρ i < ρ j ↔ i < j)) (ho : ∀ i, i < m → o i < m) : (nxF m o = none → nxF m (fun i => ρ (o i)) = none) ∧ ∀ g, nxF m o = some g → nxF m (fun i => ρ (o i)) = some (fun r => ρ (g r)) := by
  unfold nxF
  rw [nxT_rho hρ ho (m - 1) (by omega)]
  cases ht : nxT o (m - 1) with
  | none => exact ⟨fun _ => rfl, fun g h => by cases h⟩
  | some t =>
    have := nxT_some ht
    refine ⟨fun h => (by cases h), fun g h => ?_⟩
    cases h
    dsimp only
    rw [nxW_rho hρ ho (by omega) (m - 1) (by omega), swF_rho, rvF_rho]
theorem rvF_lt {B : Nat} : ∀ f (o : Nat → Nat) lo hi, hi < m → (∀ r, r < m → o r < B) → ∀ r, r < m → rvF f o lo hi r < B
  | 0, _, _, _, _, h => h
  | f + 1, o, lo, hi, hh, h => by
    intro r hr
    rw [rvF]
    split
    · exact rvF_lt f _ _ _ (by omega) (swF_lt (by omega) (by omega) h) r hr
    · exact h r hr
theorem nxF_lt {B : Nat} {g : Nat → Nat} (h : nxF m o = some g) (ho : ∀ r, r < m → o r < B) : ∀ r, r < m → g r < B := by
  unfold nxF at h
  cases ht : nxT o (m - 1) with
  | none => rw [ht] at h; cases h
  | some t =>
    rw [ht] at h
    cases h
    have h1 := nxT_some ht
    have h2 := nxW_b h1.2 (w := m - 1) (by omega)
    exact rvF_lt 8 _ _ _ (by omega) (swF_lt (by omega) (by omega) ho)
end RHO
/-- the next code, and the next order of riders -/
theorem nxC_rho {ρ : Nat → Nat} {m c : Nat} (hρ : ∀ i j, i < m → j < m → (ρ i < ρ j ↔ i < j)) (hc : okP m c) : (nxC m c = 0 → nxF m (fun i => ρ (dg c i)) = none) ∧ ∀ c', nxC m c = c' + 1 → ∃ a', nxF m (fun i => ρ (dg c i)) = some a' ∧ ∀ r, r < m → a' r = ρ (dg c' r) := by
  have hr := nxF_rho (o := dg c) hρ (fun i hi => (hc i hi).1)
  unfold nxC
  cases hg : nxF m (dg c) with
  | none => exact ⟨fun _ => hr.1 hg, fun c' h => by cases h⟩
  | some g =>
    refine ⟨fun h => (by cases h), fun c' h => ?_⟩
    have e : c' = enc g m := by
      have : enc g m + 1 = c' + 1 := h
      omega
    subst e
    refine ⟨_, hr.2 g hg, fun r hr' => ?_⟩
    rw [dg_enc m (nxF_lt hg (fun r _ => dg_lt c r)) r hr']
/-! a set of riders by numbers -/
def pcN (S : Nat) : Nat → Nat := sN (fun k => if S.testBit k then 1 else 0)
def odF (S : Nat) : Nat → Nat → Nat
  | 0 => fun _ => 0
  | r + 1 => if S.testBit r then up1 (odF S r) (pcN S r) r else odF S r
theorem pcN_at : ∀ n, n < 9 → ∀ S, S < 256 → S < 2 ^ n → pcN S n = pc8 S := by decide +kernel
theorem pcN_le (S : Nat) : ∀ r, pcN S r ≤ r
  | 0 => Nat.le_refl _
  | r + 1 => by
    have := pcN_le S r
    unfold pcN at this ⊢
    rw [sN]
    split <;> omega
theorem pcN_y {S r : Nat} (h : S.testBit r = true) : pcN S (r + 1) = pcN S r + 1 := by
  unfold pcN
  rw [sN, if_pos h]
theorem pcN_n {S r : Nat} (h : ¬ S.testBit r = true) : pcN S (r + 1) = pcN S r := by
  unfold pcN
  rw [sN, if_neg h, Nat.add_zero]
theorem odF_ok (S : Nat) : ∀ r, (∀ i, i < pcN S r → odF S r i < r) ∧ ∀ i j, i < j → j < pcN S r → odF S r i < odF S r j
  | 0 => ⟨fun i h => absurd h (by show ¬ i < 0; omega), fun i j _ h => absurd h (by show ¬ j < 0; omega)⟩
  | r + 1 => by
    obtain ⟨h1, h2⟩ := odF_ok S r
    by_cases hb : S.testBit r = true
    · rw [pcN_y hb, odF, if_pos hb]
      constructor
      · intro i hi
        by_cases e : i = pcN S r
        · rw [e, up1_s]
          omega
        · rw [up1_o e rfl]
          have := h1 i (by omega)
          omega
      · intro i j hij hj
        rw [up1_o (by omega : i ≠ pcN S r) rfl]
        by_cases e : j = pcN S r
        · rw [e, up1_s]
          exact h1 i (by omega)
        · rw [up1_o e rfl]
          exact h2 i j hij (by omega)
    · rw [pcN_n hb, odF, if_neg hb]
      exact ⟨fun i hi => by have := h1 i hi; omega, h2⟩
theorem odF_iff {S r m : Nat} (hm : m = pcN S r) : ∀ i j, i < m → j < m → (odF S r i < odF S r j ↔ i < j) := by
  intro i j hi hj
  have h2 := (odF_ok S r).2
  constructor
  · intro h
    by_cases e : i < j
    · exact e
    · by_cases e2 : i = j
      · subst e2
        omega
      · have := h2 j i (by omega) (by omega)
        omega
  · intro h
    exact h2 i j h (by omega)
theorem odF_inj {S r m : Nat} (hm : m = pcN S r) {i j : Nat} (hi : i < m) (hj : j < m) (h : odF S r i = odF S r j) : i = j := by
  have h1 := odF_iff hm i j hi hj
  have h2 := odF_iff hm j i hj hi
  omega
/-! the greatest behind some sharing -/
def shM (a b : Nat → Nat) : Nat → Nat → Nat
  | 0 => b
  | s + 1 => evO (shM a b s) (a s) (a (s + 1))
def mxA (a b : Nat → Nat) : Nat → Nat
  | 0 => 0
  | s + 1 => max (mxA a b s) (b (a s))
theorem shM_le {a b : Nat → Nat} {N m : Nat} (ha : ∀ s, s < m → a s < N) (hb : ∀ r, r < N → b r ≤ 99) : ∀ s, s + 1 ≤ m ∨ s = 0 → ∀ r, r < N → shM a b s r ≤ 99
  | 0, _ => hb
  | s + 1, hs => by
    have ih := shM_le ha hb s (by omega)
    rw [shM]
    exact evO_le (ha s (by omega)) (ha (s + 1) (by omega)) ih
theorem mxA_le {a b : Nat → Nat} {N m : Nat} (ha : ∀ s, s < m → a s < N) (hb : ∀ r, r < N → b r ≤ 99) : ∀ s, s ≤ m → mxA a b s ≤ 99
  | 0, _ => by rw [mxA]; omega
  | s + 1, hs => by
    have ih := mxA_le ha hb s (by omega)
    have := hb (a s) (ha s (by omega))
    rw [mxA]
    omega
theorem itN_le {a : Nat → Nat} {N m : Nat} (ha : ∀ s, s < m → a s < N) : ∀ k (b : Nat → Nat), (∀ r, r < N → b r ≤ 99) → ∀ r, r < N → itN (fun b => shM a b (m - 1)) k b r ≤ 99
  | 0, b, hb => hb
  | k + 1, b, hb => by
    rw [itN]
    exact itN_le ha k _ (shM_le ha hb (m - 1) (by omega))
/-- what a sitting, told by a code, comes to -/
def grF (D : Nat → Nat) (S k c : Nat) : Nat := mxA (fun i => odF S (D 2) (dg c i)) (itN (fun b => shM (fun i => odF S (D 2) (dg c i)) b (pc8 S - 1)) k (fun r => D (19 + r))) (pc8 S)
def caS (g c : Nat) (q : Nat × Nat × Nat) : Nat × Nat × Nat := if q.2.1 = 0 ∨ g < q.1 then (g, 1, c) else if g = q.1 then (q.1, q.2.1 + 1, q.2.2) else q
def caF (gr : Nat → Nat) (m : Nat) : Nat → Nat → Nat × Nat × Nat → Nat × Nat × Nat
  | 0, _, q => q
  | f + 1, c, q => match nxC m c with
    | 0 => caS (gr c) c q
    | c' + 1 => caF gr m f c' (caS (gr c) c q)
/-- the calm of a set: the least, by how many, the first -/
def calF (D : Nat → Nat) (S k : Nat) : Nat × Nat × Nat := caF (grF D S k) (pc8 S) 720 (c0 (pc8 S)) (0, 0, 0)
def calA (D : Nat → Nat) (S : Nat) (y x : Int32) : Int32 := if S = 0 ∨ y.toInt < 0 ∨ 9 < y.toInt then zI (-1) else if x.toInt = 0 then nI (calF D S y.toInt.toNat).1 else if x.toInt = 1 then nI (calF D S y.toInt.toNat).2.1 else if 10 ≤ x.toInt ∧ x.toInt < 10 + (pc8 S : Int) then nI (odF S (D 2) (dg (calF D S y.toInt.toNat).2.2 (x.toInt.toNat - 10))) else zI (-1)
