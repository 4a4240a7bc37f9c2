/-! orders: a sum over sets of hills is a product -/
section ORP
variable {v q : Nat → Nat} {n : Nat} {B : Nat → Bool}
/-- how many of B are not higher than t -/
def dC (v : Nat → Nat) (n : Nat) (B : Nat → Bool) (t : Nat) : Nat := sN (fun h => if B h = true ∧ v h ≤ t then 1 else 0) n
def PF (v q : Nat → Nat) (n : Nat) (B : Nat → Bool) : Nat → Nat
  | 0 => 1
  | j + 1 => PF v q n B j * (dC v n B (q j) - j)
def wo (B : Nat → Bool) (h x : Nat) : Bool := B x && decide (x ≠ h)
theorem sN_cg {f g : Nat → Nat} : ∀ n, (∀ i, i < n → f i = g i) → sN f n = sN g n
  | 0, _ => rfl
  | n + 1, h => by rw [sN, sN, sN_cg n (fun i hi => h i (by omega)), h n (by omega)]
theorem sN_lin {f g e : Nat → Nat} {c p : Nat} : ∀ n, (∀ i, i < n → f i = g i * c + e i * p) → sN f n = sN g n * c + sN e n * p
  | 0, _ => by simp [sN]
  | n + 1, h => by
    rw [sN, sN, sN, sN_lin n (fun i hi => h i (by omega)), h n (by omega), Nat.add_mul, Nat.add_mul]
    omega
theorem sN_add {f g : Nat → Nat} : ∀ n, sN (fun i => f i + g i) n = sN f n + sN g n
  | 0 => rfl
  | n + 1 => by
    rw [sN, sN, sN, sN_add n]
    omega
theorem dC_mono {s t : Nat} (h : s ≤ t) : ∀ n, dC v n B s ≤ dC v n B t
  | 0 => Nat.le_refl _
  | n + 1 => by
    have := dC_mono h n
    unfold dC at this ⊢
    rw [sN, sN]
    by_cases h1 : B n = true ∧ v n ≤ s
    · rw [if_pos h1, if_pos ⟨h1.1, by omega⟩]
      omega
    · rw [if_neg h1]
      omega
theorem dC_dif {s t : Nat} (h : s ≤ t) : ∀ n, dC v n B t = dC v n B s + sN (fun h => if B h = true ∧ s < v h ∧ v h ≤ t then 1 else 0) n
  | 0 => rfl
  | n + 1 => by
    have := dC_dif h n
    unfold dC at this ⊢
    rw [sN, sN, sN, this]
    by_cases h1 : B n = true
    · by_cases h2 : v n ≤ s
      · rw [if_pos ⟨h1, by omega⟩, if_pos ⟨h1, h2⟩, if_neg (by omega)]
        omega
      · by_cases h3 : v n ≤ t
        · rw [if_pos ⟨h1, h3⟩, if_neg (fun z => h2 z.2), if_pos ⟨h1, by omega, h3⟩]
          omega
        · rw [if_neg (fun z => h3 z.2), if_neg (fun z => h2 z.2), if_neg (fun z => h3 z.2.2)]
          omega
    · rw [if_neg (fun z => h1 z.1), if_neg (fun z => h1 z.1), if_neg (fun z => h1 z.1)]
      omega
theorem dC_wo0 {h t : Nat} (hh : B h = true) : ∀ n, dC v n (wo B h) t = (if h < n ∧ v h ≤ t then dC v n B t - 1 else dC v n B t) ∧ (h < n ∧ v h ≤ t → 1 ≤ dC v n B t)
  | 0 => ⟨by rw [if_neg (by omega)]; rfl, fun z => absurd z.1 (by omega)⟩
  | n + 1 => by
    obtain ⟨i1, i2⟩ := dC_wo0 (t := t) hh n
    have s1 : dC v (n + 1) (wo B h) t = dC v n (wo B h) t + (if wo B h n = true ∧ v n ≤ t then 1 else 0) := rfl
    have s2 : dC v (n + 1) B t = dC v n B t + (if B n = true ∧ v n ≤ t then 1 else 0) := rfl
    rw [s1, s2, i1]
    generalize dC v n B t = X at i2 ⊢
    by_cases e : n = h
    · subst e
      have z : (if wo B n n = true ∧ v n ≤ t then 1 else 0) = 0 := if_neg (fun z => by
        have := z.1
        unfold wo at this
        simp at this)
      have z1 : (if n < n ∧ v n ≤ t then X - 1 else X) = X := if_neg (by omega)
      rw [z, z1]
      by_cases h3 : v n ≤ t
      · have z2 : (if B n = true ∧ v n ≤ t then 1 else 0) = 1 := if_pos ⟨hh, h3⟩
        rw [z2, if_pos ⟨by omega, h3⟩]
        omega
      · have z2 : (if B n = true ∧ v n ≤ t then 1 else 0) = 0 := if_neg (fun z => h3 z.2)
        rw [z2, if_neg (fun z => h3 z.2)]
        exact ⟨rfl, fun z => absurd z.2 h3⟩
    · have ew : wo B h n = B n := by
        unfold wo
        rw [decide_eq_true e, Bool.and_true]
      rw [ew]
      generalize (if B n = true ∧ v n ≤ t then 1 else 0) = Y
      by_cases h3 : h < n ∧ v h ≤ t
      · have i2 := i2 h3
        have z1 : (if h < n ∧ v h ≤ t then X - 1 else X) = X - 1 := if_pos h3
        have z2 : (if h < n + 1 ∧ v h ≤ t then X + Y - 1 else X + Y) = X + Y - 1 := if_pos ⟨by omega, h3.2⟩
        rw [z1, z2]
        omega
      · have z1 : (if h < n ∧ v h ≤ t then X - 1 else X) = X := if_neg h3
        have z2 : (if h < n + 1 ∧ v h ≤ t then X + Y - 1 else X + Y) = X + Y := if_neg (by omega)
        rw [z1, z2]
        exact ⟨rfl, fun z => absurd z (by omega)⟩
theorem PF_wo_hi {h : Nat} (hh : B h = true) : ∀ i, (∀ j, j < i → q j < v h) → PF v q n (wo B h) i = PF v q n B i
  | 0, _ => rfl
  | i + 1, hj => by
    rw [PF, PF, PF_wo_hi hh i (fun j hj' => hj j (by omega)), (dC_wo0 hh n).1, if_neg (fun z => by have := hj i (by omega); omega)]
theorem PF_sum (hq : ∀ j, q j ≤ q (j + 1)) : ∀ i, sN (fun h => if B h = true ∧ v h ≤ q i then PF v q n (wo B h) i else 0) n = PF v q n B (i + 1)
  | 0 => by
    rw [PF, PF, Nat.one_mul, Nat.sub_zero]
    rfl
  | i + 1 => by
    have ih := PF_sum hq i
    have hqm : ∀ a d, q a ≤ q (a + d) := by
      intro a d
      induction d with
      | zero => exact Nat.le_refl _
      | succ d ihd => exact Nat.le_trans ihd (hq (a + d))
    have hs : sN (fun h => if B h = true ∧ v h ≤ q (i + 1) then PF v q n (wo B h) (i + 1) else 0) n = sN (fun h => if B h = true ∧ v h ≤ q i then PF v q n (wo B h) i else 0) n * (dC v n B (q i) - (i + 1)) + sN (fun h => if B h = true ∧ q i < v h ∧ v h ≤ q (i + 1) then 1 else 0) n * PF v q n B (i + 1) := by
      refine sN_lin n (fun h hn => ?_)
      have hq1 := hq i
      by_cases hB : B h = true
      · by_cases h1 : v h ≤ q i
        · rw [if_pos ⟨hB, by omega⟩, if_pos ⟨hB, h1⟩, if_neg (fun z => absurd z.2.1 (by omega)), PF, (dC_wo0 hB n).1, if_pos ⟨hn, h1⟩, Nat.zero_mul, Nat.add_zero]
          congr 1
          omega
        · by_cases h2 : v h ≤ q (i + 1)
          · rw [if_pos ⟨hB, h2⟩, if_neg (fun z => h1 z.2), if_pos ⟨hB, by omega, h2⟩, PF_wo_hi hB (i + 1) (fun j hj => by have := hqm j (i - j); rw [show j + (i - j) = i by omega] at this; omega), Nat.zero_mul, Nat.zero_add, Nat.one_mul]
          · rw [if_neg (fun z => h2 z.2), if_neg (fun z => h1 z.2), if_neg (fun z => h2 z.2.2), Nat.zero_mul, Nat.zero_mul]
      · rw [if_neg (fun z => hB z.1), if_neg (fun z => hB z.1), if_neg (fun z => hB z.1), Nat.zero_mul, Nat.zero_mul]
    rw [hs, ih]
    have hd := dC_dif (v := v) (B := B) (hq i) n
    show _ = PF v q n B (i + 1) * (dC v n B (q (i + 1)) - (i + 1))
    by_cases hc : i + 1 ≤ dC v n B (q i)
    · rw [Nat.mul_comm (sN _ n), ← Nat.mul_add]
      congr 1
      omega
    · have hz : PF v q n B (i + 1) = 0 := by
        rw [PF, show dC v n B (q i) - i = 0 by omega, Nat.mul_zero]
      rw [hz, Nat.mul_zero, Nat.zero_mul, Nat.zero_mul]
end ORP
/-! as the two sides count -/
def puF (D : Nat → Nat) (S k : Nat) : Nat := plS D (itw D S k) S (D 2)
theorem pl_mono {kd x y : Nat} (h : x ≤ y) : pl kd x ≤ pl kd y := by
  unfold pl
  split
  · exact h
  · split
    · omega
    · split
      · omega
      · exact Nat.le_refl _
theorem sN_mono {f g : Nat → Nat} : ∀ n, (∀ i, i < n → f i ≤ g i) → sN f n ≤ sN g n
  | 0, _ => Nat.le_refl _
  | n + 1, h => by
    have := sN_mono n (fun i hi => h i (by omega))
    have := h n (by omega)
    rw [sN, sN]
    omega
theorem puF_dn (D : Nat → Nat) (S k : Nat) : puF D S (k + 1) ≤ puF D S k := by
  unfold puF plS
  refine sN_mono _ (fun r _ => ?_)
  split
  · refine pl_mono ?_
    show wn D (itw D S k) S r ≤ _
    unfold wn
    split <;> omega
  · exact Nat.le_refl _
theorem puF_le (D : Nat → Nat) (S k : Nat) (h2 : D 2 ≤ 8) : puF D S k ≤ 5000 := by
  have := plS_le D (b := itw D S k) (S := S) (n := D 2) (fun r _ => by have := itw_le D S k r; omega)
  unfold puF
  omega
/-- the thresholds from the last hill on -/
def quF (D : Nat → Nat) (S j : Nat) : Nat := puF D S (D 0 - 1 - j)
theorem quF_up (D : Nat → Nat) (S j : Nat) : quF D S j ≤ quF D S (j + 1) := by
  unfold quF
  by_cases h : j + 1 ≤ D 0 - 1
  · have := puF_dn D S (D 0 - 1 - (j + 1))
    rw [show D 0 - 1 - (j + 1) + 1 = D 0 - 1 - j by omega] at this
    exact this
  · rw [show D 0 - 1 - (j + 1) = 0 by omega, show D 0 - 1 - j = 0 by omega]
    exact Nat.le_refl _
def cu (D : Nat → Nat) (t : Nat) : Nat → Nat := sN (fun h => if D (3 + h) ≤ t then 1 else 0)
theorem cu_le (D : Nat → Nat) (t n : Nat) : cu D t n ≤ n := by
  have := sN_le (f := fun h => if D (3 + h) ≤ t then 1 else 0) (b := 1) n (fun i _ => by split <;> omega)
  unfold cu
  omega
/-- in how many orders -/
def prF (D : Nat → Nat) (S : Nat) : Nat → Nat
  | 0 => 1
  | j + 1 => prF D S j * (cu D (quF D S j) (D 0) - j)
/-- the hills that a set has not -/
def coB (a h : Nat) : Bool := !a.testBit h
def rwF (D : Nat → Nat) (S a : Nat) : Nat := PF (fun h => D (3 + h)) (quF D S) (D 0) (coB a) (D 0 - pc8 a)
theorem rwF_0 (D : Nat → Nat) (S : Nat) : rwF D S 0 = prF D S (D 0) := by
  have e : ∀ j, PF (fun h => D (3 + h)) (quF D S) (D 0) (coB 0) j = prF D S j := by
    intro j
    induction j with
    | zero => rfl
    | succ j ih =>
      rw [PF, prF, ih]
      congr 2
      refine sN_cg _ (fun h _ => ?_)
      have : coB 0 h = true := by simp [coB]
      rw [this]
      by_cases q : D (3 + h) ≤ quF D S j
      · rw [if_pos ⟨rfl, q⟩, if_pos q]
      · rw [if_neg (fun z => q z.2), if_neg q]
  unfold rwF
  rw [show pc8 0 = 0 by decide, Nat.sub_zero]
  exact e _
theorem pc8_all : ∀ n, n < 9 → pc8 (2 ^ n - 1) = n := by decide +kernel
theorem pc8_lt : ∀ n, n < 9 → ∀ a, a < 256 → a < 2 ^ n - 1 → pc8 a < n := by decide +kernel
theorem pc8_or : ∀ a, a < 256 → ∀ h, h < 8 → a.testBit h = false → pc8 (a ||| 2 ^ h) = pc8 a + 1 ∧ a ||| 2 ^ h = a + 2 ^ h := by decide +kernel
theorem rwF_all (D : Nat → Nat) (S : Nat) (h0 : D 0 ≤ 8) : rwF D S (2 ^ D 0 - 1) = 1 := by
  unfold rwF
  rw [pc8_all (D 0) (by omega), Nat.sub_self]
  rfl
/-- one term of the reference's sum -/
def rwT (D : Nat → Nat) (S a h : Nat) : Nat := if a.testBit h = false ∧ D (3 + h) ≤ puF D S (pc8 a) then rwF D S (a ||| 2 ^ h) else 0
theorem rwF_sum (D : Nat → Nat) (S a : Nat) (h0 : D 0 ≤ 8) (ha : a < 2 ^ D 0 - 1) : sN (rwT D S a) (D 0) = rwF D S a := by
  have hp := pw_le (D 0) (by omega)
  have hlt := pc8_lt (D 0) (by omega) a (by omega) ha
  have hs := PF_sum (v := fun h => D (3 + h)) (n := D 0) (B := coB a) (quF_up D S) (D 0 - pc8 a - 1)
  rw [show D 0 - pc8 a - 1 + 1 = D 0 - pc8 a by omega] at hs
  unfold rwF
  rw [← hs]
  refine sN_cg _ (fun h hh => ?_)
  have eq : quF D S (D 0 - pc8 a - 1) = puF D S (pc8 a) := by
    unfold quF
    congr 1
    omega
  rw [eq]
  unfold rwT
  by_cases hb : a.testBit h = false
  · have hc : coB a h = true := by simp [coB, hb]
    have ho := pc8_or a (by omega) h (by omega) hb
    by_cases hv : D (3 + h) ≤ puF D S (pc8 a)
    · rw [if_pos ⟨hb, hv⟩, if_pos ⟨hc, hv⟩]
      unfold rwF
      rw [ho.1, show D 0 - (pc8 a + 1) = D 0 - pc8 a - 1 by omega]
      congr 1
      funext x
      unfold wo coB
      rw [Nat.testBit_or, Nat.testBit_two_pow]
      by_cases e : h = x
      · subst e
        simp
      · simp [e, Ne.symm e]
    · rw [if_neg (fun z => hv z.2), if_neg (fun z => hv z.2)]
  · have hc : ¬ coB a h = true := by simp [coB] at hb ⊢; exact hb
    rw [if_neg (fun z => hb z.1), if_neg (fun z => hc z.1)]
/-! longs by their numbers -/
def nL (n : Nat) : Int64 := Int64.ofNat n
theorem nL_add (a b : Nat) : nL a + nL b = nL (a + b) := (Int64.ofNat_add a b).symm
theorem nL_mul (a b : Nat) : nL a * nL b = nL (a * b) := (Int64.ofNat_mul a b).symm
theorem nI_toL {n : Nat} (h : n < 2 ^ 31) : (nI n).toInt64 = nL n := by
  refine Int64.toInt_inj.mp ?_
  rw [Int32.toInt_toInt64, nI_toInt h]
  unfold nL
  rw [Int64.toInt_ofNat_of_lt (by omega)]
