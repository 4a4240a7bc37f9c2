/-! what a text tells -/
def fmN (g j : Nat) : Nat := (FMS.getD (6 * g + j) 0).toInt.toNat
theorem fmN_at : ∀ g, g < 18 → ∀ j, j < 6 → FMS.getD (6 * g + j) 0 = nI (fmN g j) ∧ fmN g j ≤ 99 := by decide +kernel
theorem fmN_c : ∀ g, g < 18 → fmN g 0 ≤ 1 ∧ fmN g 1 ≤ 2 := by decide +kernel
def nt (f : Nat × Nat) (c : Bool) (k q : Nat) : Nat × Nat := if f.1 = 0 ∧ c = true then (k, q) else f
theorem nt_0 {f : Nat × Nat} {c : Bool} {k q : Nat} (hk : k ≠ 0) (h : (nt f c k q).1 = 0) : f.1 = 0 ∧ c = false ∧ nt f c k q = f := by
  unfold nt at h ⊢
  split at h
  · exact absurd h hk
  · rename_i hn
    rw [if_neg hn]
    refine ⟨h, ?_, rfl⟩
    cases c with
    | false => rfl
    | true => exact absurd ⟨h, rfl⟩ hn
/-- no further one may come -/
def fulB (g : Nat) (E : Nat → Int) : Bool := if g = 0 then decide (8 ≤ E 0) else if g = 2 then decide (8 ≤ E 2) else if 5 ≤ g ∧ g ≤ 12 then decide (40 ≤ E 0) else if g = 16 ∨ g = 17 then decide (10 ≤ E 1) else false
def vN (t : Nat → Int) (n p : Nat) : Nat := (nvA t (skp t n p) (tkR t n p - skp t n p)).toNat
def badB (g i v : Nat) : Bool := decide (v < fmN g (2 + 2 * i) ∨ fmN g (3 + 2 * i) < v)
def kdS (t : Nat → Int) (n g p : Nat) : Sum Nat (Nat × Nat) := if fmN g 0 = 0 then .inr (p, 0) else (match kdH t n p with
  | none => .inl (skp t n p)
  | some k => .inr (tkR t n p, k))
def nmS (t : Nat → Int) (n g : Nat) : Nat → Nat → Nat → Nat × Nat → Sum Nat (Nat × (Nat × Nat))
  | 0, _, p, f => .inr (p, f)
  | c + 1, i, p, f => if tkK t n p = 2 then nmS t n g c (i + 1) (tkR t n p) (nt f (badB g i (vN t n p)) 2 (skp t n p)) else .inl (skp t n p)
/-- the two numbers, or none -/
def v1F (t : Nat → Int) (n g p : Nat) : Int := if 1 ≤ fmN g 1 then (vN t n p : Int) else -1
def v2F (t : Nat → Int) (n g p : Nat) : Int := if 2 ≤ fmN g 1 then (vN t n (tkR t n p) : Int) else -1
def goodB (t : Nat → Int) (n g p : Nat) : Bool := (decide (fmN g 1 < 1) || !badB g 0 (vN t n p)) && (decide (fmN g 1 < 2) || !badB g 1 (vN t n (tkR t n p)))
def ad3 (E : Nat → Int) (c a : Nat) (x y z : Int) : Nat → Int := up1 (up1 (up1 (up1 E a x) (a + 1) y) (a + 2) z) c (E c + 1)
def tkE (g kd : Nat) (v1 v2 : Int) (good : Bool) (E : Nat → Int) : Nat → Int :=
  if g = 0 then (if E 0 < 8 then up1 (up1 E (3 + (E 0).toNat) v1) 0 (E 0 + 1) else E)
  else if g = 1 then up1 E 1 v1
  else if g = 2 then (if E 2 < 8 then up1 (up1 (up1 E (11 + (E 2).toNat) (kd : Int)) (19 + (E 2).toNat) v1) 2 (E 2 + 1) else E)
  else if g = 3 then (if good then up1 E (27 + kd) v1 else E)
  else if g = 4 then (if good then up1 E (30 + v1.toNat) v2 else E)
  else if g < 13 then (if E 0 = 40 then E else ad3 E 0 (1 + 3 * (E 0).toNat) ((g : Int) - 5) v1 v2)
  else if g = 13 then up1 E 0 v1
  else if g = 14 then (if good then up1 E (1 + v1.toNat) v2 else E)
  else if g = 15 then up1 E 0 v1
  else (if E 1 = 10 then E else ad3 E 1 (2 + 3 * (E 1).toNat) (if g = 16 then 1 else 0) v1 v2)
def tkT (g : Nat) (v1 : Int) (T : Nat) : Nat := if 16 ≤ g then T ||| v1.toNat else T
/-- one statement: where it goes wrong, or what is then -/
def stm (t : Nat → Int) (n so : Nat) (E : Nat → Int) (T : Nat) (f : Nat × Nat) (p : Nat) : Sum Nat (Nat × (Nat × Nat) × (Nat → Int) × Nat) := match fmH t n so p with
  | none => .inl (skp t n p)
  | some g => (match kdS t n g (tkR t n p) with
    | .inl e => .inl e
    | .inr pk => (match nmS t n g (fmN g 1) 0 pk.1 (nt f (fulB g E) 3 (skp t n p)) with
      | .inl e => .inl e
      | .inr pf => if tkK t n pf.1 = 3 then .inr (tkR t n pf.1, pf.2, tkE g pk.2 (v1F t n g pk.1) (v2F t n g pk.1) (goodB t n g pk.1) E, tkT g (v1F t n g pk.1) T) else .inl (skp t n pf.1)))
def psF (t : Nat → Int) (n so : Nat) : Nat → (Nat → Int) → Nat → Nat × Nat → Nat → Sum Nat (Nat × (Nat × Nat) × (Nat → Int) × Nat)
  | 0, E, T, f, p => .inr (p, f, E, T)
  | k + 1, E, T, f, p => if tkK t n p = 0 then .inr (p, f, E, T) else (match stm t n so E T f p with
    | .inl e => .inl e
    | .inr q => psF t n so k q.2.2.1 q.2.2.2 q.2.1 q.1)
/-- at first -/
def E0 (so : Nat) : Nat → Int := fun j => if so = 0 then (if j = 1 then 4 else if 27 ≤ j ∧ j < 31 then 1 else if 31 ≤ j ∧ j < 39 then (j : Int) - 30 else 0) else if so = 2 then (if j = 0 then 10 else 0) else if so = 3 then (if j = 0 then 2 else 0) else 0
/-! bounds -/
theorem tkK_le (t : Nat → Int) (n p : Nat) : tkK t n p ≤ 4 := by
  unfold tkK tkKq
  repeat' split
  all_goals omega
theorem tkK_pos {t : Nat → Int} {n p : Nat} (h : tkK t n p ≠ 0) : skp t n p < n := by
  by_cases q : n ≤ skp t n p
  · exact absurd (tq_end (t := t) q).1 h
  · omega
theorem tkK_end {t : Nat → Int} {n p : Nat} (h : tkK t n p = 0) : n ≤ skp t n p := by
  by_cases q : n ≤ skp t n p
  · exact q
  · unfold tkK tkKq at h
    rw [if_neg q] at h
    split at h
    · cases h
    · split at h
      · split at h <;> cases h
      · split at h <;> cases h
/-- the next place to go on from -/
theorem tk_nx {t : Nat → Int} {n p : Nat} (hp : p ≤ n) (h : tkK t n p ≠ 0) : p ≤ skp t n p ∧ skp t n p < tkR t n p ∧ tkR t n p ≤ n := by
  have h1 := skp_b (t := t) hp
  have h2 := tkR_b (t := t) hp
  have h3 := tkK_pos h
  exact ⟨h1.1, h2.2.2 h3, h2.2.1⟩
theorem num_b {t : Nat → Int} {n p : Nat} (hp : p ≤ n) (h : tkK t n p = 2) : 0 ≤ nvA t (skp t n p) (tkR t n p - skp t n p) ∧ nvA t (skp t n p) (tkR t n p - skp t n p) ≤ 99 ∧ 1 ≤ tkR t n p - skp t n p ∧ tkR t n p - skp t n p ≤ 2 := by
  have hx := tk_nx hp (show tkK t n p ≠ 0 by omega)
  have h1 : ¬ n ≤ skp t n p := by omega
  have hL : ¬ isL (t (skp t n p)) = true := fun q => by
    have := (tq_word h1 q).1
    unfold tkK at h
    omega
  have hG : isG (t (skp t n p)) = true := by
    by_cases q : isG (t (skp t n p)) = true
    · exact q
    · have := (tq_oth h1 hL q).1
      unfold tkK at h
      rw [this] at h
      split at h <;> omega
  have hd := tq_dig h1 hL hG
  have hr : tkR t n p = rn isG t (n - skp t n p) (skp t n p) := hd.2
  have h2 : tkR t n p - skp t n p ≤ 2 := by
    unfold tkK at h
    rw [hd.1] at h
    rw [hr]
    split at h
    · assumption
    · omega
  have dig : ∀ j, j < tkR t n p - skp t n p → 48 ≤ t (skp t n p + j) ∧ t (skp t n p + j) ≤ 57 := by
    intro j hj
    have := rn_all (p := isG) (t := t) (n - skp t n p) (skp t n p) (skp t n p + j) (by omega) (by rw [← hr]; omega)
    exact of_decide_eq_true this
  rcases (show tkR t n p - skp t n p = 1 ∨ tkR t n p - skp t n p = 2 by omega) with e | e
  · have d0 := dig 0 (by omega)
    rw [e]
    show 0 ≤ (0 * 10 + t (skp t n p + 0) - 48 : Int) ∧ (0 * 10 + t (skp t n p + 0) - 48 : Int) ≤ 99 ∧ _
    omega
  · have d0 := dig 0 (by omega)
    have d1 := dig 1 (by omega)
    rw [e]
    show 0 ≤ ((0 * 10 + t (skp t n p + 0) - 48) * 10 + t (skp t n p + 1) - 48 : Int) ∧ ((0 * 10 + t (skp t n p + 0) - 48) * 10 + t (skp t n p + 1) - 48 : Int) ≤ 99 ∧ _
    omega
theorem vN_at {t : Nat → Int} {n p : Nat} (hp : p ≤ n) (h : tkK t n p = 2) : zI (nvA t (skp t n p) (tkR t n p - skp t n p)) = nI (vN t n p) ∧ vN t n p ≤ 99 := by
  have h1 := num_b hp h
  refine ⟨?_, by unfold vN; omega⟩
  rw [nI_zI]
  congr 1
  unfold vN
  omega
/-- where it goes on, further on -/
theorem wd_k {t : Nat → Int} {n p i : Nat} (h : wdH t n p i = true) : tkK t n p = 1 := by
  unfold wdH at h
  rw [Bool.and_eq_true] at h
  exact of_decide_eq_true h.1
theorem kdS_b {t : Nat → Int} {n g p : Nat} {q : Nat × Nat} (hp : p ≤ n) (h : kdS t n g p = .inr q) : p ≤ q.1 ∧ q.1 ≤ n ∧ q.2 < 4 := by
  unfold kdS at h
  split at h
  · cases h
    exact ⟨Nat.le_refl _, hp, by show 0 < 4; decide⟩
  · cases hk : kdH t n p with
    | none =>
      rw [hk] at h
      cases h
    | some k =>
      rw [hk] at h
      cases h
      have hl := leastF_lt _ _ _ hk
      have := tk_nx hp (show tkK t n p ≠ 0 by rw [wd_k hl.2.2]; decide)
      exact ⟨by show p ≤ tkR t n p; omega, this.2.2, by show k < 4; omega⟩
theorem nmS_b {t : Nat → Int} {n g : Nat} : ∀ c i p f q, p ≤ n → nmS t n g c i p f = .inr q → p ≤ q.1 ∧ q.1 ≤ n
  | 0, i, p, f, q, hp, h => by
    cases h
    exact ⟨Nat.le_refl _, hp⟩
  | c + 1, i, p, f, q, hp, h => by
    rw [nmS] at h
    split at h
    · rename_i hk
      have := tk_nx hp (show tkK t n p ≠ 0 by omega)
      have := nmS_b c (i + 1) _ _ q this.2.2 h
      omega
    · cases h
theorem stm_b {t : Nat → Int} {n so T p : Nat} {E : Nat → Int} {f : Nat × Nat} {q : Nat × (Nat × Nat) × (Nat → Int) × Nat} (hp : p ≤ n) (h : stm t n so E T f p = .inr q) : p < q.1 ∧ q.1 ≤ n := by
  unfold stm at h
  cases hg : fmH t n so p with
  | none =>
    rw [hg] at h
    cases h
  | some g =>
    rw [hg] at h
    have hl := leastF_lt _ _ _ hg
    have h1 := tk_nx hp (show tkK t n p ≠ 0 by rw [wd_k hl.2.2]; decide)
    dsimp only at h
    cases hk : kdS t n g (tkR t n p) with
    | inl e =>
      rw [hk] at h
      cases h
    | inr pk =>
      rw [hk] at h
      have h2 := kdS_b h1.2.2 hk
      dsimp only at h
      cases hm : nmS t n g (fmN g 1) 0 pk.1 (nt f (fulB g E) 3 (skp t n p)) with
      | inl e =>
        rw [hm] at h
        cases h
      | inr pf =>
        rw [hm] at h
        have h3 := nmS_b _ _ _ _ _ h2.2.1 hm
        dsimp only at h
        split at h
        · rename_i hs
          cases h
          have h4 := tk_nx h3.2 (show tkK t n pf.1 ≠ 0 by omega)
          exact ⟨by show p < tkR t n pf.1; omega, h4.2.2⟩
        · cases h
