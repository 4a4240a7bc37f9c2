/-! a line as numbers: D 0 hills, D 1 seats, D 2 riders, D (3+k) heights, D (11+r) kinds, D (19+r) ounces, D (27+k) wear, D (31+n) fares -/
def DOK (D : Nat → Nat) : Prop := D 0 ≤ 8 ∧ (1 ≤ D 1 ∧ D 1 ≤ 6) ∧ D 2 ≤ 8 ∧ (∀ k, k < 8 → D (3 + k) ≤ 99) ∧ (∀ r, r < 8 → D (11 + r) ≤ 3) ∧ (∀ r, r < 8 → D (19 + r) ≤ 60) ∧ (∀ k, k < 4 → D (27 + k) ≤ 9) ∧ ∀ k, k < 8 → D (31 + k) ≤ 99
/-- what a rider of a kind pulls -/
def pl (kd x : Nat) : Nat := if kd = 0 then x else if kd = 1 then 2 * x else if kd = 2 then x / 2 else 0
theorem pl_le (kd x : Nat) : pl kd x ≤ 2 * x := by
  unfold pl
  repeat' split
  all_goals omega
def sN (f : Nat → Nat) : Nat → Nat
  | 0 => 0
  | n + 1 => sN f n + f n
theorem sN_le {f : Nat → Nat} {b : Nat} : ∀ n, (∀ i, i < n → f i ≤ b) → sN f n ≤ n * b
  | 0, _ => by simp [sN]
  | n + 1, h => by
    have h1 := sN_le (f := f) (b := b) n (fun i hi => h i (by omega))
    have h2 := h n (by omega)
    rw [sN, Nat.succ_mul]
    omega
theorem sN_cong {f g : Nat → Nat} : ∀ n, (∀ i, i < n → f i = g i) → sN f n = sN g n
  | 0, _ => rfl
  | n + 1, h => by rw [sN, sN, sN_cong n (fun i hi => h i (by omega)), h n (by omega)]
/-- what the riders of a set pull while they bear b -/
def plS (D b : Nat → Nat) (S n : Nat) : Nat := sN (fun r => if S.testBit r then pl (D (11 + r)) (b r) else 0) n
theorem bit_at : ∀ S, S < 256 → ∀ r, r < 8 → (nI S >>> (nI r &&& 31) &&& 1 = 1 ↔ S.testBit r = true) := by decide +kernel
theorem bit_nz : ∀ S, S < 256 → ∀ r, r < 8 → (¬ nI S >>> (nI r &&& 31) &&& 1 = 0 ↔ S.testBit r = true) := by decide +kernel
theorem half_at : ∀ x, x < 256 → nI x / 2 = nI (x / 2) := by decide +kernel
theorem pullF_nI {kd x : Nat} (hk : kd < 4) (hx : x < 256) : pullF (nI kd) (nI x) = nI (pl kd x) := by
  unfold pullF pl
  rcases (show kd = 0 ∨ kd = 1 ∨ kd = 2 ∨ kd = 3 by omega) with rfl | rfl | rfl | rfl
  · rfl
  · rw [if_neg (by decide), if_pos (by decide), if_neg (by decide), if_pos rfl]
    exact g_mul 2 x
  · rw [if_neg (by decide), if_neg (by decide), if_pos (by decide), if_neg (by decide), if_neg (by decide), if_pos rfl]
    exact half_at x hx
  · rw [if_neg (by decide), if_neg (by decide), if_neg (by decide), if_neg (by decide), if_neg (by decide), if_neg (by decide)]
    rfl
/-- the line l at hand, as numbers D -/
def HA (M : Mm) (l : Nat) (D : Nat → Nat) : Prop := (M.2.1 98 23 = nI l ∧ M.2.1 98 24 = nI (D 0) ∧ M.2.1 98 25 = nI (D 1) ∧ M.2.1 98 26 = nI (D 2)) ∧ l < 8 ∧ DOK D ∧ ∀ j, j < 39 → M.2.1 104 (39 * l + j) = nI (D j)
section RP
variable {C : Ct} {M : Mm} {l S : Nat} {D b : Nat → Nat}
theorem m_ofD {a : Nat} (hK : KM M.1 M.2.2.2) (hH : HA M l D) (ha : a < 39) : CG C 225 [.ref 98, .int (nI a)] M (fun w M' => w = some (.int (nI (D a))) ∧ M' = M) := by
  refine CG.mono (m_of hK hH.1.1 (by have := hH.2.1; omega)) ?_
  rintro _ _ ⟨rfl, rfl⟩
  exact ⟨by rw [hH.2.2.2 a ha], rfl⟩
theorem m_pullD {i x : Nat} (hK : KM M.1 M.2.2.2) (hH : HA M l D) (hi : i < 8) (hx : x < 256) : CG C 227 [.ref 98, .int (nI i), .int (nI x)] M (fun w M' => w = some (.int (nI (pl (D (11 + i)) x))) ∧ M' = M) := by
  refine CG.mono (m_pull hK hH.1.1 hH.2.1 hi) ?_
  rintro _ _ ⟨rfl, rfl⟩
  exact ⟨by rw [hH.2.2.2 _ (by omega), pullF_nI (by have := hH.2.2.1.2.2.2.2.1 i hi; omega) hx], rfl⟩
theorem m_wearD {i : Nat} (hK : KM M.1 M.2.2.2) (hH : HA M l D) (hi : i < 8) : CG C 228 [.ref 98, .int (nI i)] M (fun w M' => w = some (.int (nI (D (27 + D (11 + i))))) ∧ M' = M) := by
  have hkd := hH.2.2.1.2.2.2.2.1 i hi
  refine CG.mono (m_wear (kd := D (11 + i)) hK hH.1.1 hH.2.1 hi (hH.2.2.2 _ (by omega)) (by omega)) ?_
  rintro _ _ ⟨rfl, rfl⟩
  exact ⟨by rw [hH.2.2.2 _ (by omega)], rfl⟩
/-- pullOf(set) -/
theorem m_pullOf_loop (hK : KM M.1 M.2.2.2) (hH : HA M l D) (hS : S < 256) (hb : ∀ r, r < D 2 → M.2.1 110 r = nI (b r) ∧ b r < 256) : ∀ (d i : Nat), i + d = D 2 → G C 254 (4, [some (.ref 98), some (.int (nI S)), some (.int (nI (plS D b S i))), some (.int (nI i))], [], [], M) (fun w M' => w = some (.int (nI (plS D b S (D 2)))) ∧ M' = M) := by
  have hnr : D 2 ≤ 8 := hH.2.2.1.2.2.1
  intro d
  induction d with
  | zero =>
    intro i hi
    have hi : i = D 2 := by omega
    subst hi
    refine G_S (pc := 4) f_254_4 rfl rfl rfl ?_
    refine G_S (pc := 5) f_254_5 rfl rfl rfl ?_
    refine G_gI (pc := 6) f_254_6 (by decide) rfl (by decide) (by first | assumption | exact hK.1 _ _ rfl) ?_
    rw [hH.1.2.2.2]
    refine G_jge (pc := 9) f_254_9 rfl (fun h9 => ?_) (fun h9 => ?_)
    · refine G_S (pc := 44) f_254_44 rfl rfl rfl ?_
      exact G_ri (pc := 45) f_254_45 ⟨rfl, rfl⟩
    · exact absurd (nI_le (Nat.le_refl (D 2)) (by omega)) h9
  | succ d ih =>
    intro i hi
    have hi8 : i < 8 := by omega
    have e : (nI i).toNatClampNeg = i := nI_clamp (by omega)
    obtain ⟨b1, b2⟩ := hb i (by omega)
    refine G_S (pc := 4) f_254_4 rfl rfl rfl ?_
    refine G_S (pc := 5) f_254_5 rfl rfl rfl ?_
    refine G_gI (pc := 6) f_254_6 (by decide) rfl (by decide) (by first | assumption | exact hK.1 _ _ rfl) ?_
    rw [hH.1.2.2.2]
    refine G_jge (pc := 9) f_254_9 rfl (fun h9 => ?_) (fun h9 => ?_)
    · exact absurd h9 (nI_ge (by omega) (by omega))
    · refine G_S (pc := 12) f_254_12 rfl rfl rfl ?_
      refine G_S (pc := 13) f_254_13 rfl rfl rfl ?_
      refine G_S (pc := 14) f_254_14 rfl rfl rfl ?_
      refine G_CS (pc := 15) f_254_15 rfl rfl (by decide) rfl rfl ⟨Nat.le_of_ble_eq_true rfl, Nat.le_of_ble_eq_true rfl⟩ ?_
      refine CG.go (m_has) ?_
      first | refine G_bEq (pc := 18) f_254_18 rfl (fun h18 => ?_) (fun h18 => ?_) | refine G_zeq (pc := 18) f_254_18 rfl (fun h18 => ?_) (fun h18 => ?_)
      · have h18 : ¬ S.testBit i = true := fun q => h18 ((bit_at S hS i hi8).mpr q)
        refine G_ic (v := 0) (pc := 35) f_254_35 rfl ?_
        refine G_S (pc := 36) f_254_36 rfl rfl rfl ?_
        refine G_S (pc := 37) f_254_37 rfl rfl rfl ?_
        refine G_inc1 (pc := 38) f_254_38 rfl ?_
        refine G_S (pc := 41) f_254_41 rfl rfl rfl ?_
        have e2 := ih (i + 1) (by omega)
        rw [show plS D b S (i + 1) = plS D b S i + 0 by rw [plS, sN, if_neg h18]; rfl, ← nI_add] at e2
        exact e2
      · refine G_S (pc := 21) f_254_21 rfl rfl rfl ?_
        refine G_S (pc := 22) f_254_22 rfl rfl rfl ?_
        refine G_S (pc := 23) f_254_23 rfl rfl rfl ?_
        refine G_gR (pc := 24) f_254_24 (by decide) rfl (by first | assumption | exact hK.1 _ _ rfl) (by first | assumption | exact hK.2 _ _ _ rfl) ?_
        refine G_S (pc := 27) f_254_27 rfl rfl rfl ?_
        refine G_ia (pc := 28) f_254_28 (by first | assumption | exact hK.1 _ _ rfl) (by first | assumption | exact inn_nI (by omega) (by omega)) ?_
        rw [e, b1]
        refine G_CV (pc := 29) f_254_29 rfl rfl (by decide) rfl rfl (by first | assumption | exact hK.1 _ _ rfl) (by decide) ⟨Nat.le_of_ble_eq_true rfl, Nat.le_of_ble_eq_true rfl⟩ ?_
        refine CG.go (m_pullD hK hH hi8 b2) ?_
        refine G_S (pc := 32) f_254_32 rfl rfl rfl ?_
        refine G_S (pc := 36) f_254_36 rfl rfl rfl ?_
        refine G_S (pc := 37) f_254_37 rfl rfl rfl ?_
        first | refine G_inc1 (pc := 38) f_254_38 rfl ?_ | refine G_S (pc := 38) f_254_38 rfl rfl rfl ?_
        refine G_S (pc := 41) f_254_41 rfl rfl rfl ?_
        have h18 : S.testBit i = true := (bit_at S hS i hi8).mp h18
        have e2 := ih (i + 1) (by omega)
        rw [show plS D b S (i + 1) = plS D b S i + pl (D (11 + i)) (b i) by rw [plS, sN, if_pos h18]; rfl, ← nI_add] at e2
        exact e2
theorem m_pullOf (hK : KM M.1 M.2.2.2) (hH : HA M l D) (hS : S < 256) (hb : ∀ r, r < D 2 → M.2.1 110 r = nI (b r) ∧ b r < 256) : CG C 254 [.ref 98, .int (nI S)] M (fun w M' => w = some (.int (nI (plS D b S (D 2)))) ∧ M' = M) := by
  refine CG_in (mL := 4) (hl := false) (lv := [some (.ref 98), some (.int (nI S)), none, none]) (ll := []) rfl rfl rfl ?_
  refine G_ic (v := 0) (pc := 0) f_254_0 rfl ?_
  refine G_S (pc := 1) f_254_1 rfl rfl rfl ?_
  refine G_ic (v := 0) (pc := 2) f_254_2 rfl ?_
  refine G_S (pc := 3) f_254_3 rfl rfl rfl ?_
  exact m_pullOf_loop hK hH hS hb (D 2) 0 (by omega)
end RP
