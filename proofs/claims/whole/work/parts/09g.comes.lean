/-! the reference: sets laid, how far they come -/
/-- the ounces of a rider with so many more, between 0 and 99 -/
def layN (D : Nat → Nat) (m : Int) (r : Nat) : Nat := (max 0 (min 99 ((D (19 + r) : Int) + m))).toNat
theorem layN_le (D : Nat → Nat) (m : Int) (r : Nat) : layN D m r ≤ 99 := by
  unfold layN
  omega
theorem lay_at {o : Nat} {x : Int32} (ho : o ≤ 60) (h1 : -100 ≤ x.toInt) (h2 : x.toInt ≤ 100) : (if (0 : Int32) ≤ (if nI o + x ≤ 99 then nI o + x else 99) then (if nI o + x ≤ 99 then nI o + x else 99) else 0) = nI (max 0 (min 99 ((o : Int) + x.toInt))).toNat := by
  have hs : (nI o + x).toInt = (o : Int) + x.toInt := by
    rw [Int32.toInt_add, nI_toInt (by omega)]
    exact Int.bmod_eq_of_le (by omega) (by omega)
  have h99 : (99 : Int32).toInt = 99 := by decide
  apply Int32.toInt_inj.mp
  rw [nI_toInt (by omega)]
  by_cases ha : nI o + x ≤ 99
  · rw [if_pos ha]
    have ha2 := Int32.le_iff_toInt_le.mp ha
    rw [hs, h99] at ha2
    by_cases hb : (0 : Int32) ≤ nI o + x
    · have hb2 := Int32.le_iff_toInt_le.mp hb
      rw [hs, Int32.toInt_zero] at hb2
      rw [if_pos hb, hs, Int.min_eq_right ha2, Int.max_eq_right hb2, Int.toNat_of_nonneg hb2]
    · have hb2 : ¬ (0 : Int) ≤ (o : Int) + x.toInt := by
        intro q
        apply hb
        rw [Int32.le_iff_toInt_le, hs, Int32.toInt_zero]
        exact q
      rw [if_neg hb, Int32.toInt_zero, Int.min_eq_right ha2, Int.max_eq_left (by omega)]
      rfl
  · have ha2 : ¬ (o : Int) + x.toInt ≤ 99 := by
      intro q
      apply ha
      rw [Int32.le_iff_toInt_le, hs, h99]
      exact q
    rw [if_neg ha, if_pos (by decide), h99, Int.min_eq_left (by omega)]
    rfl
/-- how far a set comes from a stop on, and what it bears then -/
def cmF (D : Nat → Nat) (S : Nat) : Nat → Nat → (Nat → Nat) → Nat × (Nat → Nat)
  | 0, k, b => (k, b)
  | f + 1, k, b => if D (3 + k) ≤ plS D b S (D 2) then cmF D S f (k + 1) (wn D b S) else (k, b)
theorem cmF_le (D : Nat → Nat) (S : Nat) : ∀ (f k : Nat) (b : Nat → Nat), k ≤ (cmF D S f k b).1 ∧ (cmF D S f k b).1 ≤ k + f ∧ ∀ r, (cmF D S f k b).2 r ≤ b r
  | 0, k, b => ⟨Nat.le_refl _, Nat.le_refl _, fun _ => Nat.le_refl _⟩
  | f + 1, k, b => by
    unfold cmF
    split
    · obtain ⟨h1, h2, h3⟩ := cmF_le D S f (k + 1) (wn D b S)
      refine ⟨by omega, by omega, fun r => Nat.le_trans (h3 r) ?_⟩
      unfold wn
      split <;> omega
    · exact ⟨Nat.le_refl _, by omega, fun _ => Nat.le_refl _⟩
/-- how many are in a set -/
def pc8 (S : Nat) : Nat := sN (fun r => if S.testBit r then 1 else 0) 8
theorem ones_at : ∀ S, S < 256 → sm (fun k => b2i (nI S >>> (nI k &&& 31) &&& 1 = 1)) 8 = nI (pc8 S) := by decide +kernel
theorem pc8_le : ∀ S, S < 256 → pc8 S ≤ 8 := by decide +kernel
theorem shl_at : ∀ n, n < 9 → (1 : Int32) <<< (nI n &&& 31) - 1 = nI (2 ^ n - 1) := by decide +kernel
section RC
variable {C : Ct} {M : Mm} {l S : Nat} {D b : Nat → Nat}
theorem m_laySet_loop {x : Int32} (hK : KM M.1 M.2.2.2) (hH : HA M l D) (hx1 : -100 ≤ x.toInt) (hx2 : x.toInt ≤ 100) : ∀ (d i : Nat), i + d = D 2 → ∀ M1 : Mm, Fo [110] M M1 → (∀ r, r < i → M1.2.1 110 r = nI (layN D x.toInt r)) → G C 253 (2, [some (.ref 98), some (.int x), some (.int (nI i))], [], [], M1) (fun w M' => w = none ∧ Fo [110] M M' ∧ ∀ r, r < D 2 → M'.2.1 110 r = nI (layN D x.toInt r)) := by
  have hnr : D 2 ≤ 8 := hH.2.2.1.2.2.1
  intro d
  induction d with
  | zero =>
    intro i hi M1 hF h1
    have hi : i = D 2 := by omega
    subst hi
    have hK := hF.K hK
    have hH := hH.fo hF (by decide) (by decide)
    refine G_S (pc := 2) f_253_2 rfl rfl rfl ?_
    refine G_S (pc := 3) f_253_3 rfl rfl rfl ?_
    refine G_gI (pc := 4) f_253_4 (by decide) rfl (by decide) (by first | assumption | exact hK.1 _ _ rfl) ?_
    rw [hH.1.2.2.2]
    refine G_jge (pc := 7) f_253_7 rfl (fun h7 => ?_) (fun h7 => ?_)
    · exact G_rv (pc := 41) f_253_41 ⟨rfl, hF, h1⟩
    · exact absurd (nI_le (Nat.le_refl (D 2)) (by omega)) h7
  | succ d ih =>
    intro i hi M1 hF h1
    have hi8 : i < 8 := by omega
    have e : (nI i).toNatClampNeg = i := nI_clamp (by omega)
    have hK := hF.K hK
    have hH := hH.fo hF (by decide) (by decide)
    have ho : D (19 + i) ≤ 60 := hH.2.2.1.2.2.2.2.2.1 i hi8
    have e2 : (19 : Int32) + nI i = nI (19 + i) := nI_add 19 i
    refine G_S (pc := 2) f_253_2 rfl rfl rfl ?_
    refine G_S (pc := 3) f_253_3 rfl rfl rfl ?_
    refine G_gI (pc := 4) f_253_4 (by decide) rfl (by decide) (by first | assumption | exact hK.1 _ _ rfl) ?_
    rw [hH.1.2.2.2]
    refine G_jge (pc := 7) f_253_7 rfl (fun h7 => ?_) (fun h7 => ?_)
    · exact absurd h7 (nI_ge (by omega) (by omega))
    · refine G_S (pc := 10) f_253_10 rfl rfl rfl ?_
      refine G_gR (pc := 11) f_253_11 (by decide) rfl (by first | assumption | exact hK.1 _ _ rfl) (by first | assumption | exact hK.2 _ _ _ rfl) ?_
      refine G_S (pc := 14) f_253_14 rfl rfl rfl ?_
      refine G_ic (v := 0) (pc := 15) f_253_15 rfl ?_
      refine G_bi (v := 99) (pc := 16) f_253_16 (by decide) ?_
      refine G_S (pc := 18) f_253_18 rfl rfl rfl ?_
      refine G_bi (v := 19) (pc := 19) f_253_19 (by decide) ?_
      refine G_S (pc := 21) f_253_21 rfl rfl rfl ?_
      refine G_S (pc := 22) f_253_22 rfl rfl rfl ?_
      rw [e2]
      refine G_CV (pc := 23) f_253_23 rfl rfl (by decide) rfl rfl (by first | assumption | exact hK.1 _ _ rfl) (by decide) ⟨Nat.le_of_ble_eq_true rfl, Nat.le_of_ble_eq_true rfl⟩ ?_
      refine CG.go (m_ofD hK hH (by omega)) ?_
      refine G_S (pc := 26) f_253_26 rfl rfl rfl ?_
      refine G_S (pc := 27) f_253_27 rfl rfl rfl ?_
      refine G_CS (pc := 28) f_253_28 rfl rfl (by decide) rfl rfl ⟨Nat.le_of_ble_eq_true rfl, Nat.le_of_ble_eq_true rfl⟩ ?_
      refine CG.go (m_lesser) ?_
      refine G_CS (pc := 31) f_253_31 rfl rfl (by decide) rfl rfl ⟨Nat.le_of_ble_eq_true rfl, Nat.le_of_ble_eq_true rfl⟩ ?_
      refine CG.go (m_greater) ?_
      refine G_is (pc := 34) f_253_34 (by first | assumption | exact hK.1 _ _ rfl) (by first | assumption | exact inn_nI (by omega) (by omega)) ?_
      first | refine G_inc1 (pc := 35) f_253_35 rfl ?_ | refine G_S (pc := 35) f_253_35 rfl rfl rfl ?_
      refine G_S (pc := 38) f_253_38 rfl rfl rfl ?_
      rw [e]
      refine ih (i + 1) (by omega) _ (hF.tr (Fo.up (by decide))) (fun r hr => ?_)
      show up2 M1.2.1 110 i _ 110 r = nI (layN D x.toInt r)
      rw [up2_at]
      by_cases hri : r = i
      · rw [if_pos hri, lay_at ho hx1 hx2, hri]
        rfl
      · rw [if_neg hri]
        exact h1 r (by omega)
/-- laySet(more) -/
theorem m_laySet {x : Int32} (hK : KM M.1 M.2.2.2) (hH : HA M l D) (hx1 : -100 ≤ x.toInt) (hx2 : x.toInt ≤ 100) : CG C 253 [.ref 98, .int x] M (fun w M' => w = none ∧ Fo [110] M M' ∧ ∀ r, r < D 2 → M'.2.1 110 r = nI (layN D x.toInt r)) := by
  refine CG_in (mL := 3) (hl := false) (lv := [some (.ref 98), some (.int x), none]) (ll := []) rfl rfl rfl ?_
  refine G_ic (v := 0) (pc := 0) f_253_0 rfl ?_
  refine G_S (pc := 1) f_253_1 rfl rfl rfl ?_
  exact m_laySet_loop hK hH hx1 hx2 (D 2) 0 (by omega) M Fo.rf (fun r hr => absurd hr (Nat.not_lt_zero r))
theorem plS_le (D : Nat → Nat) {b : Nat → Nat} {S n : Nat} (hb : ∀ r, r < n → b r < 256) : plS D b S n ≤ n * 512 := by
  refine sN_le n (fun i hi => ?_)
  have h1 := hb i hi
  have h2 := pl_le (D (11 + i)) (b i)
  split <;> omega
theorem m_comes_loop (hS : S < 256) {f0 : Int32} (hnh : D 0 ≤ 8) : ∀ (d k : Nat), k + d = D 0 → ∀ (M : Mm) (b : Nat → Nat), KM M.1 M.2.2.2 → HA M l D → (∀ r, r < D 2 → M.2.1 110 r = nI (b r) ∧ b r < 256) → G C 256 (2, [some (.ref 98), some (.int (nI S)), some (.int f0), some (.int (nI k))], [], [], M) (fun w M' => w = some (.int (nI (cmF D S d k b).1)) ∧ Fo [110] M M' ∧ ∀ r, r < D 2 → M'.2.1 110 r = nI ((cmF D S d k b).2 r)) := by
  intro d
  induction d with
  | zero =>
    intro k hk M b hK hH hb
    have hk : k = D 0 := by omega
    subst hk
    refine G_S (pc := 2) f_256_2 rfl rfl rfl ?_
    refine G_S (pc := 3) f_256_3 rfl rfl rfl ?_
    refine G_gI (pc := 4) f_256_4 (by decide) rfl (by decide) (by first | assumption | exact hK.1 _ _ rfl) ?_
    rw [hH.1.2.1]
    refine G_jge (pc := 7) f_256_7 rfl (fun h7 => ?_) (fun h7 => ?_)
    · refine G_S (pc := 36) f_256_36 rfl rfl rfl ?_
      exact G_ri (pc := 37) f_256_37 ⟨rfl, Fo.rf, fun r hr => (hb r hr).1⟩
    · exact absurd (nI_le (Nat.le_refl (D 0)) (by omega)) h7
  | succ d ih =>
    intro k hk M b hK hH hb
    have e2 : (3 : Int32) + nI k = nI (3 + k) := nI_add 3 k
    have hnr : D 2 ≤ 8 := hH.2.2.1.2.2.1
    have hp := plS_le D (S := S) (n := D 2) (fun r hr => (hb r hr).2)
    have hh : D (3 + k) ≤ 99 := hH.2.2.1.2.2.2.1 k (by omega)
    have hp2 : plS D b S (D 2) < 2 ^ 31 := by omega
    refine G_S (pc := 2) f_256_2 rfl rfl rfl ?_
    refine G_S (pc := 3) f_256_3 rfl rfl rfl ?_
    refine G_gI (pc := 4) f_256_4 (by decide) rfl (by decide) (by first | assumption | exact hK.1 _ _ rfl) ?_
    rw [hH.1.2.1]
    refine G_jge (pc := 7) f_256_7 rfl (fun h7 => ?_) (fun h7 => ?_)
    · first
        | exact absurd h7 (nI_ge (by omega) (by omega))
        | exact G_S (pc := 36) f_256_36 rfl rfl rfl (G_ri (pc := 37) f_256_37 (by rw [cmF, if_neg (fun q => absurd h22 (nI_nlt q hp2))]; exact ⟨rfl, Fo.rf, fun r hr => (hb r hr).1⟩))
    · refine G_S (pc := 10) f_256_10 rfl rfl rfl ?_
      refine G_S (pc := 11) f_256_11 rfl rfl rfl ?_
      refine G_CV (pc := 12) f_256_12 rfl rfl (by decide) rfl rfl (by first | assumption | exact hK.1 _ _ rfl) (by decide) ⟨Nat.le_of_ble_eq_true rfl, Nat.le_of_ble_eq_true rfl⟩ ?_
      refine CG.go (m_pullOf hK hH hS hb) ?_
      refine G_S (pc := 15) f_256_15 rfl rfl rfl ?_
      refine G_ic (v := 3) (pc := 16) f_256_16 rfl ?_
      refine G_S (pc := 17) f_256_17 rfl rfl rfl ?_
      refine G_S (pc := 18) f_256_18 rfl rfl rfl ?_
      rw [e2]
      refine G_CV (pc := 19) f_256_19 rfl rfl (by decide) rfl rfl (by first | assumption | exact hK.1 _ _ rfl) (by decide) ⟨Nat.le_of_ble_eq_true rfl, Nat.le_of_ble_eq_true rfl⟩ ?_
      refine CG.go (m_ofD hK hH (by omega)) ?_
      refine G_jlt (pc := 22) f_256_22 rfl (fun h22 => ?_) (fun h22 => ?_)
      · first
          | exact absurd h7 (nI_ge (by omega) (by omega))
          | exact G_S (pc := 36) f_256_36 rfl rfl rfl (G_ri (pc := 37) f_256_37 (by rw [cmF, if_neg (fun q => absurd h22 (nI_nlt q hp2))]; exact ⟨rfl, Fo.rf, fun r hr => (hb r hr).1⟩))
      · refine G_S (pc := 25) f_256_25 rfl rfl rfl ?_
        refine G_S (pc := 26) f_256_26 rfl rfl rfl ?_
        refine G_CV (pc := 27) f_256_27 rfl rfl (by decide) rfl rfl (by first | assumption | exact hK.1 _ _ rfl) (by decide) ⟨Nat.le_of_ble_eq_true rfl, Nat.le_of_ble_eq_true rfl⟩ ?_
        refine CG.mono (m_wears hK hH hS hb) ?_
        rintro _ M27 ⟨rfl, hF, hw⟩
        first | refine G_inc1 (pc := 30) f_256_30 rfl ?_ | refine G_S (pc := 30) f_256_30 rfl rfl rfl ?_
        refine G_S (pc := 33) f_256_33 rfl rfl rfl ?_
        have hy : D (3 + k) ≤ plS D b S (D 2) := by
          rcases Nat.lt_or_ge (plS D b S (D 2)) (D (3 + k)) with q | q
          · exact absurd (nI_lt q (by omega)) h22
          · exact q
        refine G.mono (ih (k + 1) (by omega) _ (wn D b S) (hF.K hK) (hH.fo hF (by decide) (by decide)) (fun r hr => ⟨hw r hr, ?_⟩)) ?_
        · have := (hb r hr).2
          unfold wn
          split <;> omega
        · rintro w M2 ⟨h1, h2, h3⟩
          rw [cmF, if_pos hy]
          exact ⟨h1, hF.tr h2, h3⟩
/-- comesFrom(set, from) -/
theorem m_comes {k : Nat} (hK : KM M.1 M.2.2.2) (hH : HA M l D) (hS : S < 256) (hb : ∀ r, r < D 2 → M.2.1 110 r = nI (b r) ∧ b r < 256) (hk : k ≤ D 0) : CG C 256 [.ref 98, .int (nI S), .int (nI k)] M (fun w M' => w = some (.int (nI (cmF D S (D 0 - k) k b).1)) ∧ Fo [110] M M' ∧ ∀ r, r < D 2 → M'.2.1 110 r = nI ((cmF D S (D 0 - k) k b).2 r)) := by
  refine CG_in (mL := 4) (hl := false) (lv := [some (.ref 98), some (.int (nI S)), some (.int (nI k)), none]) (ll := []) rfl rfl rfl ?_
  refine G_S (pc := 0) f_256_0 rfl rfl rfl ?_
  refine G_S (pc := 1) f_256_1 rfl rfl rfl ?_
  exact m_comes_loop hS hH.2.2.1.1 (D 0 - k) k (by omega) M b hK hH hb
/-- isSeated(set) -/
theorem m_isSeated (hK : KM M.1 M.2.2.2) (hH : HA M l D) (hS : S < 256) : CG C 252 [.ref 98, .int (nI S)] M (fun w M' => w = some (.int (b2i (pc8 S ≤ D 1))) ∧ M' = M) := by
  refine CG_in (mL := 2) (hl := false) (lv := [some (.ref 98), some (.int (nI S))]) (ll := []) rfl rfl rfl ?_
  have hp := pc8_le S hS
  have hs : D 1 ≤ 6 := hH.2.2.1.2.1.2
  refine G_S (pc := 0) f_252_0 rfl rfl rfl ?_
  refine G_CS (pc := 1) f_252_1 rfl rfl (by decide) rfl rfl ⟨Nat.le_of_ble_eq_true rfl, Nat.le_of_ble_eq_true rfl⟩ ?_
  refine CG.go (m_ones) ?_
  refine G_S (pc := 4) f_252_4 rfl rfl rfl ?_
  refine G_gI (pc := 5) f_252_5 (by decide) rfl (by decide) (by first | assumption | exact hK.1 _ _ rfl) ?_
  rw [ones_at S hS, hH.1.2.2.1]
  refine G_jgt (pc := 8) f_252_8 rfl (fun h8 => ?_) (fun h8 => ?_)
  · have hn : ¬ pc8 S ≤ D 1 := fun q => absurd h8 (nI_nlt q (by omega))
    refine G_ic (v := 0) (pc := 15) f_252_15 rfl ?_
    exact G_rz (pc := 16) f_252_16 (Or.inl rfl) ⟨by rw [b2i_neg hn], rfl⟩
  · refine G_ic (v := 1) (pc := 11) f_252_11 rfl ?_
    refine G_S (pc := 12) f_252_12 rfl rfl rfl ?_
    exact G_rz (pc := 16) f_252_16 (by first | exact Or.inl rfl | exact Or.inr rfl | exact b2i_01 _) ⟨by rw [b2i_pos (show pc8 S ≤ D 1 from by rcases Nat.lt_or_ge (D 1) (pc8 S) with q | q; exact absurd (nI_lt q (by omega)) h8; exact q)], rfl⟩
/-- isSet(set) -/
theorem m_isSet {x : Int32} (hK : KM M.1 M.2.2.2) (hH : HA M l D) : CG C 251 [.ref 98, .int x] M (fun w M' => w = some (.int (b2i (0 ≤ x ∧ x ≤ nI (2 ^ D 2 - 1)))) ∧ M' = M) := by
  refine CG_in (mL := 2) (hl := false) (lv := [some (.ref 98), some (.int x)]) (ll := []) rfl rfl rfl ?_
  have hnr : D 2 ≤ 8 := hH.2.2.1.2.2.1
  refine G_S (pc := 0) f_251_0 rfl rfl rfl ?_
  refine G_ic (v := 0) (pc := 1) f_251_1 rfl ?_
  refine G_ic (v := 1) (pc := 2) f_251_2 rfl ?_
  refine G_S (pc := 3) f_251_3 rfl rfl rfl ?_
  refine G_gI (pc := 4) f_251_4 (by decide) rfl (by decide) (by first | assumption | exact hK.1 _ _ rfl) ?_
  refine G_S (pc := 7) f_251_7 rfl rfl rfl ?_
  refine G_ic (v := 1) (pc := 8) f_251_8 rfl ?_
  refine G_S (pc := 9) f_251_9 rfl rfl rfl ?_
  rw [hH.1.2.2.2, shl_at _ (by omega)]
  refine G_CS (pc := 10) f_251_10 rfl rfl (by decide) rfl rfl ⟨Nat.le_of_ble_eq_true rfl, Nat.le_of_ble_eq_true rfl⟩ ?_
  refine CG.go (m_in) ?_
  exact G_rz (pc := 13) f_251_13 (by first | exact Or.inl rfl | exact Or.inr rfl | exact b2i_01 _) ⟨rfl, rfl⟩
end RC
