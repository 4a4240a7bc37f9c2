/-! numbers put on the tape -/
def byF (x : Int32) (j : Nat) : Int := (x >>> (zI (24 - 8 * (j : Int)) &&& 31)).toInt8.toInt
theorem byF_b (x : Int32) (j : Nat) : -128 ≤ byF x j ∧ byF x j < 128 := by
  unfold byF
  have h1 := Int8.le_toInt ((x >>> (zI (24 - 8 * (j : Int)) &&& 31)).toInt8)
  have h2 := Int8.toInt_lt ((x >>> (zI (24 - 8 * (j : Int)) &&& 31)).toInt8)
  exact ⟨h1, h2⟩
theorem byF_z (x : Int32) (j : Nat) : (x >>> (zI (24 - 8 * (j : Int)) &&& 31)).toInt8.toInt32 = zI (byF x j) := by
  apply Int32.toInt_inj.mp
  have h := byF_b x j
  rw [zI_toInt (by omega) (by omega), Int8.toInt_toInt32]
  rfl
section CFD
variable {C : Ct} {M : Mm} {n : Nat} {x : Int32}
def PNq (n : Nat) (x : Int32) (M : Mm) (i : Nat) (X : Nat → Nat → Int32) : Prop := (∀ i, i ≠ 1 → i ≠ 2 → X i = M.2.1 i) ∧ X 1 1 = nI (n + i) ∧ (∀ k, k ≠ 1 → X 1 k = M.2.1 1 k) ∧ (∀ j, j < i → X 2 (n + j) = zI (byF x j)) ∧ ∀ j, j < n → X 2 j = M.2.1 2 j
theorem c_putNumber (hK : KM M.1 M.2.2.2) (h1 : M.2.1 1 1 = nI n) (hn : n + 4 ≤ 600) : CG C 101 [.ref 1, .int x] M (fun w M' => w = none ∧ ∃ X, M' = (M.1, X, M.2.2.1, M.2.2.2) ∧ PNq n x M 4 X) := by
  have loop : ∀ i, i ≤ 4 → ∀ X, PNq n x M i X → G C 101 (3, [some (.ref 1), some (.int x), some (.int ((zI (24 - 8 * (i : Int)))))], [], [], (M.1, X, M.2.2.1, M.2.2.2)) (fun w M' => w = none ∧ ∃ X, M' = (M.1, X, M.2.2.1, M.2.2.2) ∧ PNq n x M 4 X) := by
    refine upto (fun i hi ih X hX => ?_)
    have hl := hX.2.1
    have ez : (zI (24 - 8 * (i : Int))).toInt = 24 - 8 * (i : Int) := zI_toInt (by omega) (by omega)
    by_cases h4 : i < 4
    · refine G_S (pc := 3) f_101_3 rfl rfl rfl ?_
      refine G_zltZ (pc := 4) f_101_4 rfl (by first | exact nI_toInt (by omega) | exact zI_toInt (by omega) (by omega) | rfl) (fun b1 => ?_) (fun b1 => ?_)
      · exfalso; omega
      · refine G_S (pc := 7) f_101_7 rfl rfl rfl ?_
        refine G_gIv (pc := 8) f_101_8 (by decide) rfl (by decide) (by first | assumption | exact hK.1 _ _ rfl) (hl) ?_
        refine G_si (v := nI 600) (pc := 11) f_101_11 (by decide) ?_
        refine G_jgeZ (pc := 14) f_101_14 rfl (by first | exact nI_toInt (by omega) | exact zI_toInt (by omega) (by omega) | rfl) (by first | exact nI_toInt (by omega) | exact zI_toInt (by omega) (by omega) | rfl) (fun b2 => ?_) (fun b2 => ?_)
        · exfalso; omega
        · refine G_S (pc := 17) f_101_17 rfl rfl rfl ?_
          refine G_gR (pc := 18) f_101_18 (by decide) rfl (by first | assumption | exact hK.1 _ _ rfl) (by first | assumption | exact hK.2 _ _ _ rfl | (try dsimp only) <;> (repeat (first | exact up2_s | refine up2_o (by first | decide | omega) ?_)) <;> first | assumption | exact hK.2 _ _ _ rfl) ?_
          refine G_S (pc := 21) f_101_21 rfl rfl rfl ?_
          refine G_gIv (pc := 22) f_101_22 (by decide) rfl (by decide) (by first | assumption | exact hK.1 _ _ rfl) (hl) ?_
          refine G_S (pc := 25) f_101_25 rfl rfl rfl ?_
          refine G_S (pc := 26) f_101_26 rfl rfl rfl ?_
          refine G_S (pc := 27) f_101_27 rfl rfl rfl ?_
          refine G_S (pc := 28) f_101_28 rfl rfl rfl ?_
          refine G_bsN (pc := 29) f_101_29 (by first | assumption | exact hK.1 _ _ rfl) (by omega) (by omega) ?_
          refine G_S (pc := 30) f_101_30 rfl rfl rfl ?_
          refine G_S (pc := 31) f_101_31 rfl rfl rfl ?_
          refine G_gIv (pc := 32) f_101_32 (by decide) rfl (by decide) (by first | assumption | exact hK.1 _ _ rfl) ((mI_o (by omega) hl)) ?_
          refine G_ic (v := nI 1) (pc := 35) f_101_35 (by decide) ?_
          first | refine G_addN (pc := 36) f_101_36 ?_ | refine G_addZ (pc := 36) f_101_36 (by first | rfl | exact nI_zI _) (by first | rfl | exact nI_zI _) ?_ | refine G_S (pc := 36) f_101_36 rfl rfl rfl ?_
          refine G_pI (pc := 37) f_101_37 rfl (by first | assumption | exact hK.1 _ _ rfl) ?_
          first | refine G_incN (pc := 40) f_101_40 rfl (by decide) ?_ | refine G_incZ (pc := 40) f_101_40 rfl (by first | rfl | exact nI_zI _) ?_ | refine G_S (pc := 40) f_101_40 rfl rfl rfl ?_
          refine G_S (pc := 43) f_101_43 rfl rfl rfl ?_
          trace_state
          sorry
    · refine G_S (pc := 3) f_101_3 rfl rfl rfl ?_
      refine G_zltZ (pc := 4) f_101_4 rfl (by first | exact nI_toInt (by omega) | exact zI_toInt (by omega) (by omega) | rfl) (fun b1 => ?_) (fun b1 => ?_)
      · refine G_rv (pc := 46) f_101_46 ?_
        rw [show i = 4 by omega] at hX
        exact ⟨rfl, X, rfl, hX⟩
      · exfalso; omega
  refine CG_in (mL := 3) (hl := false) (lv := [some (.ref 1), some (.int x), none]) (ll := []) rfl rfl rfl ?_
  refine G_bi (v := nI 24) (pc := 0) f_101_0 (by decide) ?_
  refine G_S (pc := 2) f_101_2 rfl rfl rfl ?_
  exact loop 0 (Nat.zero_le _) _ ⟨fun _ _ _ => rfl, h1, fun _ _ => rfl, fun j hj => absurd hj (Nat.not_lt_zero j), fun _ _ => rfl⟩
end CFD
