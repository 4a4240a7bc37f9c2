/-! frames, and what wears the riders -/
def Fo (os : List Nat) (M M' : Mm) : Prop := (M'.1 = M.1 ∧ M'.2.2.2 = M.2.2.2) ∧ ∀ i, i ∉ os → M'.2.1 i = M.2.1 i ∧ M'.2.2.1 i = M.2.2.1 i
theorem Fo.rf {os : List Nat} {M : Mm} : Fo os M M := ⟨⟨rfl, rfl⟩, fun _ _ => ⟨rfl, rfl⟩⟩
theorem Fo.tr {os : List Nat} {M M1 M2 : Mm} (h1 : Fo os M M1) (h2 : Fo os M1 M2) : Fo os M M2 := ⟨⟨h2.1.1.trans h1.1.1, h2.1.2.trans h1.1.2⟩, fun i hi => ⟨(h2.2 i hi).1.trans (h1.2 i hi).1, (h2.2 i hi).2.trans (h1.2 i hi).2⟩⟩
theorem Fo.sub {os os' : List Nat} {M M' : Mm} (h : Fo os M M') (hs : ∀ i, i ∈ os → i ∈ os') : Fo os' M M' := ⟨h.1, fun i hi => h.2 i (fun q => hi (hs i q))⟩
theorem Fo.up {os : List Nat} {M : Mm} {i k : Nat} {x : Int32} (hi : i ∈ os) : Fo os M (M.1, up2 M.2.1 i k x, M.2.2.1, M.2.2.2) := ⟨⟨rfl, rfl⟩, fun j hj => ⟨up2_ne (fun q => hj (q ▸ hi)), rfl⟩⟩
theorem Fo.K {os : List Nat} {M M' : Mm} (h : Fo os M M') (hK : KM M.1 M.2.2.2) : KM M'.1 M'.2.2.2 := by
  rw [h.1.1, h.1.2]
  exact hK
theorem HA.fo {os : List Nat} {M M' : Mm} {l : Nat} {D : Nat → Nat} (h : Fo os M M') (hH : HA M l D) (h1 : 98 ∉ os) (h2 : 104 ∉ os) : HA M' l D := by
  unfold HA
  rw [(h.2 98 h1).1, (h.2 104 h2).1]
  exact hH
theorem g_subI {a b : Nat} (ha : a < 2 ^ 30) (hb : b < 2 ^ 30) : (nI a - nI b).toInt = (a : Int) - b := by
  rw [Int32.toInt_sub, nI_toInt (by omega), nI_toInt (by omega)]
  exact Int.bmod_eq_of_le (by omega) (by omega)
theorem g_monus {a b : Nat} (ha : a < 2 ^ 30) (hb : b < 2 ^ 30) : (if (0 : Int32) ≤ nI a - nI b then nI a - nI b else 0) = nI (a - b) := by
  by_cases h : b ≤ a
  · rw [pk_sub h, if_pos (nI_pos' (by omega))]
  · rw [if_neg, show a - b = 0 by omega]
    · rfl
    · rw [Int32.le_iff_toInt_le, g_subI ha hb, Int32.toInt_zero]
      omega
/-- what a rider bears behind one more hill -/
def wn (D b : Nat → Nat) (S r : Nat) : Nat := if S.testBit r then b r - D (27 + D (11 + r)) else b r
section RW
variable {C : Ct} {M : Mm} {l S : Nat} {D b : Nat → Nat}
theorem m_wears_loop (hK : KM M.1 M.2.2.2) (hH : HA M l D) (hS : S < 256) (hb : ∀ r, r < D 2 → M.2.1 110 r = nI (b r) ∧ b r < 256) : ∀ (d i : Nat), i + d = D 2 → ∀ M1 : Mm, Fo [110] M M1 → (∀ r, r < i → M1.2.1 110 r = nI (wn D b S r)) → (∀ r, i ≤ r → M1.2.1 110 r = M.2.1 110 r) → G C 255 (2, [some (.ref 98), some (.int (nI S)), some (.int (nI i))], [], [], M1) (fun w M' => w = none ∧ Fo [110] M M' ∧ ∀ r, r < D 2 → M'.2.1 110 r = nI (wn D b S r)) := by
  have hnr : D 2 ≤ 8 := hH.2.2.1.2.2.1
  intro d
  induction d with
  | zero =>
    intro i hi M1 hF h1 h2
    have hi : i = D 2 := by omega
    subst hi
    have hK := hF.K hK
    have hH := hH.fo hF (by decide) (by decide)
    refine G_S (pc := 2) f_255_2 rfl rfl rfl ?_
    refine G_S (pc := 3) f_255_3 rfl rfl rfl ?_
    refine G_gI (pc := 4) f_255_4 (by decide) rfl (by decide) (by first | assumption | exact hK.1 _ _ rfl) ?_
    rw [hH.1.2.2.2]
    refine G_jge (pc := 7) f_255_7 rfl (fun h7 => ?_) (fun h7 => ?_)
    · exact G_rv (pc := 55) f_255_55 ⟨rfl, hF, h1⟩
    · exact absurd (nI_le (Nat.le_refl (D 2)) (by omega)) h7
  | succ d ih =>
    intro i hi M1 hF h1 h2
    have hi8 : i < 8 := by omega
    have e : (nI i).toNatClampNeg = i := nI_clamp (by omega)
    obtain ⟨b1, b2⟩ := hb i (by omega)
    have b3 : M1.2.1 110 i = nI (b i) := (h2 i (Nat.le_refl i)).trans b1
    have hK := hF.K hK
    have hH := hH.fo hF (by decide) (by decide)
    have hw : D (27 + D (11 + i)) ≤ 9 := hH.2.2.1.2.2.2.2.2.2.1 _ (by have := hH.2.2.1.2.2.2.2.1 i hi8; omega)
    have next : ∀ x : Int32, x = nI (wn D b S i) → G C 255 (2, [some (.ref 98), some (.int (nI S)), some (.int (nI (i + 1)))], [], [], (M1.1, up2 M1.2.1 110 i x, M1.2.2.1, M1.2.2.2)) (fun w M' => w = none ∧ Fo [110] M M' ∧ ∀ r, r < D 2 → M'.2.1 110 r = nI (wn D b S r)) := by
      intro x hx
      refine ih (i + 1) (by omega) _ (hF.tr (Fo.up (by decide))) (fun r hr => ?_) (fun r hr => ?_)
      · show up2 M1.2.1 110 i x 110 r = _
        rw [up2_at]
        by_cases hri : r = i
        · rw [if_pos hri, hx, hri]
        · rw [if_neg hri]
          exact h1 r (by omega)
      · show up2 M1.2.1 110 i x 110 r = _
        rw [up2_at, if_neg (by omega)]
        exact h2 r (by omega)
    refine G_S (pc := 2) f_255_2 rfl rfl rfl ?_
    refine G_S (pc := 3) f_255_3 rfl rfl rfl ?_
    refine G_gI (pc := 4) f_255_4 (by decide) rfl (by decide) (by first | assumption | exact hK.1 _ _ rfl) ?_
    rw [hH.1.2.2.2]
    refine G_jge (pc := 7) f_255_7 rfl (fun h7 => ?_) (fun h7 => ?_)
    · exact absurd h7 (nI_ge (by omega) (by omega))
    · refine G_S (pc := 10) f_255_10 rfl rfl rfl ?_
      refine G_gR (pc := 11) f_255_11 (by decide) rfl (by first | assumption | exact hK.1 _ _ rfl) (by first | assumption | exact hK.2 _ _ _ rfl) ?_
      refine G_S (pc := 14) f_255_14 rfl rfl rfl ?_
      refine G_S (pc := 15) f_255_15 rfl rfl rfl ?_
      refine G_S (pc := 16) f_255_16 rfl rfl rfl ?_
      refine G_CS (pc := 17) f_255_17 rfl rfl (by decide) rfl rfl ⟨Nat.le_of_ble_eq_true rfl, Nat.le_of_ble_eq_true rfl⟩ ?_
      refine CG.go (m_has) ?_
      first | refine G_bEq (pc := 20) f_255_20 rfl (fun h20 => ?_) (fun h20 => ?_) | refine G_zeq (pc := 20) f_255_20 rfl (fun h20 => ?_) (fun h20 => ?_)
      · have ht : ¬ S.testBit i = true := fun q => h20 ((bit_at S hS i hi8).mpr q)
        refine G_S (pc := 42) f_255_42 rfl rfl rfl ?_
        refine G_gR (pc := 43) f_255_43 (by decide) rfl (hK.1 _ _ rfl) (hK.2 _ _ _ rfl) ?_
        refine G_S (pc := 46) f_255_46 rfl rfl rfl ?_
        refine G_ia (pc := 47) f_255_47 (hK.1 _ _ rfl) (inn_nI hi8 (by decide)) ?_
        refine G_is (pc := 48) f_255_48 (hK.1 _ _ rfl) (inn_nI hi8 (by decide)) ?_
        refine G_inc1 (pc := 49) f_255_49 rfl ?_
        refine G_S (pc := 52) f_255_52 rfl rfl rfl ?_
        rw [e]
        exact next _ (by rw [b3, wn, if_neg ht])
      · refine G_ic (v := 0) (pc := 23) f_255_23 rfl ?_
        refine G_S (pc := 24) f_255_24 rfl rfl rfl ?_
        refine G_gR (pc := 25) f_255_25 (by decide) rfl (by first | assumption | exact hK.1 _ _ rfl) (by first | assumption | exact hK.2 _ _ _ rfl) ?_
        refine G_S (pc := 28) f_255_28 rfl rfl rfl ?_
        refine G_ia (pc := 29) f_255_29 (by first | assumption | exact hK.1 _ _ rfl) (by first | assumption | exact inn_nI (by omega) (by omega)) ?_
        rw [e, b3]
        refine G_S (pc := 30) f_255_30 rfl rfl rfl ?_
        refine G_S (pc := 31) f_255_31 rfl rfl rfl ?_
        refine G_CV (pc := 32) f_255_32 rfl rfl (by decide) rfl rfl (by first | assumption | exact hK.1 _ _ rfl) (by decide) ⟨Nat.le_of_ble_eq_true rfl, Nat.le_of_ble_eq_true rfl⟩ ?_
        refine CG.go (m_wearD hK hH hi8) ?_
        refine G_S (pc := 35) f_255_35 rfl rfl rfl ?_
        refine G_CS (pc := 36) f_255_36 rfl rfl (by decide) rfl rfl ⟨Nat.le_of_ble_eq_true rfl, Nat.le_of_ble_eq_true rfl⟩ ?_
        refine CG.go (m_greater) ?_
        refine G_S (pc := 39) f_255_39 rfl rfl rfl ?_
        have ht : S.testBit i = true := (bit_at S hS i hi8).mp h20
        refine G_is (pc := 48) f_255_48 (hK.1 _ _ rfl) (inn_nI hi8 (by decide)) ?_
        refine G_inc1 (pc := 49) f_255_49 rfl ?_
        refine G_S (pc := 52) f_255_52 rfl rfl rfl ?_
        rw [e]
        exact next _ (by rw [g_monus (by omega) (by omega), wn, if_pos ht])
/-- wears(set) -/
theorem m_wears (hK : KM M.1 M.2.2.2) (hH : HA M l D) (hS : S < 256) (hb : ∀ r, r < D 2 → M.2.1 110 r = nI (b r) ∧ b r < 256) : CG C 255 [.ref 98, .int (nI S)] M (fun w M' => w = none ∧ Fo [110] M M' ∧ ∀ r, r < D 2 → M'.2.1 110 r = nI (wn D b S r)) := by
  refine CG_in (mL := 3) (hl := false) (lv := [some (.ref 98), some (.int (nI S)), none]) (ll := []) rfl rfl rfl ?_
  refine G_ic (v := 0) (pc := 0) f_255_0 rfl ?_
  refine G_S (pc := 1) f_255_1 rfl rfl rfl ?_
  exact m_wears_loop hK hH hS hb (D 2) 0 (by omega) M Fo.rf (fun r hr => absurd hr (Nat.not_lt_zero r)) (fun _ _ => rfl)
end RW
