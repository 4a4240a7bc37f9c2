/-! the reference reads: kinds, fullness, what is kept -/
def TDm (M : Mm) (E : Nat → Int) : Prop := ∀ j, j < 121 → M.2.1 108 j = zI (E j)
theorem TDm.fp {M M' : Mm} {E : Nat → Int} {os fs : List Nat} (h : TDm M E) (hF : Fp 98 os fs M M') (ho : 108 ∉ os) : TDm M' E := by
  unfold TDm
  rw [(hF.2.1 108 (by decide) ho).1]
  exact h
theorem TDm.up {M : Mm} {E : Nat → Int} {i : Nat} {v : Int} (h : TDm M E) : TDm (M.1, up2 M.2.1 108 i (zI v), M.2.2.1, M.2.2.2) (up1 E i v) := by
  intro j hj
  by_cases q : j = i
  · subst q
    rw [up1_s]
    exact (by (try dsimp only); exact up2_s)
  · rw [up1_o q rfl]
    exact (by (try dsimp only); exact up2_o (by omega) (h j hj))
theorem kw_k : nL (wk 18) = 1819243379 ∧ nL (wk 19) = 1819244133 ∧ nL (wk 20) = 495672454501 ∧ nL (wk 21) = 439721161573 := by decide +kernel
section MKD
variable {C : Ct} {M : Mm} {t : Nat → Int} {n p q : Nat} {f : Nat × Nat} {gd : Bool} {E : Nat → Int}
theorem m_kindN {k : Nat} (W : MTp M t n) (T : MTk M t n p) (hp : p ≤ n) (hk : kdH t n p = none) : CG C 205 [.ref 98, .int (nI k)] M (fun w M' => w = some (.int (b2i (False))) ∧ Fw [] [16] M M' ∧ M'.2.1 98 16 = nI (skp t n p)) := by
  have hK := W.1
  have t13 := T.2.2.1
  have t12 := T.2.1
  have hk4 := mk_3 (tkK_le t n p)
  have t15 := T.2.2.2.2
  have hne : ∀ i, i < 4 → ¬ wvF t n p = nL (wk (18 + i)) := fun i hi z => leastF_none 4 0 hk i (Nat.zero_le _) (by omega) ((wv_iff hp (by omega)).mp z)
  obtain ⟨k0, k1, k2, k3⟩ := kw_k
  have n0 := hne 0 (by decide)
  have n1 := hne 1 (by decide)
  have n2 := hne 2 (by decide)
  have n3 := hne 3 (by decide)
  rw [k0] at n0
  rw [k1] at n1
  rw [k2] at n2
  rw [k3] at n3
  have tf := m_fails (C := C) hK t12
  by_cases h1 : tkK t n p = 1
  · refine CG_in (mL := 5) (hl := true) (lv := [some (.ref 98), some (.int (nI k)), none, none, none]) (ll := [none, none, none, none, none]) rfl rfl rfl ?_
    refine G_S (pc := 0) f_205_0 rfl rfl rfl ?_
    refine G_gIv (pc := 1) f_205_1 (by decide) rfl (by decide) (by first | assumption | exact hK.1 _ _ rfl) (by first | assumption | exact mI_s | ((refine mI_o (by first | decide | omega) ?_); (repeat (refine mI_o (by first | decide | omega) ?_)); first | exact mI_s | assumption) | rfl) ?_
    refine G_ic (v := nI 2) (pc := 4) f_205_4 (by decide) ?_
    refine G_jneZ (pc := 5) f_205_5 rfl (by first | exact nI_toInt (by omega) | exact zI_toInt (by omega) (by omega) | rfl) (by first | exact nI_toInt (by omega) | exact zI_toInt (by omega) (by omega) | rfl) (fun b1 => ?_) (fun b1 => ?_)
    · exfalso; omega
    · refine G_S (pc := 8) f_205_8 rfl rfl rfl ?_
      refine G_gLv (pc := 9) f_205_9 (by decide) rfl (by first | assumption | exact hK.1 _ _ rfl) (t15) ?_
      refine G_S (pc := 12) f_205_12 rfl rfl rfl ?_
      refine G_S (pc := 16) f_205_16 rfl rfl rfl ?_
      refine G_S (pc := 17) f_205_17 rfl rfl rfl ?_
      refine G_S (pc := 18) f_205_18 rfl rfl rfl ?_
      refine G_S (pc := 21) f_205_21 rfl rfl rfl ?_
      refine G_zne (pc := 22) f_205_22 rfl (fun b2 => ?_) (fun b2 => ?_)
      · refine G_S (pc := 29) f_205_29 rfl rfl rfl ?_
        refine G_S (pc := 30) f_205_30 rfl rfl rfl ?_
        refine G_S (pc := 33) f_205_33 rfl rfl rfl ?_
        refine G_zne (pc := 34) f_205_34 rfl (fun b3 => ?_) (fun b3 => ?_)
        · refine G_S (pc := 41) f_205_41 rfl rfl rfl ?_
          refine G_S (pc := 42) f_205_42 rfl rfl rfl ?_
          refine G_S (pc := 45) f_205_45 rfl rfl rfl ?_
          refine G_zne (pc := 46) f_205_46 rfl (fun b4 => ?_) (fun b4 => ?_)
          · refine G_S (pc := 53) f_205_53 rfl rfl rfl ?_
            refine G_S (pc := 54) f_205_54 rfl rfl rfl ?_
            refine G_S (pc := 57) f_205_57 rfl rfl rfl ?_
            refine G_zne (pc := 58) f_205_58 rfl (fun b5 => ?_) (fun b5 => ?_)
            · refine G_ic (v := zI (-1)) (pc := 65) f_205_65 (by decide) ?_
              refine G_S (pc := 66) f_205_66 rfl rfl rfl ?_
              refine G_S (pc := 68) f_205_68 rfl rfl rfl ?_
              refine G_ic (v := zI (-1)) (pc := 70) f_205_70 (by decide) ?_
              refine G_S (pc := 71) f_205_71 rfl rfl rfl ?_
              refine G_S (pc := 74) f_205_74 rfl rfl rfl ?_
              refine G_CV (pc := 75) f_205_75 rfl rfl (by decide) rfl rfl (by first | assumption | exact hK.1 _ _ rfl) (by decide) ⟨Nat.le_of_ble_eq_true rfl, Nat.le_of_ble_eq_true rfl⟩ ?_
              refine CG.mono (tf) ?_
              rintro _ M2 ⟨rfl, hF, h16⟩
              refine G_rz (pc := 78) f_205_78 (by exact Or.inl rfl) ?_
              exact ⟨rfl, hF, h16⟩
            · exact absurd (lc_eq.mp b5) n3
          · exact absurd (lc_eq.mp b4) n2
        · exact absurd (lc_eq.mp b3) n1
      · exact absurd (lc_eq.mp b2) n0
  · have hw : wvF t n p = Int64.ofNat 0 := if_neg (fun z => h1 z.1)
    rw [hw] at n0 n1 n2 n3
    refine CG_in (mL := 5) (hl := true) (lv := [some (.ref 98), some (.int (nI k)), none, none, none]) (ll := [none, none, none, none, none]) rfl rfl rfl ?_
    refine G_S (pc := 0) f_205_0 rfl rfl rfl ?_
    refine G_gIv (pc := 1) f_205_1 (by decide) rfl (by decide) (by first | assumption | exact hK.1 _ _ rfl) (by first | assumption | exact mI_s | ((refine mI_o (by first | decide | omega) ?_); (repeat (refine mI_o (by first | decide | omega) ?_)); first | exact mI_s | assumption) | rfl) ?_
    refine G_ic (v := nI 2) (pc := 4) f_205_4 (by decide) ?_
    refine G_jneZ (pc := 5) f_205_5 rfl (by first | exact nI_toInt (by omega) | exact zI_toInt (by omega) (by omega) | rfl) (by first | exact nI_toInt (by omega) | exact zI_toInt (by omega) (by omega) | rfl) (fun b1 => ?_) (fun b1 => ?_)
    · refine G_S (pc := 15) f_205_15 rfl rfl rfl ?_
      refine G_S (pc := 16) f_205_16 rfl rfl rfl ?_
      refine G_S (pc := 17) f_205_17 rfl rfl rfl ?_
      refine G_S (pc := 18) f_205_18 rfl rfl rfl ?_
      refine G_S (pc := 21) f_205_21 rfl rfl rfl ?_
      refine G_zne (pc := 22) f_205_22 rfl (fun b2 => ?_) (fun b2 => ?_)
      · refine G_S (pc := 29) f_205_29 rfl rfl rfl ?_
        refine G_S (pc := 30) f_205_30 rfl rfl rfl ?_
        refine G_S (pc := 33) f_205_33 rfl rfl rfl ?_
        refine G_zne (pc := 34) f_205_34 rfl (fun b3 => ?_) (fun b3 => ?_)
        · refine G_S (pc := 41) f_205_41 rfl rfl rfl ?_
          refine G_S (pc := 42) f_205_42 rfl rfl rfl ?_
          refine G_S (pc := 45) f_205_45 rfl rfl rfl ?_
          refine G_zne (pc := 46) f_205_46 rfl (fun b4 => ?_) (fun b4 => ?_)
          · refine G_S (pc := 53) f_205_53 rfl rfl rfl ?_
            refine G_S (pc := 54) f_205_54 rfl rfl rfl ?_
            refine G_S (pc := 57) f_205_57 rfl rfl rfl ?_
            refine G_zne (pc := 58) f_205_58 rfl (fun b5 => ?_) (fun b5 => ?_)
            · refine G_ic (v := zI (-1)) (pc := 65) f_205_65 (by decide) ?_
              refine G_S (pc := 66) f_205_66 rfl rfl rfl ?_
              refine G_S (pc := 68) f_205_68 rfl rfl rfl ?_
              refine G_ic (v := zI (-1)) (pc := 70) f_205_70 (by decide) ?_
              refine G_S (pc := 71) f_205_71 rfl rfl rfl ?_
              refine G_S (pc := 74) f_205_74 rfl rfl rfl ?_
              refine G_CV (pc := 75) f_205_75 rfl rfl (by decide) rfl rfl (by first | assumption | exact hK.1 _ _ rfl) (by decide) ⟨Nat.le_of_ble_eq_true rfl, Nat.le_of_ble_eq_true rfl⟩ ?_
              refine CG.mono (tf) ?_
              rintro _ M2 ⟨rfl, hF, h16⟩
              refine G_rz (pc := 78) f_205_78 (by exact Or.inl rfl) ?_
              exact ⟨rfl, hF, h16⟩
            · exact absurd (lc_eq.mp b5) n3
          · exact absurd (lc_eq.mp b4) n2
        · exact absurd (lc_eq.mp b3) n1
      · exact absurd (lc_eq.mp b2) n0
    · exfalso; omega
theorem m_kindS {k kd : Nat} (W : MTp M t n) (T : MTk M t n p) (hp : p ≤ n) (hk : kdH t n p = some kd) (hk3 : k < 3) : CG C 205 [.ref 98, .int (nI k)] M (fun w M' => w = some (.int (b2i (True))) ∧ Fp 98 [109] TMs M M' ∧ MTk M' t n (tkR t n p) ∧ M'.2.1 109 k = nI kd ∧ ∀ j, j ≠ k → M'.2.1 109 j = M.2.1 109 j) := by
  have hK := W.1
  have t13 := T.2.2.1
  have hk4 := mk_3 (tkK_le t n p)
  have t15 := T.2.2.2.2
  have hl := leastF_lt _ _ _ hk
  have h1 := wd_k hl.2.2
  have hx := tk_nx hp (show tkK t n p ≠ 0 by omega)
  have hw := (wv_iff hp (show 18 + kd < 22 by omega)).mpr hl.2.2
  rw [hw] at t15
  obtain ⟨k0, k1, k2, k3⟩ := kw_k
  have hF1 : Fp 98 [109] TMs M (M.1, up2 M.2.1 109 k (nI kd), M.2.2.1, M.2.2.2) := Fp.up (by decide) (by decide)
  have W1 := W.fp hF1 (by decide) (by decide)
  have g10 : up2 M.2.1 109 k (nI kd) 98 10 = nI (tkR t n p) := (by (try dsimp only); exact up2_o (by omega) T.1)
  have tt := m_token (C := C) W1 g10 hx.2.2
  have fin : ∀ M2, Fp 98 [] TMs (M.1, up2 M.2.1 109 k (nI kd), M.2.2.1, M.2.2.2) M2 → MTk M2 t n (tkR t n p) → Fp 98 [109] TMs M M2 ∧ MTk M2 t n (tkR t n p) ∧ M2.2.1 109 k = nI kd ∧ ∀ j, j ≠ k → M2.2.1 109 j = M.2.1 109 j := by
    intro M2 hF2 T2
    refine ⟨hF1.tr (hF2.sub (by decide) (fun _ q => q)), T2, ?_, fun j hj => ?_⟩
    · rw [(hF2.2.1 109 (by decide) (by decide)).1]
      exact (by (try dsimp only); exact up2_s)
    · rw [(hF2.2.1 109 (by decide) (by decide)).1]
      exact (by (try dsimp only); exact up2_o (by omega) rfl)
  rcases (show kd = 0 ∨ kd = 1 ∨ kd = 2 ∨ kd = 3 by omega) with rfl | rfl | rfl | rfl
  · rw [k0] at t15
    refine CG_in (mL := 5) (hl := true) (lv := [some (.ref 98), some (.int (nI k)), none, none, none]) (ll := [none, none, none, none, none]) rfl rfl rfl ?_
    refine G_S (pc := 0) f_205_0 rfl rfl rfl ?_
    refine G_gIv (pc := 1) f_205_1 (by decide) rfl (by decide) (by first | assumption | exact hK.1 _ _ rfl) (by first | assumption | exact mI_s | ((refine mI_o (by first | decide | omega) ?_); (repeat (refine mI_o (by first | decide | omega) ?_)); first | exact mI_s | assumption) | rfl) ?_
    refine G_ic (v := nI 2) (pc := 4) f_205_4 (by decide) ?_
    refine G_jneZ (pc := 5) f_205_5 rfl (by first | exact nI_toInt (by omega) | exact zI_toInt (by omega) (by omega) | rfl) (by first | exact nI_toInt (by omega) | exact zI_toInt (by omega) (by omega) | rfl) (fun b1 => ?_) (fun b1 => ?_)
    · exfalso; omega
    · refine G_S (pc := 8) f_205_8 rfl rfl rfl ?_
      refine G_gLv (pc := 9) f_205_9 (by decide) rfl (by first | assumption | exact hK.1 _ _ rfl) (t15) ?_
      refine G_S (pc := 12) f_205_12 rfl rfl rfl ?_
      refine G_S (pc := 16) f_205_16 rfl rfl rfl ?_
      refine G_S (pc := 17) f_205_17 rfl rfl rfl ?_
      refine G_S (pc := 18) f_205_18 rfl rfl rfl ?_
      refine G_S (pc := 21) f_205_21 rfl rfl rfl ?_
      refine G_zne (pc := 22) f_205_22 rfl (fun b2 => ?_) (fun b2 => ?_)
      · exact absurd (by decide) b2
      · refine G_ic (v := nI 0) (pc := 25) f_205_25 (by decide) ?_
        refine G_S (pc := 26) f_205_26 rfl rfl rfl ?_
        refine G_S (pc := 66) f_205_66 rfl rfl rfl ?_
        refine G_S (pc := 68) f_205_68 rfl rfl rfl ?_
        refine G_ic (v := zI (-1)) (pc := 70) f_205_70 (by decide) ?_
        refine G_S (pc := 71) f_205_71 rfl rfl rfl ?_
        refine G_S (pc := 79) f_205_79 rfl rfl rfl ?_
        refine G_gR (pc := 80) f_205_80 (by decide) rfl (by first | assumption | exact hK.1 _ _ rfl) (by first | assumption | exact hK.2 _ _ _ rfl | (try dsimp only) <;> (repeat (first | exact up2_s | refine up2_o (by first | decide | omega) ?_)) <;> first | assumption | exact hK.2 _ _ _ rfl) ?_
        refine G_S (pc := 83) f_205_83 rfl rfl rfl ?_
        refine G_S (pc := 84) f_205_84 rfl rfl rfl ?_
        refine G_isN (pc := 86) f_205_86 (by first | assumption | exact hK.1 _ _ rfl) (by omega) (by omega) ?_
        refine G_S (pc := 87) f_205_87 rfl rfl rfl ?_
        refine G_CV (pc := 88) f_205_88 rfl rfl (by decide) rfl rfl (by first | assumption | exact hK.1 _ _ rfl) (by decide) ⟨Nat.le_of_ble_eq_true rfl, Nat.le_of_ble_eq_true rfl⟩ ?_
        refine CG.mono (tt) ?_
        rintro _ M2 ⟨rfl, hF2, T2⟩
        refine G_ic (v := nI 1) (pc := 91) f_205_91 (by decide) ?_
        refine G_rz (pc := 92) f_205_92 (by first | exact Or.inl rfl | exact Or.inr rfl | exact b2i_01 _ | assumption) ?_
        exact ⟨rfl, fin M2 hF2 T2⟩
  · rw [show 18 + 1 = 19 from rfl, k1] at t15
    refine CG_in (mL := 5) (hl := true) (lv := [some (.ref 98), some (.int (nI k)), none, none, none]) (ll := [none, none, none, none, none]) rfl rfl rfl ?_
    refine G_S (pc := 0) f_205_0 rfl rfl rfl ?_
    refine G_gIv (pc := 1) f_205_1 (by decide) rfl (by decide) (by first | assumption | exact hK.1 _ _ rfl) (by first | assumption | exact mI_s | ((refine mI_o (by first | decide | omega) ?_); (repeat (refine mI_o (by first | decide | omega) ?_)); first | exact mI_s | assumption) | rfl) ?_
    refine G_ic (v := nI 2) (pc := 4) f_205_4 (by decide) ?_
    refine G_jneZ (pc := 5) f_205_5 rfl (by first | exact nI_toInt (by omega) | exact zI_toInt (by omega) (by omega) | rfl) (by first | exact nI_toInt (by omega) | exact zI_toInt (by omega) (by omega) | rfl) (fun b1 => ?_) (fun b1 => ?_)
    · exfalso; omega
    · refine G_S (pc := 8) f_205_8 rfl rfl rfl ?_
      refine G_gLv (pc := 9) f_205_9 (by decide) rfl (by first | assumption | exact hK.1 _ _ rfl) (t15) ?_
      refine G_S (pc := 12) f_205_12 rfl rfl rfl ?_
      refine G_S (pc := 16) f_205_16 rfl rfl rfl ?_
      refine G_S (pc := 17) f_205_17 rfl rfl rfl ?_
      refine G_S (pc := 18) f_205_18 rfl rfl rfl ?_
      refine G_S (pc := 21) f_205_21 rfl rfl rfl ?_
      refine G_zne (pc := 22) f_205_22 rfl (fun b2 => ?_) (fun b2 => ?_)
      · refine G_S (pc := 29) f_205_29 rfl rfl rfl ?_
        refine G_S (pc := 30) f_205_30 rfl rfl rfl ?_
        refine G_S (pc := 33) f_205_33 rfl rfl rfl ?_
        refine G_zne (pc := 34) f_205_34 rfl (fun b3 => ?_) (fun b3 => ?_)
        · exact absurd (by decide) b3
        · refine G_ic (v := nI 1) (pc := 37) f_205_37 (by decide) ?_
          refine G_S (pc := 38) f_205_38 rfl rfl rfl ?_
          refine G_S (pc := 66) f_205_66 rfl rfl rfl ?_
          refine G_S (pc := 68) f_205_68 rfl rfl rfl ?_
          refine G_ic (v := zI (-1)) (pc := 70) f_205_70 (by decide) ?_
          refine G_S (pc := 71) f_205_71 rfl rfl rfl ?_
          refine G_S (pc := 79) f_205_79 rfl rfl rfl ?_
          refine G_gR (pc := 80) f_205_80 (by decide) rfl (by first | assumption | exact hK.1 _ _ rfl) (by first | assumption | exact hK.2 _ _ _ rfl | (try dsimp only) <;> (repeat (first | exact up2_s | refine up2_o (by first | decide | omega) ?_)) <;> first | assumption | exact hK.2 _ _ _ rfl) ?_
          refine G_S (pc := 83) f_205_83 rfl rfl rfl ?_
          refine G_S (pc := 84) f_205_84 rfl rfl rfl ?_
          refine G_isN (pc := 86) f_205_86 (by first | assumption | exact hK.1 _ _ rfl) (by omega) (by omega) ?_
          refine G_S (pc := 87) f_205_87 rfl rfl rfl ?_
          refine G_CV (pc := 88) f_205_88 rfl rfl (by decide) rfl rfl (by first | assumption | exact hK.1 _ _ rfl) (by decide) ⟨Nat.le_of_ble_eq_true rfl, Nat.le_of_ble_eq_true rfl⟩ ?_
          refine CG.mono (tt) ?_
          rintro _ M2 ⟨rfl, hF2, T2⟩
          refine G_ic (v := nI 1) (pc := 91) f_205_91 (by decide) ?_
          refine G_rz (pc := 92) f_205_92 (by first | exact Or.inl rfl | exact Or.inr rfl | exact b2i_01 _ | assumption) ?_
          exact ⟨rfl, fin M2 hF2 T2⟩
      · exact absurd b2 (by decide)
  · rw [show 18 + 2 = 20 from rfl, k2] at t15
    refine CG_in (mL := 5) (hl := true) (lv := [some (.ref 98), some (.int (nI k)), none, none, none]) (ll := [none, none, none, none, none]) rfl rfl rfl ?_
    refine G_S (pc := 0) f_205_0 rfl rfl rfl ?_
    refine G_gIv (pc := 1) f_205_1 (by decide) rfl (by decide) (by first | assumption | exact hK.1 _ _ rfl) (by first | assumption | exact mI_s | ((refine mI_o (by first | decide | omega) ?_); (repeat (refine mI_o (by first | decide | omega) ?_)); first | exact mI_s | assumption) | rfl) ?_
    refine G_ic (v := nI 2) (pc := 4) f_205_4 (by decide) ?_
    refine G_jneZ (pc := 5) f_205_5 rfl (by first | exact nI_toInt (by omega) | exact zI_toInt (by omega) (by omega) | rfl) (by first | exact nI_toInt (by omega) | exact zI_toInt (by omega) (by omega) | rfl) (fun b1 => ?_) (fun b1 => ?_)
    · exfalso; omega
    · refine G_S (pc := 8) f_205_8 rfl rfl rfl ?_
      refine G_gLv (pc := 9) f_205_9 (by decide) rfl (by first | assumption | exact hK.1 _ _ rfl) (t15) ?_
      refine G_S (pc := 12) f_205_12 rfl rfl rfl ?_
      refine G_S (pc := 16) f_205_16 rfl rfl rfl ?_
      refine G_S (pc := 17) f_205_17 rfl rfl rfl ?_
      refine G_S (pc := 18) f_205_18 rfl rfl rfl ?_
      refine G_S (pc := 21) f_205_21 rfl rfl rfl ?_
      refine G_zne (pc := 22) f_205_22 rfl (fun b2 => ?_) (fun b2 => ?_)
      · refine G_S (pc := 29) f_205_29 rfl rfl rfl ?_
        refine G_S (pc := 30) f_205_30 rfl rfl rfl ?_
        refine G_S (pc := 33) f_205_33 rfl rfl rfl ?_
        refine G_zne (pc := 34) f_205_34 rfl (fun b3 => ?_) (fun b3 => ?_)
        · refine G_S (pc := 41) f_205_41 rfl rfl rfl ?_
          refine G_S (pc := 42) f_205_42 rfl rfl rfl ?_
          refine G_S (pc := 45) f_205_45 rfl rfl rfl ?_
          refine G_zne (pc := 46) f_205_46 rfl (fun b4 => ?_) (fun b4 => ?_)
          · exact absurd (by decide) b4
          · refine G_ic (v := nI 2) (pc := 49) f_205_49 (by decide) ?_
            refine G_S (pc := 50) f_205_50 rfl rfl rfl ?_
            refine G_S (pc := 66) f_205_66 rfl rfl rfl ?_
            refine G_S (pc := 68) f_205_68 rfl rfl rfl ?_
            refine G_ic (v := zI (-1)) (pc := 70) f_205_70 (by decide) ?_
            refine G_S (pc := 71) f_205_71 rfl rfl rfl ?_
            refine G_S (pc := 79) f_205_79 rfl rfl rfl ?_
            refine G_gR (pc := 80) f_205_80 (by decide) rfl (by first | assumption | exact hK.1 _ _ rfl) (by first | assumption | exact hK.2 _ _ _ rfl | (try dsimp only) <;> (repeat (first | exact up2_s | refine up2_o (by first | decide | omega) ?_)) <;> first | assumption | exact hK.2 _ _ _ rfl) ?_
            refine G_S (pc := 83) f_205_83 rfl rfl rfl ?_
            refine G_S (pc := 84) f_205_84 rfl rfl rfl ?_
            refine G_isN (pc := 86) f_205_86 (by first | assumption | exact hK.1 _ _ rfl) (by omega) (by omega) ?_
            refine G_S (pc := 87) f_205_87 rfl rfl rfl ?_
            refine G_CV (pc := 88) f_205_88 rfl rfl (by decide) rfl rfl (by first | assumption | exact hK.1 _ _ rfl) (by decide) ⟨Nat.le_of_ble_eq_true rfl, Nat.le_of_ble_eq_true rfl⟩ ?_
            refine CG.mono (tt) ?_
            rintro _ M2 ⟨rfl, hF2, T2⟩
            refine G_ic (v := nI 1) (pc := 91) f_205_91 (by decide) ?_
            refine G_rz (pc := 92) f_205_92 (by first | exact Or.inl rfl | exact Or.inr rfl | exact b2i_01 _ | assumption) ?_
            exact ⟨rfl, fin M2 hF2 T2⟩
        · exact absurd b3 (by decide)
      · exact absurd b2 (by decide)
  · rw [show 18 + 3 = 21 from rfl, k3] at t15
    refine CG_in (mL := 5) (hl := true) (lv := [some (.ref 98), some (.int (nI k)), none, none, none]) (ll := [none, none, none, none, none]) rfl rfl rfl ?_
    refine G_S (pc := 0) f_205_0 rfl rfl rfl ?_
    refine G_gIv (pc := 1) f_205_1 (by decide) rfl (by decide) (by first | assumption | exact hK.1 _ _ rfl) (by first | assumption | exact mI_s | ((refine mI_o (by first | decide | omega) ?_); (repeat (refine mI_o (by first | decide | omega) ?_)); first | exact mI_s | assumption) | rfl) ?_
    refine G_ic (v := nI 2) (pc := 4) f_205_4 (by decide) ?_
    refine G_jneZ (pc := 5) f_205_5 rfl (by first | exact nI_toInt (by omega) | exact zI_toInt (by omega) (by omega) | rfl) (by first | exact nI_toInt (by omega) | exact zI_toInt (by omega) (by omega) | rfl) (fun b1 => ?_) (fun b1 => ?_)
    · exfalso; omega
    · refine G_S (pc := 8) f_205_8 rfl rfl rfl ?_
      refine G_gLv (pc := 9) f_205_9 (by decide) rfl (by first | assumption | exact hK.1 _ _ rfl) (t15) ?_
      refine G_S (pc := 12) f_205_12 rfl rfl rfl ?_
      refine G_S (pc := 16) f_205_16 rfl rfl rfl ?_
      refine G_S (pc := 17) f_205_17 rfl rfl rfl ?_
      refine G_S (pc := 18) f_205_18 rfl rfl rfl ?_
      refine G_S (pc := 21) f_205_21 rfl rfl rfl ?_
      refine G_zne (pc := 22) f_205_22 rfl (fun b2 => ?_) (fun b2 => ?_)
      · refine G_S (pc := 29) f_205_29 rfl rfl rfl ?_
        refine G_S (pc := 30) f_205_30 rfl rfl rfl ?_
        refine G_S (pc := 33) f_205_33 rfl rfl rfl ?_
        refine G_zne (pc := 34) f_205_34 rfl (fun b3 => ?_) (fun b3 => ?_)
        · refine G_S (pc := 41) f_205_41 rfl rfl rfl ?_
          refine G_S (pc := 42) f_205_42 rfl rfl rfl ?_
          refine G_S (pc := 45) f_205_45 rfl rfl rfl ?_
          refine G_zne (pc := 46) f_205_46 rfl (fun b4 => ?_) (fun b4 => ?_)
          · refine G_S (pc := 53) f_205_53 rfl rfl rfl ?_
            refine G_S (pc := 54) f_205_54 rfl rfl rfl ?_
            refine G_S (pc := 57) f_205_57 rfl rfl rfl ?_
            refine G_zne (pc := 58) f_205_58 rfl (fun b5 => ?_) (fun b5 => ?_)
            · exact absurd (by decide) b5
            · refine G_ic (v := nI 3) (pc := 61) f_205_61 (by decide) ?_
              refine G_S (pc := 62) f_205_62 rfl rfl rfl ?_
              refine G_S (pc := 66) f_205_66 rfl rfl rfl ?_
              refine G_S (pc := 68) f_205_68 rfl rfl rfl ?_
              refine G_ic (v := zI (-1)) (pc := 70) f_205_70 (by decide) ?_
              refine G_S (pc := 71) f_205_71 rfl rfl rfl ?_
              refine G_S (pc := 79) f_205_79 rfl rfl rfl ?_
              refine G_gR (pc := 80) f_205_80 (by decide) rfl (by first | assumption | exact hK.1 _ _ rfl) (by first | assumption | exact hK.2 _ _ _ rfl | (try dsimp only) <;> (repeat (first | exact up2_s | refine up2_o (by first | decide | omega) ?_)) <;> first | assumption | exact hK.2 _ _ _ rfl) ?_
              refine G_S (pc := 83) f_205_83 rfl rfl rfl ?_
              refine G_S (pc := 84) f_205_84 rfl rfl rfl ?_
              refine G_isN (pc := 86) f_205_86 (by first | assumption | exact hK.1 _ _ rfl) (by omega) (by omega) ?_
              refine G_S (pc := 87) f_205_87 rfl rfl rfl ?_
              refine G_CV (pc := 88) f_205_88 rfl rfl (by decide) rfl rfl (by first | assumption | exact hK.1 _ _ rfl) (by decide) ⟨Nat.le_of_ble_eq_true rfl, Nat.le_of_ble_eq_true rfl⟩ ?_
              refine CG.mono (tt) ?_
              rintro _ M2 ⟨rfl, hF2, T2⟩
              refine G_ic (v := nI 1) (pc := 91) f_205_91 (by decide) ?_
              refine G_rz (pc := 92) f_205_92 (by first | exact Or.inl rfl | exact Or.inr rfl | exact b2i_01 _ | assumption) ?_
              exact ⟨rfl, fin M2 hF2 T2⟩
          · exact absurd b4 (by decide)
        · exact absurd b3 (by decide)
      · exact absurd b2 (by decide)
theorem m_full {c m : Nat} (hK : KM M.1 M.2.2.2) (hf : LRd M f) (hb : f.1 ≠ 0 → f.2 < q) (hq : q ≤ 600) (hE : TDm M E) (hc : c < 121) (h0 : 0 ≤ E c) (hm : E c ≤ (m : Int)) (hm4 : m ≤ 40) : CG C 206 [.ref 98, .int (nI c), .int (nI m), .int (nI q)] M (fun w M' => w = none ∧ Fw [] [17, 18] M M' ∧ LRd M' (nt f (decide ((m : Int) ≤ E c)) 3 q)) := by
  have hv := hE c hc
  refine CG_in (mL := 4) (hl := false) (lv := [some (.ref 98), some (.int (nI c)), some (.int (nI m)), some (.int (nI q))]) (ll := []) rfl rfl rfl ?_
  refine G_S (pc := 0) f_206_0 rfl rfl rfl ?_
  refine G_gR (pc := 1) f_206_1 (by decide) rfl (by first | assumption | exact hK.1 _ _ rfl) (by first | assumption | exact hK.2 _ _ _ rfl | (try dsimp only) <;> (repeat (first | exact up2_s | refine up2_o (by first | decide | omega) ?_)) <;> first | assumption | exact hK.2 _ _ _ rfl) ?_
  refine G_S (pc := 4) f_206_4 rfl rfl rfl ?_
  refine G_iaN (pc := 5) f_206_5 (by first | assumption | exact hK.1 _ _ rfl) (by omega) (by omega) (by first | exact hv | rfl) ?_
  refine G_S (pc := 6) f_206_6 rfl rfl rfl ?_
  refine G_jneZ (pc := 7) f_206_7 rfl (by first | exact nI_toInt (by omega) | exact zI_toInt (by omega) (by omega) | rfl) (by first | exact nI_toInt (by omega) | exact zI_toInt (by omega) (by omega) | rfl) (fun b1 => ?_) (fun b1 => ?_)
  · refine G_rv (pc := 16) f_206_16 ?_
    first
      | (rw [decide_eq_true (show (m : Int) ≤ E c by omega)]
         exact ⟨rfl, hF, hf2⟩)
      | (rw [decide_eq_false (show ¬ (m : Int) ≤ E c by omega), nt_f]
         exact ⟨rfl, Fw.rf, hf⟩)
  · refine G_S (pc := 10) f_206_10 rfl rfl rfl ?_
    refine G_ic (v := nI 3) (pc := 11) f_206_11 (by decide) ?_
    refine G_S (pc := 12) f_206_12 rfl rfl rfl ?_
    refine G_CV (pc := 13) f_206_13 rfl rfl (by decide) rfl rfl (by first | assumption | exact hK.1 _ _ rfl) (by decide) ⟨Nat.le_of_ble_eq_true rfl, Nat.le_of_ble_eq_true rfl⟩ ?_
    refine CG.mono (m_later hK hf hb (by decide) hq (by decide)) ?_
    rintro _ M2 ⟨rfl, hF, hf2⟩
    refine G_rv (pc := 16) f_206_16 ?_
    first
      | (rw [decide_eq_true (show (m : Int) ≤ E c by omega)]
         exact ⟨rfl, hF, hf2⟩)
      | (rw [decide_eq_false (show ¬ (m : Int) ≤ E c by omega), nt_f]
         exact ⟨rfl, Fw.rf, hf⟩)
theorem m_keep {c a m : Nat} {x y z : Int} (hK : KM M.1 M.2.2.2) (hE : TDm M E) (h0 : 0 ≤ E c) (hm : E c ≤ (m : Int)) (hc : c < a) (ha : a + 3 * m ≤ 121) (hm4 : m ≤ 40) (r0 : M.2.1 109 0 = zI x) (r1 : M.2.1 109 1 = zI y) (r2 : M.2.1 109 2 = zI z) : CG C 213 [.ref 98, .int (nI c), .int (nI a), .int (nI m)] M (fun w M' => w = none ∧ Fw [108] [] M M' ∧ TDm M' (if E c = (m : Int) then E else ad3 E c (a + 3 * (E c).toNat) x y z)) := by
  obtain ⟨k, hk⟩ : ∃ k : Nat, E c = (k : Int) := ⟨(E c).toNat, by omega⟩
  have hv : M.2.1 108 c = nI k := by rw [hE c (by omega), hk, nI_zI]
  by_cases hfull : E c = (m : Int)
  · rw [if_pos hfull]
    refine CG_in (mL := 6) (hl := false) (lv := [some (.ref 98), some (.int (nI c)), some (.int (nI a)), some (.int (nI m)), none, none]) (ll := []) rfl rfl rfl ?_
    refine G_S (pc := 0) f_213_0 rfl rfl rfl ?_
    refine G_gR (pc := 1) f_213_1 (by decide) rfl (by first | assumption | exact hK.1 _ _ rfl) (by first | assumption | exact hK.2 _ _ _ rfl | (try dsimp only) <;> (repeat (first | exact up2_s | refine up2_o (by first | decide | omega) ?_)) <;> first | assumption | exact hK.2 _ _ _ rfl) ?_
    refine G_S (pc := 4) f_213_4 rfl rfl rfl ?_
    refine G_iaN (pc := 5) f_213_5 (by first | assumption | exact hK.1 _ _ rfl) (by omega) (by omega) (by first | exact hv | rfl) ?_
    refine G_S (pc := 6) f_213_6 rfl rfl rfl ?_
    refine G_S (pc := 8) f_213_8 rfl rfl rfl ?_
    refine G_S (pc := 10) f_213_10 rfl rfl rfl ?_
    refine G_jneZ (pc := 11) f_213_11 rfl (by first | exact nI_toInt (by omega) | exact zI_toInt (by omega) (by omega) | rfl) (by first | exact nI_toInt (by omega) | exact zI_toInt (by omega) (by omega) | rfl) (fun b1 => ?_) (fun b1 => ?_)
    · exfalso; omega
    · refine G_rv (pc := 14) f_213_14 ?_
      exact ⟨rfl, Fw.rf, hE⟩
  · rw [if_neg hfull, hk, Int.toNat_natCast]
    have g1 : ∀ N, Fw [108] [] M N → N.2.1 109 0 = zI x ∧ N.2.1 109 1 = zI y ∧ N.2.1 109 2 = zI z := fun N h => by
      rw [(h.1.2.1 109 (by decide) (by decide)).1]
      exact ⟨r0, r1, r2⟩
    have F1 : Fw [108] [] M (M.1, up2 M.2.1 108 (a + 3 * k) (zI x), M.2.2.1, M.2.2.2) := Fw.up (by decide) (by decide)
    have D1 : TDm (M.1, up2 M.2.1 108 (a + 3 * k) (zI x), M.2.2.1, M.2.2.2) (up1 E (a + 3 * k) x) := hE.up
    have F2 : Fw [108] [] M (M.1, up2 (up2 M.2.1 108 (a + 3 * k) (zI x)) 108 (a + 3 * k + 1) (zI y), M.2.2.1, M.2.2.2) := F1.tr (Fw.up (by decide) (by decide))
    have D2 : TDm (M.1, up2 (up2 M.2.1 108 (a + 3 * k) (zI x)) 108 (a + 3 * k + 1) (zI y), M.2.2.1, M.2.2.2) (up1 (up1 E (a + 3 * k) x) (a + 3 * k + 1) y) := D1.up
    have F3 : Fw [108] [] M (M.1, up2 (up2 (up2 M.2.1 108 (a + 3 * k) (zI x)) 108 (a + 3 * k + 1) (zI y)) 108 (a + 3 * k + 2) (zI z), M.2.2.1, M.2.2.2) := F2.tr (Fw.up (by decide) (by decide))
    have D3 : TDm (M.1, up2 (up2 (up2 M.2.1 108 (a + 3 * k) (zI x)) 108 (a + 3 * k + 1) (zI y)) 108 (a + 3 * k + 2) (zI z), M.2.2.1, M.2.2.2) (up1 (up1 (up1 E (a + 3 * k) x) (a + 3 * k + 1) y) (a + 3 * k + 2) z) := D2.up
    have hvc : up2 (up2 (up2 M.2.1 108 (a + 3 * k) (zI x)) 108 (a + 3 * k + 1) (zI y)) 108 (a + 3 * k + 2) (zI z) 108 c = nI k := (by (try dsimp only); exact up2_o (by omega) (by (try dsimp only); exact up2_o (by omega) (by (try dsimp only); exact up2_o (by omega) hv)))
    have F4 : Fw [108] [] M (M.1, up2 (up2 (up2 (up2 M.2.1 108 (a + 3 * k) (zI x)) 108 (a + 3 * k + 1) (zI y)) 108 (a + 3 * k + 2) (zI z)) 108 c (nI (k + 1)), M.2.2.1, M.2.2.2) := F3.tr (Fw.up (by decide) (by decide))
    have D4 : TDm (M.1, up2 (up2 (up2 (up2 M.2.1 108 (a + 3 * k) (zI x)) 108 (a + 3 * k + 1) (zI y)) 108 (a + 3 * k + 2) (zI z)) 108 c (nI (k + 1)), M.2.2.1, M.2.2.2) (ad3 E c (a + 3 * k) x y z) := by
      have e : nI (k + 1) = zI (E c + 1) := zn' (by omega)
      rw [e]
      exact D3.up
    have s3 : G C 213 (18, [some (.ref 98), some (.int (nI c)), some (.int (nI a)), some (.int (nI m)), some (.int (nI k)), some (.int (nI 3))], [], [], (M.1, up2 (up2 (up2 M.2.1 108 (a + 3 * k) (zI x)) 108 (a + 3 * k + 1) (zI y)) 108 (a + 3 * k + 2) (zI z), M.2.2.1, M.2.2.2)) (fun w M' => w = none ∧ Fw [108] [] M M' ∧ TDm M' (ad3 E c (a + 3 * k) x y z)) := by
      refine G_S (pc := 18) f_213_18 rfl rfl rfl ?_
      refine G_ic (v := nI 3) (pc := 20) f_213_20 (by decide) ?_
      refine G_jgeZ (pc := 21) f_213_21 rfl (by first | exact nI_toInt (by omega) | exact zI_toInt (by omega) (by omega) | rfl) (by first | exact nI_toInt (by omega) | exact zI_toInt (by omega) (by omega) | rfl) (fun b2 => ?_) (fun b2 => ?_)
      · refine G_S (pc := 51) f_213_51 rfl rfl rfl ?_
        refine G_gR (pc := 52) f_213_52 (by decide) rfl (by first | assumption | exact hK.1 _ _ rfl) (by first | assumption | exact hK.2 _ _ _ rfl | (try dsimp only) <;> (repeat (first | exact up2_s | refine up2_o (by first | decide | omega) ?_)) <;> first | assumption | exact hK.2 _ _ _ rfl) ?_
        refine G_S (pc := 55) f_213_55 rfl rfl rfl ?_
        refine G_S (pc := 56) f_213_56 rfl rfl rfl ?_
        refine G_iaN (pc := 57) f_213_57 (by first | assumption | exact hK.1 _ _ rfl) (by omega) (by omega) (by first | exact hvc | rfl) ?_
        refine G_ic (v := nI 1) (pc := 58) f_213_58 (by decide) ?_
        first | refine G_addN (pc := 59) f_213_59 ?_ | refine G_addZ (pc := 59) f_213_59 (by first | rfl | exact nI_zI _) (by first | rfl | exact nI_zI _) ?_ | refine G_S (pc := 59) f_213_59 rfl rfl rfl ?_
        refine G_isN (pc := 60) f_213_60 (by first | assumption | exact hK.1 _ _ rfl) (by omega) (by omega) ?_
        refine G_rv (pc := 61) f_213_61 ?_
        exact ⟨rfl, F4, D4⟩
      · exfalso; omega
    have s2 : G C 213 (18, [some (.ref 98), some (.int (nI c)), some (.int (nI a)), some (.int (nI m)), some (.int (nI k)), some (.int (nI 2))], [], [], (M.1, up2 (up2 M.2.1 108 (a + 3 * k) (zI x)) 108 (a + 3 * k + 1) (zI y), M.2.2.1, M.2.2.2)) (fun w M' => w = none ∧ Fw [108] [] M M' ∧ TDm M' (ad3 E c (a + 3 * k) x y z)) := by
      have g2 := (g1 _ F2).2.2
      refine G_S (pc := 18) f_213_18 rfl rfl rfl ?_
      refine G_ic (v := nI 3) (pc := 20) f_213_20 (by decide) ?_
      refine G_jgeZ (pc := 21) f_213_21 rfl (by first | exact nI_toInt (by omega) | exact zI_toInt (by omega) (by omega) | rfl) (by first | exact nI_toInt (by omega) | exact zI_toInt (by omega) (by omega) | rfl) (fun b2 => ?_) (fun b2 => ?_)
      · exfalso; omega
      · refine G_S (pc := 24) f_213_24 rfl rfl rfl ?_
        refine G_gR (pc := 25) f_213_25 (by decide) rfl (by first | assumption | exact hK.1 _ _ rfl) (by first | assumption | exact hK.2 _ _ _ rfl | (try dsimp only) <;> (repeat (first | exact up2_s | refine up2_o (by first | decide | omega) ?_)) <;> first | assumption | exact hK.2 _ _ _ rfl) ?_
        refine G_S (pc := 28) f_213_28 rfl rfl rfl ?_
        refine G_ic (v := nI 3) (pc := 29) f_213_29 (by decide) ?_
        refine G_S (pc := 30) f_213_30 rfl rfl rfl ?_
        first | refine G_mulN (pc := 32) f_213_32 ?_ | refine G_mulZ (pc := 32) f_213_32 (by first | rfl | exact nI_zI _) (by first | rfl | exact nI_zI _) ?_ | refine G_S (pc := 32) f_213_32 rfl rfl rfl ?_
        first | refine G_addN (pc := 33) f_213_33 ?_ | refine G_addZ (pc := 33) f_213_33 (by first | rfl | exact nI_zI _) (by first | rfl | exact nI_zI _) ?_ | refine G_S (pc := 33) f_213_33 rfl rfl rfl ?_
        refine G_S (pc := 34) f_213_34 rfl rfl rfl ?_
        first | refine G_addN (pc := 36) f_213_36 ?_ | refine G_addZ (pc := 36) f_213_36 (by first | rfl | exact nI_zI _) (by first | rfl | exact nI_zI _) ?_ | refine G_S (pc := 36) f_213_36 rfl rfl rfl ?_
        refine G_S (pc := 37) f_213_37 rfl rfl rfl ?_
        refine G_gR (pc := 38) f_213_38 (by decide) rfl (by first | assumption | exact hK.1 _ _ rfl) (by first | assumption | exact hK.2 _ _ _ rfl | (try dsimp only) <;> (repeat (first | exact up2_s | refine up2_o (by first | decide | omega) ?_)) <;> first | assumption | exact hK.2 _ _ _ rfl) ?_
        refine G_S (pc := 41) f_213_41 rfl rfl rfl ?_
        refine G_iaN (pc := 43) f_213_43 (by first | assumption | exact hK.1 _ _ rfl) (by omega) (by omega) (by first | exact g2 | rfl) ?_
        refine G_isN (pc := 44) f_213_44 (by first | assumption | exact hK.1 _ _ rfl) (by omega) (by omega) ?_
        first | refine G_inc1 (pc := 45) f_213_45 rfl ?_ | refine G_S (pc := 45) f_213_45 rfl rfl rfl ?_
        refine G_S (pc := 48) f_213_48 rfl rfl rfl ?_
        exact s3
    have s1 : G C 213 (18, [some (.ref 98), some (.int (nI c)), some (.int (nI a)), some (.int (nI m)), some (.int (nI k)), some (.int (nI 1))], [], [], (M.1, up2 M.2.1 108 (a + 3 * k) (zI x), M.2.2.1, M.2.2.2)) (fun w M' => w = none ∧ Fw [108] [] M M' ∧ TDm M' (ad3 E c (a + 3 * k) x y z)) := by
      have g2 := (g1 _ F1).2.1
      refine G_S (pc := 18) f_213_18 rfl rfl rfl ?_
      refine G_ic (v := nI 3) (pc := 20) f_213_20 (by decide) ?_
      refine G_jgeZ (pc := 21) f_213_21 rfl (by first | exact nI_toInt (by omega) | exact zI_toInt (by omega) (by omega) | rfl) (by first | exact nI_toInt (by omega) | exact zI_toInt (by omega) (by omega) | rfl) (fun b2 => ?_) (fun b2 => ?_)
      · exfalso; omega
      · refine G_S (pc := 24) f_213_24 rfl rfl rfl ?_
        refine G_gR (pc := 25) f_213_25 (by decide) rfl (by first | assumption | exact hK.1 _ _ rfl) (by first | assumption | exact hK.2 _ _ _ rfl | (try dsimp only) <;> (repeat (first | exact up2_s | refine up2_o (by first | decide | omega) ?_)) <;> first | assumption | exact hK.2 _ _ _ rfl) ?_
        refine G_S (pc := 28) f_213_28 rfl rfl rfl ?_
        refine G_ic (v := nI 3) (pc := 29) f_213_29 (by decide) ?_
        refine G_S (pc := 30) f_213_30 rfl rfl rfl ?_
        first | refine G_mulN (pc := 32) f_213_32 ?_ | refine G_mulZ (pc := 32) f_213_32 (by first | rfl | exact nI_zI _) (by first | rfl | exact nI_zI _) ?_ | refine G_S (pc := 32) f_213_32 rfl rfl rfl ?_
        first | refine G_addN (pc := 33) f_213_33 ?_ | refine G_addZ (pc := 33) f_213_33 (by first | rfl | exact nI_zI _) (by first | rfl | exact nI_zI _) ?_ | refine G_S (pc := 33) f_213_33 rfl rfl rfl ?_
        refine G_S (pc := 34) f_213_34 rfl rfl rfl ?_
        first | refine G_addN (pc := 36) f_213_36 ?_ | refine G_addZ (pc := 36) f_213_36 (by first | rfl | exact nI_zI _) (by first | rfl | exact nI_zI _) ?_ | refine G_S (pc := 36) f_213_36 rfl rfl rfl ?_
        refine G_S (pc := 37) f_213_37 rfl rfl rfl ?_
        refine G_gR (pc := 38) f_213_38 (by decide) rfl (by first | assumption | exact hK.1 _ _ rfl) (by first | assumption | exact hK.2 _ _ _ rfl | (try dsimp only) <;> (repeat (first | exact up2_s | refine up2_o (by first | decide | omega) ?_)) <;> first | assumption | exact hK.2 _ _ _ rfl) ?_
        refine G_S (pc := 41) f_213_41 rfl rfl rfl ?_
        refine G_iaN (pc := 43) f_213_43 (by first | assumption | exact hK.1 _ _ rfl) (by omega) (by omega) (by first | exact g2 | rfl) ?_
        refine G_isN (pc := 44) f_213_44 (by first | assumption | exact hK.1 _ _ rfl) (by omega) (by omega) ?_
        first | refine G_inc1 (pc := 45) f_213_45 rfl ?_ | refine G_S (pc := 45) f_213_45 rfl rfl rfl ?_
        refine G_S (pc := 48) f_213_48 rfl rfl rfl ?_
        exact s2
    have s0 : G C 213 (18, [some (.ref 98), some (.int (nI c)), some (.int (nI a)), some (.int (nI m)), some (.int (nI k)), some (.int (nI 0))], [], [], M) (fun w M' => w = none ∧ Fw [108] [] M M' ∧ TDm M' (ad3 E c (a + 3 * k) x y z)) := by
      refine G_S (pc := 18) f_213_18 rfl rfl rfl ?_
      refine G_ic (v := nI 3) (pc := 20) f_213_20 (by decide) ?_
      refine G_jgeZ (pc := 21) f_213_21 rfl (by first | exact nI_toInt (by omega) | exact zI_toInt (by omega) (by omega) | rfl) (by first | exact nI_toInt (by omega) | exact zI_toInt (by omega) (by omega) | rfl) (fun b2 => ?_) (fun b2 => ?_)
      · exfalso; omega
      · refine G_S (pc := 24) f_213_24 rfl rfl rfl ?_
        refine G_gR (pc := 25) f_213_25 (by decide) rfl (by first | assumption | exact hK.1 _ _ rfl) (by first | assumption | exact hK.2 _ _ _ rfl | (try dsimp only) <;> (repeat (first | exact up2_s | refine up2_o (by first | decide | omega) ?_)) <;> first | assumption | exact hK.2 _ _ _ rfl) ?_
        refine G_S (pc := 28) f_213_28 rfl rfl rfl ?_
        refine G_ic (v := nI 3) (pc := 29) f_213_29 (by decide) ?_
        refine G_S (pc := 30) f_213_30 rfl rfl rfl ?_
        first | refine G_mulN (pc := 32) f_213_32 ?_ | refine G_mulZ (pc := 32) f_213_32 (by first | rfl | exact nI_zI _) (by first | rfl | exact nI_zI _) ?_ | refine G_S (pc := 32) f_213_32 rfl rfl rfl ?_
        first | refine G_addN (pc := 33) f_213_33 ?_ | refine G_addZ (pc := 33) f_213_33 (by first | rfl | exact nI_zI _) (by first | rfl | exact nI_zI _) ?_ | refine G_S (pc := 33) f_213_33 rfl rfl rfl ?_
        refine G_S (pc := 34) f_213_34 rfl rfl rfl ?_
        first | refine G_addN (pc := 36) f_213_36 ?_ | refine G_addZ (pc := 36) f_213_36 (by first | rfl | exact nI_zI _) (by first | rfl | exact nI_zI _) ?_ | refine G_S (pc := 36) f_213_36 rfl rfl rfl ?_
        refine G_S (pc := 37) f_213_37 rfl rfl rfl ?_
        refine G_gR (pc := 38) f_213_38 (by decide) rfl (by first | assumption | exact hK.1 _ _ rfl) (by first | assumption | exact hK.2 _ _ _ rfl | (try dsimp only) <;> (repeat (first | exact up2_s | refine up2_o (by first | decide | omega) ?_)) <;> first | assumption | exact hK.2 _ _ _ rfl) ?_
        refine G_S (pc := 41) f_213_41 rfl rfl rfl ?_
        refine G_iaN (pc := 43) f_213_43 (by first | assumption | exact hK.1 _ _ rfl) (by omega) (by omega) (by first | exact r0 | rfl) ?_
        refine G_isN (pc := 44) f_213_44 (by first | assumption | exact hK.1 _ _ rfl) (by omega) (by omega) ?_
        first | refine G_inc1 (pc := 45) f_213_45 rfl ?_ | refine G_S (pc := 45) f_213_45 rfl rfl rfl ?_
        refine G_S (pc := 48) f_213_48 rfl rfl rfl ?_
        exact s1
    refine CG_in (mL := 6) (hl := false) (lv := [some (.ref 98), some (.int (nI c)), some (.int (nI a)), some (.int (nI m)), none, none]) (ll := []) rfl rfl rfl ?_
    refine G_S (pc := 0) f_213_0 rfl rfl rfl ?_
    refine G_gR (pc := 1) f_213_1 (by decide) rfl (by first | assumption | exact hK.1 _ _ rfl) (by first | assumption | exact hK.2 _ _ _ rfl | (try dsimp only) <;> (repeat (first | exact up2_s | refine up2_o (by first | decide | omega) ?_)) <;> first | assumption | exact hK.2 _ _ _ rfl) ?_
    refine G_S (pc := 4) f_213_4 rfl rfl rfl ?_
    refine G_iaN (pc := 5) f_213_5 (by first | assumption | exact hK.1 _ _ rfl) (by omega) (by omega) (by first | exact hv | rfl) ?_
    refine G_S (pc := 6) f_213_6 rfl rfl rfl ?_
    refine G_S (pc := 8) f_213_8 rfl rfl rfl ?_
    refine G_S (pc := 10) f_213_10 rfl rfl rfl ?_
    refine G_jneZ (pc := 11) f_213_11 rfl (by first | exact nI_toInt (by omega) | exact zI_toInt (by omega) (by omega) | rfl) (by first | exact nI_toInt (by omega) | exact zI_toInt (by omega) (by omega) | rfl) (fun b1 => ?_) (fun b1 => ?_)
    · refine G_ic (v := nI 0) (pc := 15) f_213_15 (by decide) ?_
      refine G_S (pc := 16) f_213_16 rfl rfl rfl ?_
      exact s0
    · exfalso; omega
end MKD
/-! a line's pure outcome, behind its first word -/
def lnS (t : Nat → Int) (n g : Nat) (E : Nat → Int) (T : Nat) (f : Nat × Nat) (p : Nat) : Sum Nat (Nat × (Nat × Nat) × (Nat → Int) × Nat) := match kdS t n g p with
  | .inl e => .inl e
  | .inr pk => (match nmS t n g (fmN g 1) 0 pk.1 f with
    | .inl e => .inl e
    | .inr pf => .inr (pf.1, pf.2, tkE g pk.2 (v1F t n g pk.1) (v2F t n g pk.1) (goodB t n g pk.1) E, tkT g (v1F t n g pk.1) T))
theorem stm_ln {t : Nat → Int} {n so g T p : Nat} {E : Nat → Int} {f : Nat × Nat} (hg : fmH t n so p = some g) : stm t n so E T f p = (match lnS t n g E T (nt f (fulB g E) 3 (skp t n p)) (tkR t n p) with
  | .inl e => .inl e
  | .inr q => if tkK t n q.1 = 3 then .inr (tkR t n q.1, q.2) else .inl (skp t n q.1)) := by
  unfold stm lnS
  rw [hg]
  dsimp only
  cases kdS t n g (tkR t n p) with
  | inl e => rfl
  | inr pk =>
    dsimp only
    cases nmS t n g (fmN g 1) 0 pk.1 (nt f (fulB g E) 3 (skp t n p)) with
    | inl e => rfl
    | inr pf => rfl
def SFo : List Nat := [108, 109]
def SFs : List Nat := [10, 12, 13, 14, 16, 17, 18, 21, 22]
def LNq (t : Nat → Int) (n : Nat) (M : Mm) (r : Sum Nat (Nat × (Nat × Nat) × (Nat → Int) × Nat)) (w : Option Value) (M' : Mm) : Prop := Fp 98 SFo SFs M M' ∧ (match r with
  | .inl e => w = some (.int (b2i (False))) ∧ M'.2.1 98 16 = nI e
  | .inr q => w = some (.int (b2i (True))) ∧ MTk M' t n q.1 ∧ LRd M' q.2.1 ∧ TDm M' q.2.2.1 ∧ M'.2.1 98 21 = nI q.2.2.2 ∧ (q.2.1.1 ≠ 0 → q.2.1.2 < skp t n q.1) ∧ q.1 ≤ n)
/-- the reference in the midst of a line -/
def MSt (M : Mm) (t : Nat → Int) (n p : Nat) (f : Nat × Nat) (E : Nat → Int) (T : Nat) : Prop := MTp M t n ∧ MTk M t n p ∧ LRd M f ∧ TDm M E ∧ M.2.1 98 21 = nI T ∧ M.2.1 98 22 = b2i (true = true) ∧ (f.1 ≠ 0 → f.2 < skp t n p) ∧ p ≤ n
theorem nt_lt {t : Nat → Int} {n p k : Nat} {f : Nat × Nat} {b : Bool} (hp : p ≤ n) (hk : tkK t n p ≠ 0) (h : f.1 ≠ 0 → f.2 < skp t n p) : (nt f b k (skp t n p)).1 ≠ 0 → (nt f b k (skp t n p)).2 < skp t n (tkR t n p) := by
  have hx := tk_nx hp hk
  have h2 := skp_b (t := t) hx.2.2
  intro z
  unfold nt at z ⊢
  split
  · show skp t n p < _
    omega
  · rename_i hn
    rw [if_neg hn] at z
    have := h z
    omega
