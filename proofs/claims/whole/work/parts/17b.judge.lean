/-! the class: a judge goes through all ways -/
def ST_ (M : Mm) (u : Nat) : Prop := (M.1[u]? = some (7, 10) ∧ M.1[u + 1]? = some (50, 10) ∧ M.1[u + 2]? = some (50, 10) ∧ M.1[u + 3]? = some (50, 10) ∧ M.1[u + 4]? = some (50, 4) ∧ M.1[u + 5]? = some (50, 4)) ∧ M.2.2.2 u 2 = some (u + 1) ∧ M.2.2.2 u 3 = some (u + 2) ∧ M.2.2.2 u 4 = some (u + 3) ∧ M.2.2.2 u 8 = some (u + 4) ∧ M.2.2.2 u 9 = some (u + 5)
def SV_ (M : Mm) (u : Nat) (Z : Nat → Nat) : Prop := SOK Z ∧ M.2.1 u 0 = nI (Z 0) ∧ M.2.1 u 1 = nI (Z 1) ∧ (∀ k, k < Z 1 → M.2.1 (u + 1) k = nI (Z (2 + 3 * k))) ∧ (∀ k, k < Z 1 → M.2.1 (u + 2) k = nI (Z (3 + 3 * k))) ∧ ∀ k, k < Z 1 → M.2.1 (u + 3) k = nI (Z (4 + 3 * k))
def SWd (M : Mm) (u : Nat) (Z : Nat → Nat) : Prop := KM M.1 M.2.2.2 ∧ ST_ M u ∧ SV_ M u Z ∧ u ≤ 60
/-- the frame of a judgement -/
def JF (u : Nat) (M M' : Mm) : Prop := M'.1 = M.1 ∧ M'.2.2.1 = M.2.2.1 ∧ M'.2.2.2 = M.2.2.2 ∧ (∀ i, i ≠ u → i ≠ u + 4 → i ≠ u + 5 → i ≠ 95 → i ≠ 96 → i ≠ 97 → M'.2.1 i = M.2.1 i) ∧ ∀ k, k ≠ 5 → k ≠ 6 → k ≠ 7 → M'.2.1 u k = M.2.1 u k
theorem JF.rf {u : Nat} {M : Mm} : JF u M M := ⟨rfl, rfl, rfl, fun _ _ _ _ _ _ _ => rfl, fun _ _ _ _ => rfl⟩
theorem JF.tr {u : Nat} {M M1 M2 : Mm} (h1 : JF u M M1) (h2 : JF u M1 M2) : JF u M M2 := ⟨h2.1.trans h1.1, h2.2.1.trans h1.2.1, h2.2.2.1.trans h1.2.2.1, fun i a b c d e f => (h2.2.2.2.1 i a b c d e f).trans (h1.2.2.2.1 i a b c d e f), fun k a b c => (h2.2.2.2.2 k a b c).trans (h1.2.2.2.2 k a b c)⟩
theorem JF.up {u : Nat} {M : Mm} {a k : Nat} {x : Int32} (ha : a = u + 4 ∨ a = u + 5 ∨ a = 95 ∨ a = 96 ∨ a = 97) (hu : a ≠ u) : JF u M (M.1, up2 M.2.1 a k x, M.2.2.1, M.2.2.2) :=
  ⟨rfl, rfl, rfl, fun i h1 h2 h3 h4 h5 h6 => up2_ne (by omega), fun j _ _ _ => mI_o (by omega) rfl⟩
theorem JF.upf {u : Nat} {M : Mm} {k : Nat} {x : Int32} (hk : k = 5 ∨ k = 6 ∨ k = 7) : JF u M (M.1, up2 M.2.1 u k x, M.2.2.1, M.2.2.2) :=
  ⟨rfl, rfl, rfl, fun i h1 h2 h3 h4 h5 h6 => up2_ne h1, fun j a b c => mI_o (by omega) rfl⟩
theorem JF.fl {u a : Nat} {M M' : Mm} (ha : a = u + 4 ∨ a = u + 5 ∨ a = 95 ∨ a = 96 ∨ a = 97) (hu : a ≠ u) (e1 : M'.1 = M.1) (e2 : M'.2.2.1 = M.2.2.1) (e3 : M'.2.2.2 = M.2.2.2) (e4 : ∀ i, i ≠ a → M'.2.1 i = M.2.1 i) : JF u M M' :=
  ⟨e1, e2, e3, fun i h1 h2 h3 h4 h5 h6 => e4 i (by omega), fun k _ _ _ => by rw [e4 u (fun q => hu q.symm)]⟩
theorem SWd.jf {u : Nat} {M M' : Mm} {Z : Nat → Nat} (W : SWd M u Z) (h : JF u M M') : SWd M' u Z := by
  obtain ⟨hK, ⟨hT, r1, r2, r3, r4, r5⟩, ⟨hZ, v0, v1, q1, q2, q3⟩, hu⟩ := W
  obtain ⟨e1, e2, e3, e4, e5⟩ := h
  refine ⟨by rw [e1, e3]; exact hK, ⟨by rw [e1]; exact hT, by rw [e3]; exact r1, by rw [e3]; exact r2, by rw [e3]; exact r3, by rw [e3]; exact r4, by rw [e3]; exact r5⟩, ⟨hZ, by rw [e5 0 (by decide) (by decide) (by decide)]; exact v0, by rw [e5 1 (by decide) (by decide) (by decide)]; exact v1, ?_, ?_, ?_⟩, hu⟩
  · rw [e4 (u + 1) (by omega) (by omega) (by omega) (by omega) (by omega) (by omega)]
    exact q1
  · rw [e4 (u + 2) (by omega) (by omega) (by omega) (by omega) (by omega) (by omega)]
    exact q2
  · rw [e4 (u + 3) (by omega) (by omega) (by omega) (by omega) (by omega) (by omega)]
    exact q3
/-- what has been recorded of the first w ways -/
def RC (M : Mm) (u : Nat) (Z : Nat → Nat) (w : Nat) : Prop := M.2.1 u 6 = nI (cntF (ftB Z) w) ∧ (∀ s, s < Z 0 → M.2.1 (u + 4) s = oI (loO Z s w) ∧ M.2.1 (u + 5) s = oI (hiO Z s w)) ∧ ∀ set, 1 ≤ set → set < 2 ^ Z 0 → ∀ h, h ≤ 36 → M.2.1 97 (set * 37 + h) = nI (cntF (tlB Z set h) w)
/-- a way laid out -/
def LO (M : Mm) (Z : Nat → Nat) (w : Nat) : Prop := (∀ s, s < Z 0 → M.2.1 95 s = nI (brw w s)) ∧ ∀ set, set < 2 ^ Z 0 → M.2.1 96 set = nI (tg w set)
theorem ntz_n : ∀ n, n < 5 → ∀ i, i < 2 ^ n → 0 < i → ntzF i < n := by decide
section CJ
variable {C : Ct} {M : Mm} {u w : Nat} {Z : Nat → Nat} {x : Int32}
theorem s_layOut (W : SWd M u Z) (hw : w < 2 ^ 31) : CG C 49 [.ref 94, .int (nI w), .int (nI (Z 0))] M (fun v M' => v = none ∧ M'.1 = M.1 ∧ M'.2.2.1 = M.2.2.1 ∧ M'.2.2.2 = M.2.2.2 ∧ (∀ i, i ≠ 95 → i ≠ 96 → M'.2.1 i = M.2.1 i) ∧ LO M' Z w) := by
  have hK0 := W.1
  have hz := W.2.2.1.1.1
  have hp := p2 hz.2
  have l2 : ∀ i, i ≤ 2 ^ Z 0 → 1 ≤ i → ∀ M1 a, M1.1 = M.1 → M1.2.2.1 = M.2.2.1 → M1.2.2.2 = M.2.2.2 → (∀ i, i ≠ 95 → i ≠ 96 → M1.2.1 i = M.2.1 i) → (∀ s, s < Z 0 → M1.2.1 95 s = nI (brw w s)) → (∀ set, set < i → M1.2.1 96 set = nI (tg w set)) → G C 49 (49, [some (.ref 94), some (.int (nI w)), some (.int (nI (Z 0))), a, some (.int (nI i))], [], [], M1) (fun v M' => v = none ∧ M'.1 = M.1 ∧ M'.2.2.1 = M.2.2.1 ∧ M'.2.2.2 = M.2.2.2 ∧ (∀ i, i ≠ 95 → i ≠ 96 → M'.2.1 i = M.2.1 i) ∧ LO M' Z w) := by
    refine upto (fun i hi ih h1 M1 a e1 e2 e3 e4 q1 q2 => ?_)
    have hK : KM M1.1 M1.2.2.2 := by rw [e1, e3]; exact hK0
    have hand : i &&& (i - 1) ≤ i - 1 := Nat.and_le_right
    have hnt : i < 2 ^ Z 0 → ntzF i < Z 0 := fun q => ntz_n (Z 0) (by omega) i q (by omega)
    refine G_S (pc := 49) f_49_49 rfl rfl rfl ?_
    refine G_ic (v := nI 1) (pc := 51) f_49_51 (by decide) ?_
    refine G_S (pc := 52) f_49_52 rfl rfl rfl ?_
    first | refine G_shl1 (pc := 53) f_49_53 (by omega) ?_ | refine G_S (pc := 53) f_49_53 rfl rfl rfl ?_
    refine G_jgeZ (pc := 54) f_49_54 rfl (by first | exact nI_toInt (by omega) | exact zI_toInt (by omega) (by omega) | rfl) (by first | exact nI_toInt (by omega) | exact zI_toInt (by omega) (by omega) | rfl) (fun b3 => ?_) (fun b3 => ?_)
    · refine G_rv (pc := 100) f_49_100 ?_
      exact ⟨rfl, e1, e2, e3, e4, q1, fun s hs => q2 s (by omega)⟩
    · refine G_S (pc := 57) f_49_57 rfl rfl rfl ?_
      refine G_bi (v := nI 16) (pc := 59) f_49_59 (by decide) ?_
      refine G_jgeZ (pc := 61) f_49_61 rfl (by first | exact nI_toInt (by omega) | exact zI_toInt (by omega) (by omega) | rfl) (by first | exact nI_toInt (by omega) | exact zI_toInt (by omega) (by omega) | rfl) (fun b4 => ?_) (fun b4 => ?_)
      · exfalso; omega
      · refine G_S (pc := 64) f_49_64 rfl rfl rfl ?_
        refine G_gR (pc := 65) f_49_65 (by decide) rfl (by first | assumption | exact hK.1 _ _ rfl) (by first | assumption | exact hK.2 _ _ _ rfl | (try dsimp only) <;> (repeat (first | exact up2_s | refine up2_o (by first | decide | omega) ?_)) <;> first | assumption | exact hK.2 _ _ _ rfl) ?_
        refine G_S (pc := 68) f_49_68 rfl rfl rfl ?_
        refine G_S (pc := 70) f_49_70 rfl rfl rfl ?_
        refine G_gR (pc := 71) f_49_71 (by decide) rfl (by first | assumption | exact hK.1 _ _ rfl) (by first | assumption | exact hK.2 _ _ _ rfl | (try dsimp only) <;> (repeat (first | exact up2_s | refine up2_o (by first | decide | omega) ?_)) <;> first | assumption | exact hK.2 _ _ _ rfl) ?_
        refine G_S (pc := 74) f_49_74 rfl rfl rfl ?_
        refine G_S (pc := 76) f_49_76 rfl rfl rfl ?_
        refine G_ic (v := nI 1) (pc := 78) f_49_78 (by decide) ?_
        first | refine G_subN (pc := 79) f_49_79 (by omega) ?_ | refine G_subZ (pc := 79) f_49_79 (by first | rfl | exact nI_zI _) (by first | rfl | exact nI_zI _) ?_ | refine G_S (pc := 79) f_49_79 rfl rfl rfl ?_
        first | refine G_andN (pc := 80) f_49_80 ?_ | refine G_andnN (pc := 80) f_49_80 ?_ | refine G_S (pc := 80) f_49_80 rfl rfl rfl ?_
        refine G_iaN (pc := 81) f_49_81 (by first | assumption | exact hK.1 _ _ rfl) (by omega) (by omega) (by first | assumption | exact q1 _ (by omega) | exact q2 _ (by omega) | exact q3 _ (by omega) | exact q4 _ (by omega) | exact q5 _ (by omega) | exact vh _ (by omega) | exact (vr _ (by omega)).1 | exact (vr _ (by omega)).2 | exact vw _ (by omega) | exact vf _ (by omega) (by omega) | exact mI_s | ((refine mI_o (by first | decide | omega) ?_); (repeat (refine mI_o (by first | decide | omega) ?_)); first | exact mI_s | assumption | exact q1 _ (by omega) | exact q2 _ (by omega) | exact q3 _ (by omega) | exact q4 _ (by omega) | exact q5 _ (by omega) | exact vh _ (by omega) | exact (vr _ (by omega)).1 | exact (vr _ (by omega)).2 | exact vw _ (by omega) | exact vf _ (by omega) (by omega)) | rfl) ?_
        refine G_S (pc := 82) f_49_82 rfl rfl rfl ?_
        refine G_gR (pc := 83) f_49_83 (by decide) rfl (by first | assumption | exact hK.1 _ _ rfl) (by first | assumption | exact hK.2 _ _ _ rfl | (try dsimp only) <;> (repeat (first | exact up2_s | refine up2_o (by first | decide | omega) ?_)) <;> first | assumption | exact hK.2 _ _ _ rfl) ?_
        refine G_S (pc := 86) f_49_86 rfl rfl rfl ?_
        refine G_CS (pc := 88) f_49_88 rfl rfl (by decide) rfl rfl ⟨Nat.le_of_ble_eq_true rfl, Nat.le_of_ble_eq_true rfl⟩ ?_
        refine CG.go (j_ntz (by omega) (by omega)) ?_
        refine G_iaN (pc := 91) f_49_91 (by first | assumption | exact hK.1 _ _ rfl) (by have := hnt (by omega); omega) (by omega) (by first | exact q1 _ (hnt (by omega)) | rfl) ?_
        first | refine G_addN (pc := 92) f_49_92 ?_ | refine G_addZ (pc := 92) f_49_92 (by first | rfl | exact nI_zI _) (by first | rfl | exact nI_zI _) ?_ | refine G_S (pc := 92) f_49_92 rfl rfl rfl ?_
        refine G_isN (pc := 93) f_49_93 (by first | assumption | exact hK.1 _ _ rfl) (by omega) (by omega) ?_
        first | refine G_inc1 (pc := 94) f_49_94 rfl ?_ | refine G_S (pc := 94) f_49_94 rfl rfl rfl ?_
        refine G_S (pc := 97) f_49_97 rfl rfl rfl ?_
        refine ih (by omega) (by omega) _ _ e1 e2 e3 (fun j a b => ?_) (fun s hs => (by (try dsimp only); exact up2_o (by omega) (q1 s hs))) (fun s hs => ?_)
        · dsimp only
          rw [up2_ne b]
          exact e4 j a b
        · by_cases q : s = i
          · subst q
            rw [← tg_low w s (by omega) (by omega)]
            exact (by (try dsimp only); exact up2_s)
          · exact (by (try dsimp only); exact up2_o (by omega) (q2 s (by omega)))
  have l1 : ∀ i, i ≤ Z 0 → ∀ M1, M1.1 = M.1 → M1.2.2.1 = M.2.2.1 → M1.2.2.2 = M.2.2.2 → (∀ i, i ≠ 95 → i ≠ 96 → M1.2.1 i = M.2.1 i) → (∀ s, s < i → M1.2.1 95 s = nI (brw w s)) → G C 49 (5, [some (.ref 94), some (.int (nI w)), some (.int (nI (Z 0))), some (.int (nI (w / 10 ^ i))), some (.int (nI i))], [], [], M1) (fun v M' => v = none ∧ M'.1 = M.1 ∧ M'.2.2.1 = M.2.2.1 ∧ M'.2.2.2 = M.2.2.2 ∧ (∀ i, i ≠ 95 → i ≠ 96 → M'.2.1 i = M.2.1 i) ∧ LO M' Z w) := by
    refine upto (fun i hi ih M1 e1 e2 e3 e4 q1 => ?_)
    have hK : KM M1.1 M1.2.2.2 := by rw [e1, e3]; exact hK0
    have hdv : w / 10 ^ i ≤ w := Nat.div_le_self _ _
    refine G_S (pc := 5) f_49_5 rfl rfl rfl ?_
    refine G_S (pc := 7) f_49_7 rfl rfl rfl ?_
    refine G_jgeZ (pc := 8) f_49_8 rfl (by first | exact nI_toInt (by omega) | exact zI_toInt (by omega) (by omega) | rfl) (by first | exact nI_toInt (by omega) | exact zI_toInt (by omega) (by omega) | rfl) (fun b1 => ?_) (fun b1 => ?_)
    · refine G_S (pc := 39) f_49_39 rfl rfl rfl ?_
      refine G_gR (pc := 40) f_49_40 (by decide) rfl (by first | assumption | exact hK.1 _ _ rfl) (by first | assumption | exact hK.2 _ _ _ rfl | (try dsimp only) <;> (repeat (first | exact up2_s | refine up2_o (by first | decide | omega) ?_)) <;> first | assumption | exact hK.2 _ _ _ rfl) ?_
      refine G_ic (v := nI 0) (pc := 43) f_49_43 (by decide) ?_
      refine G_ic (v := nI 0) (pc := 44) f_49_44 (by decide) ?_
      refine G_isN (pc := 45) f_49_45 (by first | assumption | exact hK.1 _ _ rfl) (by omega) (by omega) ?_
      refine G_ic (v := nI 1) (pc := 46) f_49_46 (by decide) ?_
      refine G_S (pc := 47) f_49_47 rfl rfl rfl ?_
      refine l2 1 (by omega) (by omega) _ _ e1 e2 e3 (fun j a b => ?_) (fun s hs => (by (try dsimp only); exact up2_o (by omega) (q1 s (by omega)))) (fun s hs => ?_)
      · dsimp only
        rw [up2_ne b]
        exact e4 j a b
      · rw [show s = 0 by omega]
        have e0 : tg w 0 = 0 := by simp [tg, tgN]
        rw [e0]
        exact (by (try dsimp only); exact up2_s)
    · refine G_S (pc := 11) f_49_11 rfl rfl rfl ?_
      refine G_ic (v := nI 4) (pc := 13) f_49_13 (by decide) ?_
      refine G_jgeZ (pc := 14) f_49_14 rfl (by first | exact nI_toInt (by omega) | exact zI_toInt (by omega) (by omega) | rfl) (by first | exact nI_toInt (by omega) | exact zI_toInt (by omega) (by omega) | rfl) (fun b2 => ?_) (fun b2 => ?_)
      · exfalso; omega
      · refine G_S (pc := 17) f_49_17 rfl rfl rfl ?_
        refine G_gR (pc := 18) f_49_18 (by decide) rfl (by first | assumption | exact hK.1 _ _ rfl) (by first | assumption | exact hK.2 _ _ _ rfl | (try dsimp only) <;> (repeat (first | exact up2_s | refine up2_o (by first | decide | omega) ?_)) <;> first | assumption | exact hK.2 _ _ _ rfl) ?_
        refine G_S (pc := 21) f_49_21 rfl rfl rfl ?_
        refine G_S (pc := 23) f_49_23 rfl rfl rfl ?_
        refine G_bi (v := nI 10) (pc := 24) f_49_24 (by decide) ?_
        refine G_remN (pc := 26) f_49_26 (by omega) (by omega) (by omega) ?_
        refine G_isN (pc := 27) f_49_27 (by first | assumption | exact hK.1 _ _ rfl) (by omega) (by omega) ?_
        refine G_S (pc := 28) f_49_28 rfl rfl rfl ?_
        refine G_bi (v := nI 10) (pc := 29) f_49_29 (by decide) ?_
        refine G_divN (pc := 31) f_49_31 (by omega) (by omega) (by omega) ?_
        refine G_S (pc := 32) f_49_32 rfl rfl rfl ?_
        first | refine G_inc1 (pc := 33) f_49_33 rfl ?_ | refine G_S (pc := 33) f_49_33 rfl rfl rfl ?_
        refine G_S (pc := 36) f_49_36 rfl rfl rfl ?_
        rw [Nat.div_div_eq_div_mul, ← Nat.pow_succ]
        refine ih (by omega) _ e1 e2 e3 (fun j a b => ?_) (fun s hs => ?_)
        · dsimp only
          rw [up2_ne a]
          exact e4 j a b
        · by_cases q : s = i
          · subst q
            exact (by (try dsimp only); exact up2_s)
          · exact (by (try dsimp only); exact up2_o (by omega) (q1 s (by omega)))
  refine CG_in (mL := 5) (hl := false) (lv := [some (.ref 94), some (.int (nI w)), some (.int (nI (Z 0))), none, none]) (ll := []) rfl rfl rfl ?_
  refine G_S (pc := 0) f_49_0 rfl rfl rfl ?_
  refine G_S (pc := 1) f_49_1 rfl rfl rfl ?_
  refine G_ic (v := nI 0) (pc := 2) f_49_2 (by decide) ?_
  refine G_S (pc := 3) f_49_3 rfl rfl rfl ?_
  have e0 : w = w / 10 ^ 0 := by rw [Nat.pow_zero, Nat.div_one]
  have e := l1 0 (Nat.zero_le _) M rfl rfl rfl (fun _ _ _ => rfl) (fun s hs => absurd hs (by omega))
  rw [← e0] at e
  exact e
theorem s_agrees (W : SWd M u Z) (hL : LO M Z w) : CG C 50 [.ref 94, .ref u] M (fun v M' => v = some (.int (b2i (ftB Z w = true))) ∧ M' = M) := by
  have hK := W.1
  obtain ⟨⟨t0, t1, t2, t3, t4, t5⟩, r1, r2, r3, r4, r5⟩ := W.2.1
  obtain ⟨hZ, v0, v1, q1, q2, q3⟩ := W.2.2.1
  have hu := W.2.2.2
  have hz0 := hZ.1
  have hz1 := hZ.2.1
  have hzf := hZ.2.2
  have hp := p2 hz0.2
  have loop : ∀ i, i ≤ Z 1 → ftN Z w i = true → ∀ a, G C 50 (2, [some (.ref 94), some (.ref u), some (.int (nI i)), a], [], [], M) (fun v M' => v = some (.int (b2i (ftB Z w = true))) ∧ M' = M) := by
    refine upto (fun i hi ih hf a => ?_)
    have hzi : i < Z 1 → Z (2 + 3 * i) ≤ 1 ∧ Z (3 + 3 * i) < 2 ^ Z 0 ∧ Z (4 + 3 * i) ≤ 99 := fun q => hzf i q
    have ht := tg_le w (Z (3 + 3 * i))
    refine G_S (pc := 2) f_50_2 rfl rfl rfl ?_
    refine G_S (pc := 3) f_50_3 rfl rfl rfl ?_
    refine G_gIv (pc := 4) f_50_4 (by decide) rfl (by decide) (by first | assumption | exact hK.1 _ _ rfl) (by first | assumption | exact mI_s | ((refine mI_o (by first | decide | omega) ?_); (repeat (refine mI_o (by first | decide | omega) ?_)); first | exact mI_s | assumption) | rfl) ?_
    refine G_jgeZ (pc := 7) f_50_7 rfl (by first | exact nI_toInt (by omega) | exact zI_toInt (by omega) (by omega) | rfl) (by first | exact nI_toInt (by omega) | exact zI_toInt (by omega) (by omega) | rfl) (fun b1 => ?_) (fun b1 => ?_)
    · refine G_ic (v := nI 1) (pc := 63) f_50_63 (by decide) ?_
      refine G_rz (pc := 64) f_50_64 (by first | exact Or.inl rfl | exact Or.inr rfl | exact b2i_01 _ | assumption) ?_
      refine ⟨?_, rfl⟩
      congr 2
      first
        | (rw [show i = Z 1 by omega] at hf
           exact (b2i_1 hf).symm)
        | (refine (b2i_0 (ftN_f (i := i + 1) (fun q => ?_) (by omega))).symm
           have q2 := (band.mp q).2
           first
             | (rw [decide_eq_true (show Z (4 + 3 * i) ≤ tg w (Z (3 + 3 * i)) by omega), decide_eq_false (show ¬ Z (2 + 3 * i) = 1 by omega)] at q2; cases q2)
             | (rw [decide_eq_false (show ¬ Z (4 + 3 * i) ≤ tg w (Z (3 + 3 * i)) by omega), decide_eq_true (show Z (2 + 3 * i) = 1 by omega)] at q2; cases q2))
    · obtain ⟨z1, z2, z3⟩ := hzi (by omega)
      refine G_S (pc := 10) f_50_10 rfl rfl rfl ?_
      refine G_gR (pc := 11) f_50_11 (by decide) rfl (by first | assumption | exact hK.1 _ _ rfl) (by first | assumption | exact hK.2 _ _ _ rfl | (try dsimp only) <;> (repeat (first | exact up2_s | refine up2_o (by first | decide | omega) ?_)) <;> first | assumption | exact hK.2 _ _ _ rfl) ?_
      refine G_S (pc := 14) f_50_14 rfl rfl rfl ?_
      refine G_gR (pc := 15) f_50_15 (by decide) rfl (by first | assumption | exact hK.1 _ _ rfl) (by first | assumption | exact hK.2 _ _ _ rfl | (try dsimp only) <;> (repeat (first | exact up2_s | refine up2_o (by first | decide | omega) ?_)) <;> first | assumption | exact hK.2 _ _ _ rfl) ?_
      refine G_S (pc := 18) f_50_18 rfl rfl rfl ?_
      refine G_iaN (pc := 19) f_50_19 (by first | assumption | exact hK.1 _ _ rfl) (by omega) (by omega) (by first | assumption | exact q1 _ (by omega) | exact q2 _ (by omega) | exact q3 _ (by omega) | exact q4 _ (by omega) | exact q5 _ (by omega) | exact vh _ (by omega) | exact (vr _ (by omega)).1 | exact (vr _ (by omega)).2 | exact vw _ (by omega) | exact vf _ (by omega) (by omega) | exact mI_s | ((refine mI_o (by first | decide | omega) ?_); (repeat (refine mI_o (by first | decide | omega) ?_)); first | exact mI_s | assumption | exact q1 _ (by omega) | exact q2 _ (by omega) | exact q3 _ (by omega) | exact q4 _ (by omega) | exact q5 _ (by omega) | exact vh _ (by omega) | exact (vr _ (by omega)).1 | exact (vr _ (by omega)).2 | exact vw _ (by omega) | exact vf _ (by omega) (by omega)) | rfl) ?_
      refine G_iaN (pc := 20) f_50_20 (by first | assumption | exact hK.1 _ _ rfl) (by omega) (by omega) (by first | exact hL.2 _ z2 | rfl) ?_
      refine G_S (pc := 21) f_50_21 rfl rfl rfl ?_
      refine G_gR (pc := 22) f_50_22 (by decide) rfl (by first | assumption | exact hK.1 _ _ rfl) (by first | assumption | exact hK.2 _ _ _ rfl | (try dsimp only) <;> (repeat (first | exact up2_s | refine up2_o (by first | decide | omega) ?_)) <;> first | assumption | exact hK.2 _ _ _ rfl) ?_
      refine G_S (pc := 25) f_50_25 rfl rfl rfl ?_
      refine G_iaN (pc := 26) f_50_26 (by first | assumption | exact hK.1 _ _ rfl) (by omega) (by omega) (by first | assumption | exact q1 _ (by omega) | exact q2 _ (by omega) | exact q3 _ (by omega) | exact q4 _ (by omega) | exact q5 _ (by omega) | exact vh _ (by omega) | exact (vr _ (by omega)).1 | exact (vr _ (by omega)).2 | exact vw _ (by omega) | exact vf _ (by omega) (by omega) | exact mI_s | ((refine mI_o (by first | decide | omega) ?_); (repeat (refine mI_o (by first | decide | omega) ?_)); first | exact mI_s | assumption | exact q1 _ (by omega) | exact q2 _ (by omega) | exact q3 _ (by omega) | exact q4 _ (by omega) | exact q5 _ (by omega) | exact vh _ (by omega) | exact (vr _ (by omega)).1 | exact (vr _ (by omega)).2 | exact vw _ (by omega) | exact vf _ (by omega) (by omega)) | rfl) ?_
      refine G_jltZ (pc := 27) f_50_27 rfl (by first | exact nI_toInt (by omega) | exact zI_toInt (by omega) (by omega) | rfl) (by first | exact nI_toInt (by omega) | exact zI_toInt (by omega) (by omega) | rfl) (fun b2 => ?_) (fun b2 => ?_)
      · refine G_ic (v := nI 0) (pc := 34) f_50_34 (by decide) ?_
        refine G_S (pc := 35) f_50_35 rfl rfl rfl ?_
        refine G_S (pc := 36) f_50_36 rfl rfl rfl ?_
        refine G_S (pc := 37) f_50_37 rfl rfl rfl ?_
        refine G_gR (pc := 38) f_50_38 (by decide) rfl (by first | assumption | exact hK.1 _ _ rfl) (by first | assumption | exact hK.2 _ _ _ rfl | (try dsimp only) <;> (repeat (first | exact up2_s | refine up2_o (by first | decide | omega) ?_)) <;> first | assumption | exact hK.2 _ _ _ rfl) ?_
        refine G_S (pc := 41) f_50_41 rfl rfl rfl ?_
        refine G_iaN (pc := 42) f_50_42 (by first | assumption | exact hK.1 _ _ rfl) (by omega) (by omega) (by first | assumption | exact q1 _ (by omega) | exact q2 _ (by omega) | exact q3 _ (by omega) | exact q4 _ (by omega) | exact q5 _ (by omega) | exact vh _ (by omega) | exact (vr _ (by omega)).1 | exact (vr _ (by omega)).2 | exact vw _ (by omega) | exact vf _ (by omega) (by omega) | exact mI_s | ((refine mI_o (by first | decide | omega) ?_); (repeat (refine mI_o (by first | decide | omega) ?_)); first | exact mI_s | assumption | exact q1 _ (by omega) | exact q2 _ (by omega) | exact q3 _ (by omega) | exact q4 _ (by omega) | exact q5 _ (by omega) | exact vh _ (by omega) | exact (vr _ (by omega)).1 | exact (vr _ (by omega)).2 | exact vw _ (by omega) | exact vf _ (by omega) (by omega)) | rfl) ?_
        refine G_ic (v := nI 1) (pc := 43) f_50_43 (by decide) ?_
        refine G_jneZ (pc := 44) f_50_44 rfl (by first | exact nI_toInt (by omega) | exact zI_toInt (by omega) (by omega) | rfl) (by first | exact nI_toInt (by omega) | exact zI_toInt (by omega) (by omega) | rfl) (fun b3 => ?_) (fun b3 => ?_)
        · refine G_ic (v := nI 0) (pc := 51) f_50_51 (by decide) ?_
          refine G_S (pc := 52) f_50_52 rfl rfl rfl ?_
          first | refine G_inc1 (pc := 57) f_50_57 rfl ?_ | refine G_S (pc := 57) f_50_57 rfl rfl rfl ?_
          refine G_S (pc := 60) f_50_60 rfl rfl rfl ?_
          refine ih (by omega) (band.mpr ⟨hf, ?_⟩) _
          first
            | (rw [decide_eq_true (show Z (4 + 3 * i) ≤ tg w (Z (3 + 3 * i)) by omega), decide_eq_true (show Z (2 + 3 * i) = 1 by omega)]; rfl)
            | (rw [decide_eq_false (show ¬ Z (4 + 3 * i) ≤ tg w (Z (3 + 3 * i)) by omega), decide_eq_false (show ¬ Z (2 + 3 * i) = 1 by omega)]; rfl)
        · refine G_ic (v := nI 1) (pc := 47) f_50_47 (by decide) ?_
          refine G_S (pc := 48) f_50_48 rfl rfl rfl ?_
          refine G_S (pc := 52) f_50_52 rfl rfl rfl ?_
          refine G_ic (v := nI 0) (pc := 55) f_50_55 (by decide) ?_
          refine G_rz (pc := 56) f_50_56 (by first | exact Or.inl rfl | exact Or.inr rfl | exact b2i_01 _ | assumption) ?_
          refine ⟨?_, rfl⟩
          congr 2
          first
            | (rw [show i = Z 1 by omega] at hf
               exact (b2i_1 hf).symm)
            | (refine (b2i_0 (ftN_f (i := i + 1) (fun q => ?_) (by omega))).symm
               have q2 := (band.mp q).2
               first
                 | (rw [decide_eq_true (show Z (4 + 3 * i) ≤ tg w (Z (3 + 3 * i)) by omega), decide_eq_false (show ¬ Z (2 + 3 * i) = 1 by omega)] at q2; cases q2)
                 | (rw [decide_eq_false (show ¬ Z (4 + 3 * i) ≤ tg w (Z (3 + 3 * i)) by omega), decide_eq_true (show Z (2 + 3 * i) = 1 by omega)] at q2; cases q2))
      · refine G_ic (v := nI 1) (pc := 30) f_50_30 (by decide) ?_
        refine G_S (pc := 31) f_50_31 rfl rfl rfl ?_
        refine G_S (pc := 35) f_50_35 rfl rfl rfl ?_
        refine G_S (pc := 36) f_50_36 rfl rfl rfl ?_
        refine G_S (pc := 37) f_50_37 rfl rfl rfl ?_
        refine G_gR (pc := 38) f_50_38 (by decide) rfl (by first | assumption | exact hK.1 _ _ rfl) (by first | assumption | exact hK.2 _ _ _ rfl | (try dsimp only) <;> (repeat (first | exact up2_s | refine up2_o (by first | decide | omega) ?_)) <;> first | assumption | exact hK.2 _ _ _ rfl) ?_
        refine G_S (pc := 41) f_50_41 rfl rfl rfl ?_
        refine G_iaN (pc := 42) f_50_42 (by first | assumption | exact hK.1 _ _ rfl) (by omega) (by omega) (by first | assumption | exact q1 _ (by omega) | exact q2 _ (by omega) | exact q3 _ (by omega) | exact q4 _ (by omega) | exact q5 _ (by omega) | exact vh _ (by omega) | exact (vr _ (by omega)).1 | exact (vr _ (by omega)).2 | exact vw _ (by omega) | exact vf _ (by omega) (by omega) | exact mI_s | ((refine mI_o (by first | decide | omega) ?_); (repeat (refine mI_o (by first | decide | omega) ?_)); first | exact mI_s | assumption | exact q1 _ (by omega) | exact q2 _ (by omega) | exact q3 _ (by omega) | exact q4 _ (by omega) | exact q5 _ (by omega) | exact vh _ (by omega) | exact (vr _ (by omega)).1 | exact (vr _ (by omega)).2 | exact vw _ (by omega) | exact vf _ (by omega) (by omega)) | rfl) ?_
        refine G_ic (v := nI 1) (pc := 43) f_50_43 (by decide) ?_
        refine G_jneZ (pc := 44) f_50_44 rfl (by first | exact nI_toInt (by omega) | exact zI_toInt (by omega) (by omega) | rfl) (by first | exact nI_toInt (by omega) | exact zI_toInt (by omega) (by omega) | rfl) (fun b3 => ?_) (fun b3 => ?_)
        · refine G_ic (v := nI 0) (pc := 51) f_50_51 (by decide) ?_
          refine G_S (pc := 52) f_50_52 rfl rfl rfl ?_
          refine G_ic (v := nI 0) (pc := 55) f_50_55 (by decide) ?_
          refine G_rz (pc := 56) f_50_56 (by first | exact Or.inl rfl | exact Or.inr rfl | exact b2i_01 _ | assumption) ?_
          refine ⟨?_, rfl⟩
          congr 2
          first
            | (rw [show i = Z 1 by omega] at hf
               exact (b2i_1 hf).symm)
            | (refine (b2i_0 (ftN_f (i := i + 1) (fun q => ?_) (by omega))).symm
               have q2 := (band.mp q).2
               first
                 | (rw [decide_eq_true (show Z (4 + 3 * i) ≤ tg w (Z (3 + 3 * i)) by omega), decide_eq_false (show ¬ Z (2 + 3 * i) = 1 by omega)] at q2; cases q2)
                 | (rw [decide_eq_false (show ¬ Z (4 + 3 * i) ≤ tg w (Z (3 + 3 * i)) by omega), decide_eq_true (show Z (2 + 3 * i) = 1 by omega)] at q2; cases q2))
        · refine G_ic (v := nI 1) (pc := 47) f_50_47 (by decide) ?_
          refine G_S (pc := 48) f_50_48 rfl rfl rfl ?_
          refine G_S (pc := 52) f_50_52 rfl rfl rfl ?_
          first | refine G_inc1 (pc := 57) f_50_57 rfl ?_ | refine G_S (pc := 57) f_50_57 rfl rfl rfl ?_
          refine G_S (pc := 60) f_50_60 rfl rfl rfl ?_
          refine ih (by omega) (band.mpr ⟨hf, ?_⟩) _
          first
            | (rw [decide_eq_true (show Z (4 + 3 * i) ≤ tg w (Z (3 + 3 * i)) by omega), decide_eq_true (show Z (2 + 3 * i) = 1 by omega)]; rfl)
            | (rw [decide_eq_false (show ¬ Z (4 + 3 * i) ≤ tg w (Z (3 + 3 * i)) by omega), decide_eq_false (show ¬ Z (2 + 3 * i) = 1 by omega)]; rfl)
  refine CG_in (mL := 4) (hl := false) (lv := [some (.ref 94), some (.ref u), none, none]) (ll := []) rfl rfl rfl ?_
  refine G_ic (v := nI 0) (pc := 0) f_50_0 (by decide) ?_
  refine G_S (pc := 1) f_50_1 rfl rfl rfl ?_
  exact loop 0 (Nat.zero_le _) rfl _
theorem s_record (W : SWd M u Z) (hL : LO M Z w) (hR : RC M u Z w) (hf : ftB Z w = true) (hw : w < 10000) : CG C 51 [.ref 94, .ref u] M (fun v M' => v = none ∧ JF u M M' ∧ RC M' u Z (w + 1)) := by
  have hu := W.2.2.2
  have hz0 := W.2.2.1.1.1
  have hp := p2 hz0.2
  have hcw := cntF_le (U := ftB Z) w
  have l2 : ∀ i, i ≤ 2 ^ Z 0 → 1 ≤ i → ∀ M1 a, SWd M1 u Z → JF u M M1 → LO M1 Z w → M1.2.1 u 6 = nI (cntF (ftB Z) (w + 1)) → (∀ s, s < Z 0 → M1.2.1 (u + 4) s = oI (loO Z s (w + 1)) ∧ M1.2.1 (u + 5) s = oI (hiO Z s (w + 1))) → (∀ set, 1 ≤ set → set < i → ∀ h, h ≤ 36 → M1.2.1 97 (set * 37 + h) = nI (cntF (tlB Z set h) (w + 1))) → (∀ set, i ≤ set → set < 2 ^ Z 0 → ∀ h, h ≤ 36 → M1.2.1 97 (set * 37 + h) = nI (cntF (tlB Z set h) w)) → G C 51 (96, [some (.ref 94), some (.ref u), a, some (.int (nI i))], [], [], M1) (fun v M' => v = none ∧ JF u M M' ∧ RC M' u Z (w + 1)) := by
    refine upto (fun i hi ih h1 M1 a W1 hF hL1 e6 els g1 g2 => ?_)
    have hK := W1.1
    obtain ⟨⟨t0, t1, t2, t3, t4, t5⟩, r1, r2, r3, r4, r5⟩ := W1.2.1
    obtain ⟨hZ, v0, v1, q1, q2, q3⟩ := W1.2.2.1
    have hu := W1.2.2.2
    have hz0 := hZ.1
    have hz1 := hZ.2.1
    have hzf := hZ.2.2
    have ht := tg_le w i
    have q4 : i < 2 ^ Z 0 → M1.2.1 97 (i * 37 + tg w i) = nI (cntF (tlB Z i (tg w i)) w) := fun q => g2 i (Nat.le_refl i) q _ ht
    have hcc := cntF_le (U := tlB Z i (tg w i)) w
    refine G_S (pc := 96) f_51_96 rfl rfl rfl ?_
    refine G_ic (v := nI 1) (pc := 97) f_51_97 (by decide) ?_
    refine G_S (pc := 98) f_51_98 rfl rfl rfl ?_
    refine G_gIv (pc := 99) f_51_99 (by decide) rfl (by decide) (by first | assumption | exact hK.1 _ _ rfl) (by first | assumption | exact mI_s | ((refine mI_o (by first | decide | omega) ?_); (repeat (refine mI_o (by first | decide | omega) ?_)); first | exact mI_s | assumption) | rfl) ?_
    first | refine G_shl1 (pc := 102) f_51_102 (by omega) ?_ | refine G_S (pc := 102) f_51_102 rfl rfl rfl ?_
    refine G_jgeZ (pc := 103) f_51_103 rfl (by first | exact nI_toInt (by omega) | exact zI_toInt (by omega) (by omega) | rfl) (by first | exact nI_toInt (by omega) | exact zI_toInt (by omega) (by omega) | rfl) (fun b4 => ?_) (fun b4 => ?_)
    · refine G_rv (pc := 132) f_51_132 ?_
      exact ⟨rfl, hF, e6, els, fun set a1 a2 h a3 => g1 set a1 (by omega) h a3⟩
    · refine G_S (pc := 106) f_51_106 rfl rfl rfl ?_
      refine G_gR (pc := 107) f_51_107 (by decide) rfl (by first | assumption | exact hK.1 _ _ rfl) (by first | assumption | exact hK.2 _ _ _ rfl | (try dsimp only) <;> (repeat (first | exact up2_s | refine up2_o (by first | decide | omega) ?_)) <;> first | assumption | exact hK.2 _ _ _ rfl) ?_
      refine G_S (pc := 110) f_51_110 rfl rfl rfl ?_
      refine G_bi (v := nI 37) (pc := 111) f_51_111 (by decide) ?_
      first | refine G_mulN (pc := 113) f_51_113 ?_ | refine G_mulZ (pc := 113) f_51_113 (by first | rfl | exact nI_zI _) (by first | rfl | exact nI_zI _) ?_ | refine G_S (pc := 113) f_51_113 rfl rfl rfl ?_
      refine G_S (pc := 114) f_51_114 rfl rfl rfl ?_
      refine G_gR (pc := 115) f_51_115 (by decide) rfl (by first | assumption | exact hK.1 _ _ rfl) (by first | assumption | exact hK.2 _ _ _ rfl | (try dsimp only) <;> (repeat (first | exact up2_s | refine up2_o (by first | decide | omega) ?_)) <;> first | assumption | exact hK.2 _ _ _ rfl) ?_
      refine G_S (pc := 118) f_51_118 rfl rfl rfl ?_
      refine G_iaN (pc := 119) f_51_119 (by first | assumption | exact hK.1 _ _ rfl) (by omega) (by omega) (by first | exact hL1.2 _ (by omega) | rfl) ?_
      first | refine G_addN (pc := 120) f_51_120 ?_ | refine G_addZ (pc := 120) f_51_120 (by first | rfl | exact nI_zI _) (by first | rfl | exact nI_zI _) ?_ | refine G_S (pc := 120) f_51_120 rfl rfl rfl ?_
      refine G_S (pc := 121) f_51_121 rfl rfl rfl ?_
      refine G_iaN (pc := 122) f_51_122 (by first | assumption | exact hK.1 _ _ rfl) (by omega) (by omega) (by first | exact q4 (by omega) | rfl) ?_
      refine G_ic (v := nI 1) (pc := 123) f_51_123 (by decide) ?_
      first | refine G_addN (pc := 124) f_51_124 ?_ | refine G_addZ (pc := 124) f_51_124 (by first | rfl | exact nI_zI _) (by first | rfl | exact nI_zI _) ?_ | refine G_S (pc := 124) f_51_124 rfl rfl rfl ?_
      refine G_isN (pc := 125) f_51_125 (by first | assumption | exact hK.1 _ _ rfl) (by omega) (by omega) ?_
      first | refine G_inc1 (pc := 126) f_51_126 rfl ?_ | refine G_S (pc := 126) f_51_126 rfl rfl rfl ?_
      refine G_S (pc := 129) f_51_129 rfl rfl rfl ?_
      have hF3 : JF u M1 _ := JF.up (u := u) (a := 97) (k := i * 37 + tg w i) (x := nI (cntF (tlB Z i (tg w i)) w + 1)) (by omega) (by omega)
      refine ih (by omega) (by omega) _ _ (W1.jf hF3) (hF.tr hF3) ⟨fun s hs => (by (try dsimp only); exact up2_o (by omega) (hL1.1 s hs)), fun s hs => (by (try dsimp only); exact up2_o (by omega) (hL1.2 s hs))⟩ (by (try dsimp only); exact up2_o (by omega) e6) (fun s hs => ⟨(by (try dsimp only); exact up2_o (by omega) (els s hs).1), (by (try dsimp only); exact up2_o (by omega) (els s hs).2)⟩) (fun set a1 a2 h a3 => ?_) (fun set a1 a2 h a3 => (by (try dsimp only); exact up2_o (by omega) (g2 set (by omega) a2 h a3)))
      by_cases q : set = i
      · subst q
        by_cases q2 : h = tg w set
        · subst q2
          rw [cntF, if_pos (show tlB Z set (tg w set) w = true from band.mpr ⟨hf, decide_eq_true rfl⟩)]
          exact (by (try dsimp only); exact up2_s)
        · rw [cntF, if_neg (show ¬ tlB Z set h w = true from fun z => q2 (of_decide_eq_true (band.mp z).2).symm)]
          exact (by (try dsimp only); exact up2_o (by omega) (g2 set (Nat.le_refl set) (by omega) h a3))
      · exact (by (try dsimp only); exact up2_o (by omega) (g1 set a1 (by omega) h a3))
  have l1 : ∀ i, i ≤ Z 0 → ∀ M1, SWd M1 u Z → JF u M M1 → LO M1 Z w → M1.2.1 u 6 = nI (cntF (ftB Z) (w + 1)) → (∀ s, s < i → M1.2.1 (u + 4) s = oI (loO Z s (w + 1)) ∧ M1.2.1 (u + 5) s = oI (hiO Z s (w + 1))) → (∀ s, i ≤ s → s < Z 0 → M1.2.1 (u + 4) s = oI (loO Z s w) ∧ M1.2.1 (u + 5) s = oI (hiO Z s w)) → (∀ set, 1 ≤ set → set < 2 ^ Z 0 → ∀ h, h ≤ 36 → M1.2.1 97 (set * 37 + h) = nI (cntF (tlB Z set h) w)) → G C 51 (25, [some (.ref 94), some (.ref u), some (.int ((b2i (cntF (ftB Z) w = 0)))), some (.int (nI i))], [], [], M1) (fun v M' => v = none ∧ JF u M M' ∧ RC M' u Z (w + 1)) := by
    refine upto (fun i hi ih M1 W1 hF hL1 e6 g1 g2 g3 => ?_)
    have hK := W1.1
    obtain ⟨⟨t0, t1, t2, t3, t4, t5⟩, r1, r2, r3, r4, r5⟩ := W1.2.1
    obtain ⟨hZ, v0, v1, q1, q2, q3⟩ := W1.2.2.1
    have hu := W1.2.2.2
    have hz0 := hZ.1
    have hz1 := hZ.2.1
    have hzf := hZ.2.2
    have hb := brw_le w i
    have hlc := lo_c (Z := Z) (s := i) w
    have hq5 : i < Z 0 → M1.2.1 (u + 4) i = oI (loO Z i w) ∧ M1.2.1 (u + 5) i = oI (hiO Z i w) := fun q => g2 i (Nat.le_refl i) q
    have hq6 : i < Z 0 → M1.2.1 95 i = nI (brw w i) := fun q => hL1.1 i q
    have fin : ∀ x y, i < Z 0 → x = oI (loO Z i (w + 1)) → y = oI (hiO Z i (w + 1)) → G C 51 (25, [some (.ref 94), some (.ref u), some (.int ((b2i (cntF (ftB Z) w = 0)))), some (.int (nI (i + 1)))], [], [], (M1.1, up2 (up2 M1.2.1 (u + 4) i x) (u + 5) i y, M1.2.2.1, M1.2.2.2)) (fun v M' => v = none ∧ JF u M M' ∧ RC M' u Z (w + 1)) := by
      intro x y hi2 hx hy
      subst hx hy
      have hF3 : JF u M1 (M1.1, up2 (up2 M1.2.1 (u + 4) i (oI (loO Z i (w + 1)))) (u + 5) i (oI (hiO Z i (w + 1))), M1.2.2.1, M1.2.2.2) := (JF.up (u := u) (a := u + 4) (k := i) (x := oI (loO Z i (w + 1))) (by omega) (by omega)).tr (JF.up (u := u) (a := u + 5) (k := i) (x := oI (hiO Z i (w + 1))) (by omega) (by omega))
      refine ih hi2 _ (W1.jf hF3) (hF.tr hF3) ⟨fun s hs => (by (try dsimp only); exact up2_o (by omega) (by (try dsimp only); exact up2_o (by omega) (hL1.1 s hs))), fun s hs => (by (try dsimp only); exact up2_o (by omega) (by (try dsimp only); exact up2_o (by omega) (hL1.2 s hs)))⟩ (by (try dsimp only); exact up2_o (by omega) (by (try dsimp only); exact up2_o (by omega) e6)) (fun s hs => ?_) (fun s a1 a2 => ⟨(by (try dsimp only); exact up2_o (by omega) (by (try dsimp only); exact up2_o (by omega) (g2 s (by omega) a2).1)), (by (try dsimp only); exact up2_o (by omega) (by (try dsimp only); exact up2_o (by omega) (g2 s (by omega) a2).2))⟩) (fun set a1 a2 h a3 => (by (try dsimp only); exact up2_o (by omega) (by (try dsimp only); exact up2_o (by omega) (g3 set a1 a2 h a3))))
      by_cases q : s = i
      · subst q
        exact ⟨(by (try dsimp only); exact up2_o (by omega) (by (try dsimp only); exact up2_s)), (by (try dsimp only); exact up2_s)⟩
      · exact ⟨(by (try dsimp only); exact up2_o (by omega) (by (try dsimp only); exact up2_o (by omega) (g1 s (by omega)).1)), (by (try dsimp only); exact up2_o (by omega) (by (try dsimp only); exact up2_o (by omega) (g1 s (by omega)).2))⟩
    refine G_S (pc := 25) f_51_25 rfl rfl rfl ?_
    refine G_S (pc := 26) f_51_26 rfl rfl rfl ?_
    refine G_gIv (pc := 27) f_51_27 (by decide) rfl (by decide) (by first | assumption | exact hK.1 _ _ rfl) (by first | assumption | exact mI_s | ((refine mI_o (by first | decide | omega) ?_); (repeat (refine mI_o (by first | decide | omega) ?_)); first | exact mI_s | assumption) | rfl) ?_
    refine G_jgeZ (pc := 30) f_51_30 rfl (by first | exact nI_toInt (by omega) | exact zI_toInt (by omega) (by omega) | rfl) (by first | exact nI_toInt (by omega) | exact zI_toInt (by omega) (by omega) | rfl) (fun b2 => ?_) (fun b2 => ?_)
    · refine G_ic (v := nI 1) (pc := 94) f_51_94 (by decide) ?_
      refine G_S (pc := 95) f_51_95 rfl rfl rfl ?_
      exact l2 1 (by omega) (by omega) M1 _ W1 hF hL1 e6 (fun s hs => g1 s (by omega)) (fun set a1 a2 => absurd a2 (by omega)) (fun set a1 a2 => g3 set a1 a2)
    · have hq5 := hq5 (by omega)
      have hq6 := hq6 (by omega)
      refine G_S (pc := 33) f_51_33 rfl rfl rfl ?_
      refine G_gR (pc := 34) f_51_34 (by decide) rfl (by first | assumption | exact hK.1 _ _ rfl) (by first | assumption | exact hK.2 _ _ _ rfl | (try dsimp only) <;> (repeat (first | exact up2_s | refine up2_o (by first | decide | omega) ?_)) <;> first | assumption | exact hK.2 _ _ _ rfl) ?_
      refine G_S (pc := 37) f_51_37 rfl rfl rfl ?_
      refine G_S (pc := 38) f_51_38 rfl rfl rfl ?_
      first | refine G_bEq (pc := 39) f_51_39 rfl (fun b3 => ?_) (fun b3 => ?_) | refine G_zeqZ (pc := 39) f_51_39 rfl (by first | exact nI_toInt (by omega) | exact zI_toInt (by omega) (by omega) | rfl) (fun b3 => ?_) (fun b3 => ?_)
      · obtain ⟨a, b, n1, n2, n3, n4⟩ := hlc.2 b3
        rw [n1, n2] at hq5
        have hq8 : M1.2.1 (u + 4) i = nI a := hq5.1
        have hq7 : M1.2.1 (u + 5) i = nI b := hq5.2
        refine G_S (pc := 51) f_51_51 rfl rfl rfl ?_
        refine G_gR (pc := 52) f_51_52 (by decide) rfl (by first | assumption | exact hK.1 _ _ rfl) (by first | assumption | exact hK.2 _ _ _ rfl | (try dsimp only) <;> (repeat (first | exact up2_s | refine up2_o (by first | decide | omega) ?_)) <;> first | assumption | exact hK.2 _ _ _ rfl) ?_
        refine G_S (pc := 55) f_51_55 rfl rfl rfl ?_
        refine G_iaN (pc := 56) f_51_56 (by first | assumption | exact hK.1 _ _ rfl) (by omega) (by omega) (by first | exact (by assumption) | rfl) ?_
        refine G_S (pc := 57) f_51_57 rfl rfl rfl ?_
        refine G_gR (pc := 58) f_51_58 (by decide) rfl (by first | assumption | exact hK.1 _ _ rfl) (by first | assumption | exact hK.2 _ _ _ rfl | (try dsimp only) <;> (repeat (first | exact up2_s | refine up2_o (by first | decide | omega) ?_)) <;> first | assumption | exact hK.2 _ _ _ rfl) ?_
        refine G_S (pc := 61) f_51_61 rfl rfl rfl ?_
        refine G_iaN (pc := 62) f_51_62 (by first | assumption | exact hK.1 _ _ rfl) (by omega) (by omega) (by first | exact (by assumption) | rfl) ?_
        first | refine G_minN (pc := 63) f_51_63 rfl rfl (by omega) (by omega) ?_ | refine G_minZ (pc := 63) f_51_63 rfl rfl (by first | exact nI_toInt (by omega) | exact zI_toInt (by omega) (by omega) | rfl) (by first | exact nI_toInt (by omega) | exact zI_toInt (by omega) (by omega) | rfl) ?_
        refine G_isN (pc := 66) f_51_66 (by first | assumption | exact hK.1 _ _ rfl) (by omega) (by omega) ?_
        refine G_S (pc := 67) f_51_67 rfl rfl rfl ?_
        refine G_gR (pc := 68) f_51_68 (by decide) rfl (by first | assumption | exact hK.1 _ _ rfl) (by first | assumption | exact hK.2 _ _ _ rfl | (try dsimp only) <;> (repeat (first | exact up2_s | refine up2_o (by first | decide | omega) ?_)) <;> first | assumption | exact hK.2 _ _ _ rfl) ?_
        refine G_S (pc := 71) f_51_71 rfl rfl rfl ?_
        refine G_S (pc := 72) f_51_72 rfl rfl rfl ?_
        refine G_gR (pc := 73) f_51_73 (by decide) rfl (by first | assumption | exact hK.1 _ _ rfl) (by first | assumption | exact hK.2 _ _ _ rfl | (try dsimp only) <;> (repeat (first | exact up2_s | refine up2_o (by first | decide | omega) ?_)) <;> first | assumption | exact hK.2 _ _ _ rfl) ?_
        refine G_S (pc := 76) f_51_76 rfl rfl rfl ?_
        refine G_iaN (pc := 77) f_51_77 (by first | assumption | exact hK.1 _ _ rfl) (by omega) (by omega) (by first | exact (mI_o (by omega) hq7) | rfl) ?_
        refine G_S (pc := 78) f_51_78 rfl rfl rfl ?_
        refine G_gR (pc := 79) f_51_79 (by decide) rfl (by first | assumption | exact hK.1 _ _ rfl) (by first | assumption | exact hK.2 _ _ _ rfl | (try dsimp only) <;> (repeat (first | exact up2_s | refine up2_o (by first | decide | omega) ?_)) <;> first | assumption | exact hK.2 _ _ _ rfl) ?_
        refine G_S (pc := 82) f_51_82 rfl rfl rfl ?_
        refine G_iaN (pc := 83) f_51_83 (by first | assumption | exact hK.1 _ _ rfl) (by omega) (by omega) (by first | exact (mI_o (by omega) hq6) | rfl) ?_
        first | refine G_maxN (pc := 84) f_51_84 rfl rfl (by omega) (by omega) ?_ | refine G_maxZ (pc := 84) f_51_84 rfl rfl (by first | exact nI_toInt (by omega) | exact zI_toInt (by omega) (by omega) | rfl) (by first | exact nI_toInt (by omega) | exact zI_toInt (by omega) (by omega) | rfl) ?_
        refine G_isN (pc := 87) f_51_87 (by first | assumption | exact hK.1 _ _ rfl) (by omega) (by omega) ?_
        first | refine G_inc1 (pc := 88) f_51_88 rfl ?_ | refine G_S (pc := 88) f_51_88 rfl rfl rfl ?_
        refine G_S (pc := 91) f_51_91 rfl rfl rfl ?_
        refine fin _ _ (by omega) ?_ ?_
        · rw [loO, if_pos hf, n1]
          rfl
        · rw [hiO, if_pos hf, n2]
          first
            | rfl
            | (rw [show max (-1) ((brw w i : Nat) : Int) = ((brw w i : Nat) : Int) by omega, ← nI_zI]
               rfl)
      · obtain ⟨n1, n2⟩ := hlc.1 b3
        rw [n1, n2] at hq5
        have hq7 : M1.2.1 (u + 5) i = zI (-1) := hq5.2
        refine G_S (pc := 42) f_51_42 rfl rfl rfl ?_
        refine G_gR (pc := 43) f_51_43 (by decide) rfl (by first | assumption | exact hK.1 _ _ rfl) (by first | assumption | exact hK.2 _ _ _ rfl | (try dsimp only) <;> (repeat (first | exact up2_s | refine up2_o (by first | decide | omega) ?_)) <;> first | assumption | exact hK.2 _ _ _ rfl) ?_
        refine G_S (pc := 46) f_51_46 rfl rfl rfl ?_
        refine G_iaN (pc := 47) f_51_47 (by first | assumption | exact hK.1 _ _ rfl) (by omega) (by omega) (by first | exact (by assumption) | rfl) ?_
        refine G_S (pc := 48) f_51_48 rfl rfl rfl ?_
        refine G_isN (pc := 66) f_51_66 (by first | assumption | exact hK.1 _ _ rfl) (by omega) (by omega) ?_
        refine G_S (pc := 67) f_51_67 rfl rfl rfl ?_
        refine G_gR (pc := 68) f_51_68 (by decide) rfl (by first | assumption | exact hK.1 _ _ rfl) (by first | assumption | exact hK.2 _ _ _ rfl | (try dsimp only) <;> (repeat (first | exact up2_s | refine up2_o (by first | decide | omega) ?_)) <;> first | assumption | exact hK.2 _ _ _ rfl) ?_
        refine G_S (pc := 71) f_51_71 rfl rfl rfl ?_
        refine G_S (pc := 72) f_51_72 rfl rfl rfl ?_
        refine G_gR (pc := 73) f_51_73 (by decide) rfl (by first | assumption | exact hK.1 _ _ rfl) (by first | assumption | exact hK.2 _ _ _ rfl | (try dsimp only) <;> (repeat (first | exact up2_s | refine up2_o (by first | decide | omega) ?_)) <;> first | assumption | exact hK.2 _ _ _ rfl) ?_
        refine G_S (pc := 76) f_51_76 rfl rfl rfl ?_
        refine G_iaN (pc := 77) f_51_77 (by first | assumption | exact hK.1 _ _ rfl) (by omega) (by omega) (by first | exact (mI_o (by omega) hq7) | rfl) ?_
        refine G_S (pc := 78) f_51_78 rfl rfl rfl ?_
        refine G_gR (pc := 79) f_51_79 (by decide) rfl (by first | assumption | exact hK.1 _ _ rfl) (by first | assumption | exact hK.2 _ _ _ rfl | (try dsimp only) <;> (repeat (first | exact up2_s | refine up2_o (by first | decide | omega) ?_)) <;> first | assumption | exact hK.2 _ _ _ rfl) ?_
        refine G_S (pc := 82) f_51_82 rfl rfl rfl ?_
        refine G_iaN (pc := 83) f_51_83 (by first | assumption | exact hK.1 _ _ rfl) (by omega) (by omega) (by first | exact (mI_o (by omega) hq6) | rfl) ?_
        first | refine G_maxN (pc := 84) f_51_84 rfl rfl (by omega) (by omega) ?_ | refine G_maxZ (pc := 84) f_51_84 rfl rfl (by first | exact nI_toInt (by omega) | exact zI_toInt (by omega) (by omega) | rfl) (by first | exact nI_toInt (by omega) | exact zI_toInt (by omega) (by omega) | rfl) ?_
        refine G_isN (pc := 87) f_51_87 (by first | assumption | exact hK.1 _ _ rfl) (by omega) (by omega) ?_
        first | refine G_inc1 (pc := 88) f_51_88 rfl ?_ | refine G_S (pc := 88) f_51_88 rfl rfl rfl ?_
        refine G_S (pc := 91) f_51_91 rfl rfl rfl ?_
        refine fin _ _ (by omega) ?_ ?_
        · rw [loO, if_pos hf, n1]
          rfl
        · rw [hiO, if_pos hf, n2]
          first
            | rfl
            | (rw [show max (-1) ((brw w i : Nat) : Int) = ((brw w i : Nat) : Int) by omega, ← nI_zI]
               rfl)
  have e7 : cntF (ftB Z) (w + 1) = cntF (ftB Z) w + 1 := by rw [cntF, if_pos hf]
  obtain ⟨e6, els, etl⟩ := hR
  have hK := W.1
  obtain ⟨⟨t0, t1, t2, t3, t4, t5⟩, r1, r2, r3, r4, r5⟩ := W.2.1
  obtain ⟨hZ, v0, v1, q1, q2, q3⟩ := W.2.2.1
  have hu := W.2.2.2
  have hz0 := hZ.1
  have hz1 := hZ.2.1
  have hzf := hZ.2.2
  refine CG_in (mL := 4) (hl := false) (lv := [some (.ref 94), some (.ref u), none, none]) (ll := []) rfl rfl rfl ?_
  refine G_S (pc := 0) f_51_0 rfl rfl rfl ?_
  refine G_gIv (pc := 1) f_51_1 (by decide) rfl (by decide) (by first | assumption | exact hK.1 _ _ rfl) (by first | assumption | exact mI_s | ((refine mI_o (by first | decide | omega) ?_); (repeat (refine mI_o (by first | decide | omega) ?_)); first | exact mI_s | assumption) | rfl) ?_
  first | refine G_bNe (pc := 4) f_51_4 rfl (fun b1 => ?_) (fun b1 => ?_) | refine G_zneZ (pc := 4) f_51_4 rfl (by first | exact nI_toInt (by omega) | exact zI_toInt (by omega) (by omega) | rfl) (fun b1 => ?_) (fun b1 => ?_)
  · refine G_ic (v := nI 0) (pc := 11) f_51_11 (by decide) ?_
    refine G_S (pc := 12) f_51_12 rfl rfl rfl ?_
    refine G_S (pc := 13) f_51_13 rfl rfl rfl ?_
    refine G_S (pc := 14) f_51_14 rfl rfl rfl ?_
    refine G_gIv (pc := 15) f_51_15 (by decide) rfl (by decide) (by first | assumption | exact hK.1 _ _ rfl) (by first | assumption | exact mI_s | ((refine mI_o (by first | decide | omega) ?_); (repeat (refine mI_o (by first | decide | omega) ?_)); first | exact mI_s | assumption) | rfl) ?_
    refine G_ic (v := nI 1) (pc := 18) f_51_18 (by decide) ?_
    first | refine G_addN (pc := 19) f_51_19 ?_ | refine G_addZ (pc := 19) f_51_19 (by first | rfl | exact nI_zI _) (by first | rfl | exact nI_zI _) ?_ | refine G_S (pc := 19) f_51_19 rfl rfl rfl ?_
    refine G_pI (pc := 20) f_51_20 rfl (by first | assumption | exact hK.1 _ _ rfl) ?_
    refine G_ic (v := nI 0) (pc := 23) f_51_23 (by decide) ?_
    refine G_S (pc := 24) f_51_24 rfl rfl rfl ?_
    have hF3 : JF u M _ := JF.upf (u := u) (k := 6) (x := nI (cntF (ftB Z) w + 1)) (by omega)
    have e := l1 0 (Nat.zero_le _) _ (W.jf hF3) hF3 ⟨fun s hs => (by (try dsimp only); exact up2_o (by omega) (hL.1 s hs)), fun s hs => (by (try dsimp only); exact up2_o (by omega) (hL.2 s hs))⟩ (by rw [e7]; exact (by (try dsimp only); exact up2_s)) (fun s hs => absurd hs (by omega)) (fun s a1 a2 => ⟨(by (try dsimp only); exact up2_o (by omega) (els s a2).1), (by (try dsimp only); exact up2_o (by omega) (els s a2).2)⟩) (fun set a1 a2 h a3 => (by (try dsimp only); exact up2_o (by omega) (etl set a1 a2 h a3)))
    first
      | (rw [b2i_1 (show cntF (ftB Z) w = 0 by omega)] at e; exact e)
      | (rw [b2i_0 (show ¬ cntF (ftB Z) w = 0 by omega)] at e; exact e)
  · refine G_ic (v := nI 1) (pc := 7) f_51_7 (by decide) ?_
    refine G_S (pc := 8) f_51_8 rfl rfl rfl ?_
    refine G_S (pc := 12) f_51_12 rfl rfl rfl ?_
    refine G_S (pc := 13) f_51_13 rfl rfl rfl ?_
    refine G_S (pc := 14) f_51_14 rfl rfl rfl ?_
    refine G_gIv (pc := 15) f_51_15 (by decide) rfl (by decide) (by first | assumption | exact hK.1 _ _ rfl) (by first | assumption | exact mI_s | ((refine mI_o (by first | decide | omega) ?_); (repeat (refine mI_o (by first | decide | omega) ?_)); first | exact mI_s | assumption) | rfl) ?_
    refine G_ic (v := nI 1) (pc := 18) f_51_18 (by decide) ?_
    first | refine G_addN (pc := 19) f_51_19 ?_ | refine G_addZ (pc := 19) f_51_19 (by first | rfl | exact nI_zI _) (by first | rfl | exact nI_zI _) ?_ | refine G_S (pc := 19) f_51_19 rfl rfl rfl ?_
    refine G_pI (pc := 20) f_51_20 rfl (by first | assumption | exact hK.1 _ _ rfl) ?_
    refine G_ic (v := nI 0) (pc := 23) f_51_23 (by decide) ?_
    refine G_S (pc := 24) f_51_24 rfl rfl rfl ?_
    have hF3 : JF u M _ := JF.upf (u := u) (k := 6) (x := nI (cntF (ftB Z) w + 1)) (by omega)
    have e := l1 0 (Nat.zero_le _) _ (W.jf hF3) hF3 ⟨fun s hs => (by (try dsimp only); exact up2_o (by omega) (hL.1 s hs)), fun s hs => (by (try dsimp only); exact up2_o (by omega) (hL.2 s hs))⟩ (by rw [e7]; exact (by (try dsimp only); exact up2_s)) (fun s hs => absurd hs (by omega)) (fun s a1 a2 => ⟨(by (try dsimp only); exact up2_o (by omega) (els s a2).1), (by (try dsimp only); exact up2_o (by omega) (els s a2).2)⟩) (fun set a1 a2 h a3 => (by (try dsimp only); exact up2_o (by omega) (etl set a1 a2 h a3)))
    first
      | (rw [b2i_1 (show cntF (ftB Z) w = 0 by omega)] at e; exact e)
      | (rw [b2i_0 (show ¬ cntF (ftB Z) w = 0 by omega)] at e; exact e)
def g1N (W : Nat) : Option (Nat × Nat) → Nat
  | none => W + 1
  | some q => q.2
def g1I (W : Nat) (a : Option (Nat × Nat)) : Int32 := nI (g1N W a)
theorem q_le {N : Nat} : ∀ set m a, (∀ q, a = some q → q.2 ≤ cntF (ftB Z) N) → ∀ q, qI Z N set m a = some q → q.2 ≤ cntF (ftB Z) N := by
  intro set m
  induction m with
  | zero => exact fun a h => h
  | succ m ih =>
    intro a h q hq
    have i2 := ih a h
    have hg := grN_le (Z := Z) (N := N) (set := set) (h := m + 1)
    rw [qI] at hq
    cases hc : qI Z N set m a with
    | none =>
      rw [hc] at hq
      cases hq
      exact hg
    | some z =>
      rw [hc] at hq
      have hq : (if grN Z N set (m + 1) < z.2 then some (40 * set + (m + 1), grN Z N set (m + 1)) else some z) = some q := hq
      split at hq
      · cases hq
        exact hg
      · cases hq
        exact i2 _ hc
theorem qS_le {N : Nat} : ∀ set q, qS Z N set = some q → q.2 ≤ cntF (ftB Z) N
  | 0, q, h => by cases h
  | set + 1, q, h => by
    rw [qS] at h
    split at h
    · cases h
    · exact q_le set 36 _ (qS_le set) q h
theorem s_best (W : SWd M u Z) (hR : RC M u Z (10 ^ Z 0)) : CG C 52 [.ref 94, .ref u] M (fun v M' => v = some (.int (if cntF (ftB Z) (10 ^ Z 0) = 0 then zI (-1) else q1I (qS Z (10 ^ Z 0) (2 ^ Z 0)))) ∧ M' = M) := by
  have hK := W.1
  obtain ⟨⟨t0, t1, t2, t3, t4, t5⟩, r1, r2, r3, r4, r5⟩ := W.2.1
  obtain ⟨hZ, v0, v1, q1, q2, q3⟩ := W.2.2.1
  have hu := W.2.2.2
  have hz0 := hZ.1
  have hz1 := hZ.2.1
  have hzf := hZ.2.2
  have hp := p2 hz0.2
  have hp10 := p10 hz0.2
  obtain ⟨e6, els, etl⟩ := hR
  have hcw := cntF_le (U := ftB Z) (10 ^ Z 0)
  have inner : ∀ {Q} set, 1 ≤ set → set < 2 ^ Z 0 → (∀ a, G C 52 (103, [some (.ref 94), some (.ref u), some (.int ((q1I (qI Z (10 ^ Z 0) set 36 (qS Z (10 ^ Z 0) set))))), some (.int ((g1I (cntF (ftB Z) (10 ^ Z 0)) (qI Z (10 ^ Z 0) set 36 (qS Z (10 ^ Z 0) set))))), some (.int (nI set)), some (.int (nI ((blN Z set (10 ^ Z 0) 36)))), some (.int (nI 37)), a], [], [], M) Q) → ∀ m, m ≤ 36 → ∀ a, G C 52 (38, [some (.ref 94), some (.ref u), some (.int ((q1I (qI Z (10 ^ Z 0) set m (qS Z (10 ^ Z 0) set))))), some (.int ((g1I (cntF (ftB Z) (10 ^ Z 0)) (qI Z (10 ^ Z 0) set m (qS Z (10 ^ Z 0) set))))), some (.int (nI set)), some (.int (nI ((blN Z set (10 ^ Z 0) m)))), some (.int (nI (m + 1))), a], [], [], M) Q := by
    intro Q set h1 h2 K
    refine upto (fun m hm ih a => ?_)
    have hbl := blN_le (Z := Z) (set := set) (m := m) (10 ^ Z 0)
    have hbl2 := blN_le (Z := Z) (set := set) (m := m + 1) (10 ^ Z 0)
    have hbs : blN Z set (10 ^ Z 0) (m + 1) = blN Z set (10 ^ Z 0) m + cntF (tlB Z set m) (10 ^ Z 0) := rfl
    have qx : M.2.1 97 (set * 37 + (m + 1) - 1) = nI (cntF (tlB Z set m) (10 ^ Z 0)) := by
      rw [show set * 37 + (m + 1) - 1 = set * 37 + m by omega]
      exact etl set h1 h2 m (by omega)
    have hgr : grN Z (10 ^ Z 0) set (m + 1) = max (blN Z set (10 ^ Z 0) m + cntF (tlB Z set m) (10 ^ Z 0)) (cntF (ftB Z) (10 ^ Z 0) - (blN Z set (10 ^ Z 0) m + cntF (tlB Z set m) (10 ^ Z 0))) := rfl
    have hgl := grN_le (Z := Z) (N := 10 ^ Z 0) (set := set) (h := m + 1)
    have hql := q_le (Z := Z) (N := 10 ^ Z 0) set m _ (qS_le set)
    have hgb : g1N (cntF (ftB Z) (10 ^ Z 0)) (qI Z (10 ^ Z 0) set m (qS Z (10 ^ Z 0) set)) ≤ cntF (ftB Z) (10 ^ Z 0) + 1 := by
      cases hc : qI Z (10 ^ Z 0) set m (qS Z (10 ^ Z 0) set) with
      | none => exact Nat.le_refl _
      | some q => have := hql q hc; show q.2 ≤ _; omega
    have hgi : (g1I (cntF (ftB Z) (10 ^ Z 0)) (qI Z (10 ^ Z 0) set m (qS Z (10 ^ Z 0) set))).toInt = (g1N (cntF (ftB Z) (10 ^ Z 0)) (qI Z (10 ^ Z 0) set m (qS Z (10 ^ Z 0) set)) : Int) := nI_toInt (by omega)
    refine G_S (pc := 38) f_52_38 rfl rfl rfl ?_
    refine G_bi (v := nI 36) (pc := 40) f_52_40 (by decide) ?_
    refine G_jgtZ (pc := 42) f_52_42 rfl (by first | exact nI_toInt (by omega) | exact zI_toInt (by omega) (by omega) | rfl) (by first | exact nI_toInt (by omega) | exact zI_toInt (by omega) (by omega) | rfl) (fun b3 => ?_) (fun b3 => ?_)
    · have e5 : m = 36 := by omega
      subst e5
      exact K a
    · refine G_S (pc := 45) f_52_45 rfl rfl rfl ?_
      refine G_S (pc := 47) f_52_47 rfl rfl rfl ?_
      refine G_gR (pc := 48) f_52_48 (by decide) rfl (by first | assumption | exact hK.1 _ _ rfl) (by first | assumption | exact hK.2 _ _ _ rfl | (try dsimp only) <;> (repeat (first | exact up2_s | refine up2_o (by first | decide | omega) ?_)) <;> first | assumption | exact hK.2 _ _ _ rfl) ?_
      refine G_S (pc := 51) f_52_51 rfl rfl rfl ?_
      refine G_bi (v := nI 37) (pc := 53) f_52_53 (by decide) ?_
      first | refine G_mulN (pc := 55) f_52_55 ?_ | refine G_mulZ (pc := 55) f_52_55 (by first | rfl | exact nI_zI _) (by first | rfl | exact nI_zI _) ?_ | refine G_S (pc := 55) f_52_55 rfl rfl rfl ?_
      refine G_S (pc := 56) f_52_56 rfl rfl rfl ?_
      first | refine G_addN (pc := 58) f_52_58 ?_ | refine G_addZ (pc := 58) f_52_58 (by first | rfl | exact nI_zI _) (by first | rfl | exact nI_zI _) ?_ | refine G_S (pc := 58) f_52_58 rfl rfl rfl ?_
      refine G_ic (v := nI 1) (pc := 59) f_52_59 (by decide) ?_
      first | refine G_subN (pc := 60) f_52_60 (by omega) ?_ | refine G_subZ (pc := 60) f_52_60 (by first | rfl | exact nI_zI _) (by first | rfl | exact nI_zI _) ?_ | refine G_S (pc := 60) f_52_60 rfl rfl rfl ?_
      refine G_iaN (pc := 61) f_52_61 (by first | assumption | exact hK.1 _ _ rfl) (by omega) (by omega) (by first | assumption | exact q1 _ (by omega) | exact q2 _ (by omega) | exact q3 _ (by omega) | exact q4 _ (by omega) | exact q5 _ (by omega) | exact vh _ (by omega) | exact (vr _ (by omega)).1 | exact (vr _ (by omega)).2 | exact vw _ (by omega) | exact vf _ (by omega) (by omega) | exact mI_s | ((refine mI_o (by first | decide | omega) ?_); (repeat (refine mI_o (by first | decide | omega) ?_)); first | exact mI_s | assumption | exact q1 _ (by omega) | exact q2 _ (by omega) | exact q3 _ (by omega) | exact q4 _ (by omega) | exact q5 _ (by omega) | exact vh _ (by omega) | exact (vr _ (by omega)).1 | exact (vr _ (by omega)).2 | exact vw _ (by omega) | exact vf _ (by omega) (by omega)) | rfl) ?_
      first | refine G_addN (pc := 62) f_52_62 ?_ | refine G_addZ (pc := 62) f_52_62 (by first | rfl | exact nI_zI _) (by first | rfl | exact nI_zI _) ?_ | refine G_S (pc := 62) f_52_62 rfl rfl rfl ?_
      refine G_S (pc := 63) f_52_63 rfl rfl rfl ?_
      refine G_S (pc := 65) f_52_65 rfl rfl rfl ?_
      refine G_S (pc := 67) f_52_67 rfl rfl rfl ?_
      refine G_gIv (pc := 68) f_52_68 (by decide) rfl (by decide) (by first | assumption | exact hK.1 _ _ rfl) (by first | assumption | exact mI_s | ((refine mI_o (by first | decide | omega) ?_); (repeat (refine mI_o (by first | decide | omega) ?_)); first | exact mI_s | assumption) | rfl) ?_
      refine G_S (pc := 71) f_52_71 rfl rfl rfl ?_
      first | refine G_subN (pc := 73) f_52_73 (by omega) ?_ | refine G_subZ (pc := 73) f_52_73 (by first | rfl | exact nI_zI _) (by first | rfl | exact nI_zI _) ?_ | refine G_S (pc := 73) f_52_73 rfl rfl rfl ?_
      first | refine G_maxN (pc := 74) f_52_74 rfl rfl (by omega) (by omega) ?_ | refine G_maxZ (pc := 74) f_52_74 rfl rfl (by first | exact nI_toInt (by omega) | exact zI_toInt (by omega) (by omega) | rfl) (by first | exact nI_toInt (by omega) | exact zI_toInt (by omega) (by omega) | rfl) ?_
      refine G_S (pc := 77) f_52_77 rfl rfl rfl ?_
      refine G_S (pc := 79) f_52_79 rfl rfl rfl ?_
      refine G_S (pc := 81) f_52_81 rfl rfl rfl ?_
      refine G_jgeZ (pc := 82) f_52_82 rfl (by first | exact nI_toInt (by omega) | exact zI_toInt (by omega) (by omega) | rfl) hgi (fun b4 => ?_) (fun b4 => ?_)
      · first | refine G_inc1 (pc := 97) f_52_97 rfl ?_ | refine G_S (pc := 97) f_52_97 rfl rfl rfl ?_
        refine G_S (pc := 100) f_52_100 rfl rfl rfl ?_
        have e := ih (by omega)
        rw [qI] at e
        cases hc : qI Z (10 ^ Z 0) set m (qS Z (10 ^ Z 0) set) with
        | none =>
          have hg : g1N (cntF (ftB Z) (10 ^ Z 0)) (qI Z (10 ^ Z 0) set m (qS Z (10 ^ Z 0) set)) = cntF (ftB Z) (10 ^ Z 0) + 1 := by rw [hc]; rfl
          rw [hc] at e
          first
            | (exfalso; omega)
            | exact e _
        | some q =>
          have hg : g1N (cntF (ftB Z) (10 ^ Z 0)) (qI Z (10 ^ Z 0) set m (qS Z (10 ^ Z 0) set)) = q.2 := by rw [hc]; rfl
          rw [hc] at e
          first
            | (rw [qB, if_pos (by omega)] at e; exact e _)
            | (rw [qB, if_neg (by omega)] at e; exact e _)
      · refine G_S (pc := 85) f_52_85 rfl rfl rfl ?_
        refine G_S (pc := 87) f_52_87 rfl rfl rfl ?_
        refine G_bi (v := nI 40) (pc := 88) f_52_88 (by decide) ?_
        refine G_S (pc := 90) f_52_90 rfl rfl rfl ?_
        first | refine G_mulN (pc := 92) f_52_92 ?_ | refine G_mulZ (pc := 92) f_52_92 (by first | rfl | exact nI_zI _) (by first | rfl | exact nI_zI _) ?_ | refine G_S (pc := 92) f_52_92 rfl rfl rfl ?_
        refine G_S (pc := 93) f_52_93 rfl rfl rfl ?_
        first | refine G_addN (pc := 95) f_52_95 ?_ | refine G_addZ (pc := 95) f_52_95 (by first | rfl | exact nI_zI _) (by first | rfl | exact nI_zI _) ?_ | refine G_S (pc := 95) f_52_95 rfl rfl rfl ?_
        refine G_S (pc := 96) f_52_96 rfl rfl rfl ?_
        first | refine G_inc1 (pc := 97) f_52_97 rfl ?_ | refine G_S (pc := 97) f_52_97 rfl rfl rfl ?_
        refine G_S (pc := 100) f_52_100 rfl rfl rfl ?_
        have e := ih (by omega)
        rw [qI] at e
        cases hc : qI Z (10 ^ Z 0) set m (qS Z (10 ^ Z 0) set) with
        | none =>
          have hg : g1N (cntF (ftB Z) (10 ^ Z 0)) (qI Z (10 ^ Z 0) set m (qS Z (10 ^ Z 0) set)) = cntF (ftB Z) (10 ^ Z 0) + 1 := by rw [hc]; rfl
          rw [hc] at e
          first
            | (exfalso; omega)
            | exact e _
        | some q =>
          have hg : g1N (cntF (ftB Z) (10 ^ Z 0)) (qI Z (10 ^ Z 0) set m (qS Z (10 ^ Z 0) set)) = q.2 := by rw [hc]; rfl
          rw [hc] at e
          first
            | (rw [qB, if_pos (by omega)] at e; exact e _)
            | (rw [qB, if_neg (by omega)] at e; exact e _)
  have loop : ∀ set, set ≤ 2 ^ Z 0 → 1 ≤ set → cntF (ftB Z) (10 ^ Z 0) ≠ 0 → ∀ a b c, G C 52 (21, [some (.ref 94), some (.ref u), some (.int ((q1I (qS Z (10 ^ Z 0) set)))), some (.int ((g1I (cntF (ftB Z) (10 ^ Z 0)) (qS Z (10 ^ Z 0) set)))), some (.int (nI set)), a, b, c], [], [], M) (fun v M' => v = some (.int (if cntF (ftB Z) (10 ^ Z 0) = 0 then zI (-1) else q1I (qS Z (10 ^ Z 0) (2 ^ Z 0)))) ∧ M' = M) := by
    refine upto (fun set hs ih h1 hc a b c => ?_)
    refine G_S (pc := 21) f_52_21 rfl rfl rfl ?_
    refine G_ic (v := nI 1) (pc := 23) f_52_23 (by decide) ?_
    refine G_S (pc := 24) f_52_24 rfl rfl rfl ?_
    refine G_gIv (pc := 25) f_52_25 (by decide) rfl (by decide) (by first | assumption | exact hK.1 _ _ rfl) (by first | assumption | exact mI_s | ((refine mI_o (by first | decide | omega) ?_); (repeat (refine mI_o (by first | decide | omega) ?_)); first | exact mI_s | assumption) | rfl) ?_
    first | refine G_shl1 (pc := 28) f_52_28 (by omega) ?_ | refine G_S (pc := 28) f_52_28 rfl rfl rfl ?_
    refine G_jgeZ (pc := 29) f_52_29 rfl (by first | exact nI_toInt (by omega) | exact zI_toInt (by omega) (by omega) | rfl) (by first | exact nI_toInt (by omega) | exact zI_toInt (by omega) (by omega) | rfl) (fun b2 => ?_) (fun b2 => ?_)
    · refine G_S (pc := 109) f_52_109 rfl rfl rfl ?_
      refine G_ri (pc := 110) f_52_110 ?_
      rw [if_neg hc, show set = 2 ^ Z 0 by omega]
      exact ⟨rfl, rfl⟩
    · refine G_ic (v := nI 0) (pc := 32) f_52_32 (by decide) ?_
      refine G_S (pc := 33) f_52_33 rfl rfl rfl ?_
      refine G_ic (v := nI 1) (pc := 35) f_52_35 (by decide) ?_
      refine G_S (pc := 36) f_52_36 rfl rfl rfl ?_
      refine inner set h1 (by omega) ?_ 0 (Nat.zero_le _) _
      intro a
      first | refine G_inc1 (pc := 103) f_52_103 rfl ?_ | refine G_S (pc := 103) f_52_103 rfl rfl rfl ?_
      refine G_S (pc := 106) f_52_106 rfl rfl rfl ?_
      have e := ih (by omega) (by omega) hc (some (.int (nI (blN Z set (10 ^ Z 0) 36)))) (some (.int (nI 37))) a
      rw [qS, if_neg (by omega)] at e
      exact e
  refine CG_in (mL := 8) (hl := false) (lv := [some (.ref 94), some (.ref u), none, none, none, none, none, none]) (ll := []) rfl rfl rfl ?_
  refine G_ic (v := zI (-1)) (pc := 0) f_52_0 (by decide) ?_
  refine G_S (pc := 1) f_52_1 rfl rfl rfl ?_
  refine G_S (pc := 2) f_52_2 rfl rfl rfl ?_
  refine G_gIv (pc := 3) f_52_3 (by decide) rfl (by decide) (by first | assumption | exact hK.1 _ _ rfl) (by first | assumption | exact mI_s | ((refine mI_o (by first | decide | omega) ?_); (repeat (refine mI_o (by first | decide | omega) ?_)); first | exact mI_s | assumption) | rfl) ?_
  refine G_ic (v := nI 1) (pc := 6) f_52_6 (by decide) ?_
  first | refine G_addN (pc := 7) f_52_7 ?_ | refine G_addZ (pc := 7) f_52_7 (by first | rfl | exact nI_zI _) (by first | rfl | exact nI_zI _) ?_ | refine G_S (pc := 7) f_52_7 rfl rfl rfl ?_
  refine G_S (pc := 8) f_52_8 rfl rfl rfl ?_
  refine G_S (pc := 9) f_52_9 rfl rfl rfl ?_
  refine G_gIv (pc := 10) f_52_10 (by decide) rfl (by decide) (by first | assumption | exact hK.1 _ _ rfl) (by first | assumption | exact mI_s | ((refine mI_o (by first | decide | omega) ?_); (repeat (refine mI_o (by first | decide | omega) ?_)); first | exact mI_s | assumption) | rfl) ?_
  first | refine G_bNe (pc := 13) f_52_13 rfl (fun b1 => ?_) (fun b1 => ?_) | refine G_zneZ (pc := 13) f_52_13 rfl (by first | exact nI_toInt (by omega) | exact zI_toInt (by omega) (by omega) | rfl) (fun b1 => ?_) (fun b1 => ?_)
  · refine G_ic (v := nI 1) (pc := 18) f_52_18 (by decide) ?_
    refine G_S (pc := 19) f_52_19 rfl rfl rfl ?_
    exact loop 1 (by omega) (by omega) (by omega) _ _ _
  · refine G_ic (v := zI (-1)) (pc := 16) f_52_16 (by decide) ?_
    refine G_ri (pc := 17) f_52_17 ?_
    rw [if_pos (by omega)]
    exact ⟨rfl, rfl⟩
/-- what was judged stands in the sight -/
def JD (M : Mm) (u : Nat) (Z : Nat → Nat) : Prop := RC M u Z (10 ^ Z 0) ∧ M.2.1 u 7 = (if cntF (ftB Z) (10 ^ Z 0) = 0 then zI (-1) else q1I (qS Z (10 ^ Z 0) (2 ^ Z 0)))
/-- as much of it as is asked for -/
def JV (M : Mm) (u : Nat) (Z : Nat → Nat) : Prop := M.2.1 u 6 = nI (cntF (ftB Z) (10 ^ Z 0)) ∧ (∀ s, s < Z 0 → M.2.1 (u + 4) s = oI (loO Z s (10 ^ Z 0)) ∧ M.2.1 (u + 5) s = oI (hiO Z s (10 ^ Z 0))) ∧ M.2.1 u 7 = (if cntF (ftB Z) (10 ^ Z 0) = 0 then zI (-1) else q1I (qS Z (10 ^ Z 0) (2 ^ Z 0)))
theorem JD.v (h : JD M u Z) : JV M u Z := ⟨h.1.1, h.1.2.1, h.2⟩
theorem s_weigh (W : SWd M u Z) : CG C 48 [.ref 94, .ref u] M (fun v M' => v = none ∧ JF u M M' ∧ JD M' u Z ∧ M'.2.1 u 5 = nI 1) := by
  have hu := W.2.2.2
  have hz := W.2.2.1.1.1
  have hp10 := p10 hz.2
  have l2 : ∀ i, i ≤ 10 ^ Z 0 → ∀ M1, SWd M1 u Z → JF u M M1 → RC M1 u Z i → G C 48 (54, [some (.ref 94), some (.ref u), some (.int (nI (10 ^ Z 0))), some (.int (nI i))], [], [], M1) (fun v M' => v = none ∧ JF u M M' ∧ JD M' u Z ∧ M'.2.1 u 5 = nI 1) := by
    refine upto (fun i hi ih M1 W1 hF hR => ?_)
    have hK := W1.1
    obtain ⟨⟨t0, t1, t2, t3, t4, t5⟩, r1, r2, r3, r4, r5⟩ := W1.2.1
    obtain ⟨hZ, v0, v1, q1, q2, q3⟩ := W1.2.2.1
    have hu := W1.2.2.2
    have hz0 := hZ.1
    have hz1 := hZ.2.1
    have hzf := hZ.2.2
    refine G_S (pc := 54) f_48_54 rfl rfl rfl ?_
    refine G_S (pc := 55) f_48_55 rfl rfl rfl ?_
    refine G_jgeZ (pc := 56) f_48_56 rfl (by first | exact nI_toInt (by omega) | exact zI_toInt (by omega) (by omega) | rfl) (by first | exact nI_toInt (by omega) | exact zI_toInt (by omega) (by omega) | rfl) (fun b2 => ?_) (fun b2 => ?_)
    · refine G_S (pc := 87) f_48_87 rfl rfl rfl ?_
      refine G_S (pc := 88) f_48_88 rfl rfl rfl ?_
      refine G_S (pc := 89) f_48_89 rfl rfl rfl ?_
      refine G_CV (pc := 90) f_48_90 rfl rfl (by decide) rfl rfl (by first | assumption | exact hK.1 _ _ rfl) (by decide) ⟨Nat.le_of_ble_eq_true rfl, Nat.le_of_ble_eq_true rfl⟩ ?_
      refine CG.go ((by rw [show i = 10 ^ Z 0 by omega] at hR; exact s_best W1 hR)) ?_
      refine G_pI (pc := 93) f_48_93 rfl (by first | assumption | exact hK.1 _ _ rfl) ?_
      refine G_S (pc := 96) f_48_96 rfl rfl rfl ?_
      refine G_ic (v := nI 1) (pc := 97) f_48_97 (by decide) ?_
      refine G_pZ (pc := 98) f_48_98 rfl (by first | assumption | exact hK.1 _ _ rfl) (by first | exact Or.inl rfl | exact Or.inr rfl | exact b2i_01 _ | assumption) ?_
      refine G_rv (pc := 101) f_48_101 ?_
      rw [show i = 10 ^ Z 0 by omega] at hR
      have hF3 : JF u M1 _ := (JF.upf (u := u) (k := 7) (x := if cntF (ftB Z) (10 ^ Z 0) = 0 then zI (-1) else q1I (qS Z (10 ^ Z 0) (2 ^ Z 0))) (by omega)).tr (JF.upf (u := u) (k := 5) (x := nI 1) (by omega))
      obtain ⟨e6, els, etl⟩ := hR
      exact ⟨rfl, hF.tr hF3, ⟨⟨(by (try dsimp only); exact up2_o (by omega) (by (try dsimp only); exact up2_o (by omega) e6)), fun s hs => ⟨(by (try dsimp only); exact up2_o (by omega) (by (try dsimp only); exact up2_o (by omega) (els s hs).1)), (by (try dsimp only); exact up2_o (by omega) (by (try dsimp only); exact up2_o (by omega) (els s hs).2))⟩, fun set a1 a2 h a3 => (by (try dsimp only); exact up2_o (by omega) (by (try dsimp only); exact up2_o (by omega) (etl set a1 a2 h a3)))⟩, (by (try dsimp only); exact up2_o (by omega) (by (try dsimp only); exact up2_s))⟩, (by (try dsimp only); exact up2_s)⟩
    · refine G_S (pc := 59) f_48_59 rfl rfl rfl ?_
      refine G_S (pc := 60) f_48_60 rfl rfl rfl ?_
      refine G_S (pc := 61) f_48_61 rfl rfl rfl ?_
      refine G_gIv (pc := 62) f_48_62 (by decide) rfl (by decide) (by first | assumption | exact hK.1 _ _ rfl) (by first | assumption | exact mI_s | ((refine mI_o (by first | decide | omega) ?_); (repeat (refine mI_o (by first | decide | omega) ?_)); first | exact mI_s | assumption) | rfl) ?_
      refine G_CV (pc := 65) f_48_65 rfl rfl (by decide) rfl rfl (by first | assumption | exact hK.1 _ _ rfl) (by decide) ⟨Nat.le_of_ble_eq_true rfl, Nat.le_of_ble_eq_true rfl⟩ ?_
      refine CG.mono (s_layOut W1 (by omega)) ?_
      rintro _ M2 ⟨rfl, e1, e2, e3, e4, hLO⟩
      have hF2 : JF u M1 M2 := ⟨e1, e2, e3, fun j a b c d e f => e4 j d e, fun k _ _ _ => by rw [e4 u (by omega) (by omega)]⟩
      have W2 := W1.jf hF2
      have hK := W2.1
      have hR2 : RC M2 u Z i := by
        unfold RC at hR ⊢
        rw [e4 u (by omega) (by omega), e4 (u + 4) (by omega) (by omega), e4 (u + 5) (by omega) (by omega), e4 97 (by omega) (by omega)]
        exact hR
      refine G_S (pc := 68) f_48_68 rfl rfl rfl ?_
      refine G_S (pc := 69) f_48_69 rfl rfl rfl ?_
      refine G_CV (pc := 70) f_48_70 rfl rfl (by decide) rfl rfl (by first | assumption | exact hK.1 _ _ rfl) (by decide) ⟨Nat.le_of_ble_eq_true rfl, Nat.le_of_ble_eq_true rfl⟩ ?_
      refine CG.go (s_agrees W2 hLO) ?_
      first | refine G_bEq (pc := 73) f_48_73 rfl (fun b3 => ?_) (fun b3 => ?_) | refine G_zeqZ (pc := 73) f_48_73 rfl (by first | exact nI_toInt (by omega) | exact zI_toInt (by omega) (by omega) | rfl) (fun b3 => ?_) (fun b3 => ?_)
      · first | refine G_inc1 (pc := 81) f_48_81 rfl ?_ | refine G_S (pc := 81) f_48_81 rfl rfl rfl ?_
        refine G_S (pc := 84) f_48_84 rfl rfl rfl ?_
        first
          | exact ih (by omega) M3 (W2.jf hF3) ((hF.tr hF2).tr hF3) hR3
          | (refine ih (by omega) M2 W2 (hF.tr hF2) ?_
             obtain ⟨e6, els, etl⟩ := hR2
             refine ⟨by rw [cntF, if_neg b3]; exact e6, fun s hs => by rw [loO, hiO, if_neg b3, if_neg b3]; exact els s hs, fun set a1 a2 h a3 => ?_⟩
             rw [cntF, if_neg (show ¬ tlB Z set h i = true from fun q => b3 (band.mp q).1)]
             exact etl set a1 a2 h a3)
      · refine G_S (pc := 76) f_48_76 rfl rfl rfl ?_
        refine G_S (pc := 77) f_48_77 rfl rfl rfl ?_
        refine G_CV (pc := 78) f_48_78 rfl rfl (by decide) rfl rfl (by first | assumption | exact hK.1 _ _ rfl) (by decide) ⟨Nat.le_of_ble_eq_true rfl, Nat.le_of_ble_eq_true rfl⟩ ?_
        refine CG.mono (s_record W2 hLO hR2 b3 (by omega)) ?_
        rintro _ M3 ⟨rfl, hF3, hR3⟩
        first | refine G_inc1 (pc := 81) f_48_81 rfl ?_ | refine G_S (pc := 81) f_48_81 rfl rfl rfl ?_
        refine G_S (pc := 84) f_48_84 rfl rfl rfl ?_
        first
          | exact ih (by omega) M3 (W2.jf hF3) ((hF.tr hF2).tr hF3) hR3
          | (refine ih (by omega) M2 W2 (hF.tr hF2) ?_
             obtain ⟨e6, els, etl⟩ := hR2
             refine ⟨by rw [cntF, if_neg b3]; exact e6, fun s hs => by rw [loO, hiO, if_neg b3, if_neg b3]; exact els s hs, fun set a1 a2 h a3 => ?_⟩
             rw [cntF, if_neg (show ¬ tlB Z set h i = true from fun q => b3 (band.mp q).1)]
             exact etl set a1 a2 h a3)
  have l1 : ∀ i, i ≤ Z 0 → ∀ M1, SWd M1 u Z → JF u M M1 → RC M1 u Z 0 → G C 48 (33, [some (.ref 94), some (.ref u), some (.int (nI (10 ^ i))), some (.int (nI i))], [], [], M1) (fun v M' => v = none ∧ JF u M M' ∧ JD M' u Z ∧ M'.2.1 u 5 = nI 1) := by
    refine upto (fun i hi ih M1 W1 hF hR => ?_)
    have hK := W1.1
    obtain ⟨⟨t0, t1, t2, t3, t4, t5⟩, r1, r2, r3, r4, r5⟩ := W1.2.1
    obtain ⟨hZ, v0, v1, q1, q2, q3⟩ := W1.2.2.1
    have hu := W1.2.2.2
    have hz0 := hZ.1
    have hz1 := hZ.2.1
    have hzf := hZ.2.2
    refine G_S (pc := 33) f_48_33 rfl rfl rfl ?_
    refine G_S (pc := 34) f_48_34 rfl rfl rfl ?_
    refine G_gIv (pc := 35) f_48_35 (by decide) rfl (by decide) (by first | assumption | exact hK.1 _ _ rfl) (by first | assumption | exact mI_s | ((refine mI_o (by first | decide | omega) ?_); (repeat (refine mI_o (by first | decide | omega) ?_)); first | exact mI_s | assumption) | rfl) ?_
    refine G_jgeZ (pc := 38) f_48_38 rfl (by first | exact nI_toInt (by omega) | exact zI_toInt (by omega) (by omega) | rfl) (by first | exact nI_toInt (by omega) | exact zI_toInt (by omega) (by omega) | rfl) (fun b1 => ?_) (fun b1 => ?_)
    · refine G_ic (v := nI 0) (pc := 52) f_48_52 (by decide) ?_
      refine G_S (pc := 53) f_48_53 rfl rfl rfl ?_
      rw [show i = Z 0 by omega]
      exact l2 0 (Nat.zero_le _) M1 W1 hF hR
    · refine G_S (pc := 41) f_48_41 rfl rfl rfl ?_
      refine G_bi (v := nI 10) (pc := 42) f_48_42 (by decide) ?_
      first | refine G_mulN (pc := 44) f_48_44 ?_ | refine G_mulZ (pc := 44) f_48_44 (by first | rfl | exact nI_zI _) (by first | rfl | exact nI_zI _) ?_ | refine G_S (pc := 44) f_48_44 rfl rfl rfl ?_
      refine G_S (pc := 45) f_48_45 rfl rfl rfl ?_
      first | refine G_inc1 (pc := 46) f_48_46 rfl ?_ | refine G_S (pc := 46) f_48_46 rfl rfl rfl ?_
      refine G_S (pc := 49) f_48_49 rfl rfl rfl ?_
      have e := ih (by omega) M1 W1 hF hR
      rw [Nat.pow_succ] at e
      exact e
  have hK := W.1
  obtain ⟨⟨t0, t1, t2, t3, t4, t5⟩, r1, r2, r3, r4, r5⟩ := W.2.1
  obtain ⟨hZ, v0, v1, q1, q2, q3⟩ := W.2.2.1
  have hu := W.2.2.2
  have hz0 := hZ.1
  have hz1 := hZ.2.1
  have hzf := hZ.2.2
  refine CG_in (mL := 4) (hl := false) (lv := [some (.ref 94), some (.ref u), none, none]) (ll := []) rfl rfl rfl ?_
  refine G_S (pc := 0) f_48_0 rfl rfl rfl ?_
  refine G_gR (pc := 1) f_48_1 (by decide) rfl (by first | assumption | exact hK.1 _ _ rfl) (by first | assumption | exact hK.2 _ _ _ rfl | (try dsimp only) <;> (repeat (first | exact up2_s | refine up2_o (by first | decide | omega) ?_)) <;> first | assumption | exact hK.2 _ _ _ rfl) ?_
  refine G_ic (v := nI 0) (pc := 4) f_48_4 (by decide) ?_
  refine G_CS (pc := 5) f_48_5 rfl rfl (by decide) rfl rfl ⟨Nat.le_of_ble_eq_true rfl, Nat.le_of_ble_eq_true rfl⟩ ?_
  refine CG.mono (c_fill (n := 592) (hK.1 97 _ rfl) (by decide)) ?_
  rintro _ M1 ⟨rfl, e1, e2, e3, e4, f1⟩
  have hF1 : JF u M M1 := JF.fl (by omega) (by omega) e1 e2 e3 e4
  have W1 := W.jf hF1
  have hK := W1.1
  obtain ⟨⟨t0, t1, t2, t3, t4, t5⟩, r1, r2, r3, r4, r5⟩ := W1.2.1
  obtain ⟨hZ, v0, v1, q1, q2, q3⟩ := W1.2.2.1
  have hu := W1.2.2.2
  have hz0 := hZ.1
  have hz1 := hZ.2.1
  have hzf := hZ.2.2
  refine G_S (pc := 8) f_48_8 rfl rfl rfl ?_
  refine G_gR (pc := 9) f_48_9 (by decide) rfl (by first | assumption | exact hK.1 _ _ rfl) (by first | assumption | exact hK.2 _ _ _ rfl | (try dsimp only) <;> (repeat (first | exact up2_s | refine up2_o (by first | decide | omega) ?_)) <;> first | assumption | exact hK.2 _ _ _ rfl) ?_
  refine G_ic (v := zI (-1)) (pc := 12) f_48_12 (by decide) ?_
  refine G_CS (pc := 13) f_48_13 rfl rfl (by decide) rfl rfl ⟨Nat.le_of_ble_eq_true rfl, Nat.le_of_ble_eq_true rfl⟩ ?_
  refine CG.mono (c_fill (n := 4) t4 (by decide)) ?_
  rintro _ M2 ⟨rfl, e1', e2', e3', e4', f2⟩
  have hF2 : JF u M1 M2 := JF.fl (by omega) (by omega) e1' e2' e3' e4'
  have W2 := W1.jf hF2
  have hK := W2.1
  obtain ⟨⟨t0, t1, t2, t3, t4, t5⟩, r1, r2, r3, r4, r5⟩ := W2.2.1
  obtain ⟨hZ, v0, v1, q1, q2, q3⟩ := W2.2.2.1
  have hu := W2.2.2.2
  have hz0 := hZ.1
  have hz1 := hZ.2.1
  have hzf := hZ.2.2
  refine G_S (pc := 16) f_48_16 rfl rfl rfl ?_
  refine G_gR (pc := 17) f_48_17 (by decide) rfl (by first | assumption | exact hK.1 _ _ rfl) (by first | assumption | exact hK.2 _ _ _ rfl | (try dsimp only) <;> (repeat (first | exact up2_s | refine up2_o (by first | decide | omega) ?_)) <;> first | assumption | exact hK.2 _ _ _ rfl) ?_
  refine G_ic (v := zI (-1)) (pc := 20) f_48_20 (by decide) ?_
  refine G_CS (pc := 21) f_48_21 rfl rfl (by decide) rfl rfl ⟨Nat.le_of_ble_eq_true rfl, Nat.le_of_ble_eq_true rfl⟩ ?_
  refine CG.mono (c_fill (n := 4) t5 (by decide)) ?_
  rintro _ M3 ⟨rfl, e1'', e2'', e3'', e4'', f3⟩
  have hF3 : JF u M2 M3 := JF.fl (by omega) (by omega) e1'' e2'' e3'' e4''
  have W3 := W2.jf hF3
  have hK := W3.1
  obtain ⟨⟨t0, t1, t2, t3, t4, t5⟩, r1, r2, r3, r4, r5⟩ := W3.2.1
  obtain ⟨hZ, v0, v1, q1, q2, q3⟩ := W3.2.2.1
  have hu := W3.2.2.2
  have hz0 := hZ.1
  have hz1 := hZ.2.1
  have hzf := hZ.2.2
  refine G_S (pc := 24) f_48_24 rfl rfl rfl ?_
  refine G_ic (v := nI 0) (pc := 25) f_48_25 (by decide) ?_
  refine G_pI (pc := 26) f_48_26 rfl (by first | assumption | exact hK.1 _ _ rfl) ?_
  refine G_ic (v := nI 1) (pc := 29) f_48_29 (by decide) ?_
  refine G_S (pc := 30) f_48_30 rfl rfl rfl ?_
  refine G_ic (v := nI 0) (pc := 31) f_48_31 (by decide) ?_
  refine G_S (pc := 32) f_48_32 rfl rfl rfl ?_
  have hF4 : JF u M3 _ := JF.upf (u := u) (k := 6) (x := nI 0) (by omega)
  refine l1 0 (Nat.zero_le _) _ (W3.jf hF4) (((hF1.tr hF2).tr hF3).tr hF4) ⟨(by (try dsimp only); exact up2_s), fun s hs => ⟨(by (try dsimp only); exact up2_o (by omega) (by rw [e4'' _ (by omega)]; exact f2 s (by omega))), (by (try dsimp only); exact up2_o (by omega) (f3 s (by omega)))⟩, fun set a1 a2 h a3 => (by (try dsimp only); exact up2_o (by omega) (by have := p2 hz.2; rw [e4'' _ (by omega), e4' _ (by omega)]; exact f1 _ (by omega)))⟩
theorem s_verdict (W : SWd M u Z) (hJ : JV M u Z) : CG C 99 [.ref u, .int x] M (fun v M' => v = some (.int (fiF Z x)) ∧ M' = M) := by
  have hK := W.1
  obtain ⟨⟨t0, t1, t2, t3, t4, t5⟩, r1, r2, r3, r4, r5⟩ := W.2.1
  obtain ⟨hZ, v0, v1, q1, q2, q3⟩ := W.2.2.1
  have hu := W.2.2.2
  have hz0 := hZ.1
  have hz1 := hZ.2.1
  have hzf := hZ.2.2
  obtain ⟨e6, els, e7⟩ := hJ
  have q4 : ∀ s, s < Z 0 → M.2.1 (u + 4) s = oI (loO Z s (10 ^ Z 0)) := fun s hs => (els s hs).1
  have q5 : ∀ s, s < Z 0 → M.2.1 (u + 5) s = oI (hiO Z s (10 ^ Z 0)) := fun s hs => (els s hs).2
  refine CG_in (mL := 2) (hl := false) (lv := [some (.ref u), some (.int x)]) (ll := []) rfl rfl rfl ?_
  refine G_S (pc := 0) f_99_0 rfl rfl rfl ?_
  first | refine G_bNe (pc := 1) f_99_1 rfl (fun b1 => ?_) (fun b1 => ?_) | refine G_zneZ (pc := 1) f_99_1 rfl (by first | exact nI_toInt (by omega) | exact zI_toInt (by omega) (by omega) | rfl) (fun b1 => ?_) (fun b1 => ?_)
  · refine G_S (pc := 9) f_99_9 rfl rfl rfl ?_
    refine G_ic (v := nI 1) (pc := 10) f_99_10 (by decide) ?_
    refine G_jneZ (pc := 11) f_99_11 rfl (by first | exact nI_toInt (by omega) | exact zI_toInt (by omega) (by omega) | rfl) (by first | exact nI_toInt (by omega) | exact zI_toInt (by omega) (by omega) | rfl) (fun b2 => ?_) (fun b2 => ?_)
    · refine G_S (pc := 19) f_99_19 rfl rfl rfl ?_
      refine G_bi (v := nI 10) (pc := 20) f_99_20 (by decide) ?_
      refine G_jltZ (pc := 22) f_99_22 rfl (by first | exact nI_toInt (by omega) | exact zI_toInt (by omega) (by omega) | rfl) (by first | exact nI_toInt (by omega) | exact zI_toInt (by omega) (by omega) | rfl) (fun b3 => ?_) (fun b3 => ?_)
      · refine G_S (pc := 46) f_99_46 rfl rfl rfl ?_
        refine G_bi (v := nI 20) (pc := 47) f_99_47 (by decide) ?_
        refine G_jltZ (pc := 49) f_99_49 rfl (by first | exact nI_toInt (by omega) | exact zI_toInt (by omega) (by omega) | rfl) (by first | exact nI_toInt (by omega) | exact zI_toInt (by omega) (by omega) | rfl) (fun b5 => ?_) (fun b5 => ?_)
        · refine G_bi (v := zI (-2)) (pc := 75) f_99_75 (by decide) ?_
          refine G_ri (pc := 77) f_99_77 ?_
          refine ⟨?_, rfl⟩
          congr 2
          unfold fiF
          first
            | (exfalso; omega)
            | rw [if_pos b1]
            | rw [if_neg b1, if_pos (show x.toInt = 1 by omega)]
            | rw [nI_toInt (by omega), Int.toNat_natCast, if_neg (by omega), if_neg (by omega), if_pos (by omega)]
            | rw [nI_toInt (by omega), Int.toNat_natCast, if_neg (by omega), if_neg (by omega), if_neg (by omega), if_pos (by omega)]
            | rw [if_neg (by omega), if_neg (by omega), if_neg (by omega), if_neg (by omega)]
        · refine G_S (pc := 52) f_99_52 rfl rfl rfl ?_
          refine G_bi (v := nI 20) (pc := 53) f_99_53 (by decide) ?_
          refine G_S (pc := 55) f_99_55 rfl rfl rfl ?_
          refine G_gIv (pc := 56) f_99_56 (by decide) rfl (by decide) (by first | assumption | exact hK.1 _ _ rfl) (by first | assumption | exact mI_s | ((refine mI_o (by first | decide | omega) ?_); (repeat (refine mI_o (by first | decide | omega) ?_)); first | exact mI_s | assumption) | rfl) ?_
          first | refine G_addN (pc := 59) f_99_59 ?_ | refine G_addZ (pc := 59) f_99_59 (by first | rfl | exact nI_zI _) (by first | rfl | exact nI_zI _) ?_ | refine G_S (pc := 59) f_99_59 rfl rfl rfl ?_
          refine G_jgeZ (pc := 60) f_99_60 rfl (by first | exact nI_toInt (by omega) | exact zI_toInt (by omega) (by omega) | rfl) (by first | exact nI_toInt (by omega) | exact zI_toInt (by omega) (by omega) | rfl) (fun b6 => ?_) (fun b6 => ?_)
          · refine G_bi (v := zI (-2)) (pc := 75) f_99_75 (by decide) ?_
            refine G_ri (pc := 77) f_99_77 ?_
            refine ⟨?_, rfl⟩
            congr 2
            unfold fiF
            first
              | (exfalso; omega)
              | rw [if_pos b1]
              | rw [if_neg b1, if_pos (show x.toInt = 1 by omega)]
              | rw [nI_toInt (by omega), Int.toNat_natCast, if_neg (by omega), if_neg (by omega), if_pos (by omega)]
              | rw [nI_toInt (by omega), Int.toNat_natCast, if_neg (by omega), if_neg (by omega), if_neg (by omega), if_pos (by omega)]
              | rw [if_neg (by omega), if_neg (by omega), if_neg (by omega), if_neg (by omega)]
          · obtain ⟨c, hc, rfl⟩ := i_nat (x := x) (n := 24) (by omega) (by omega)
            rw [nI_toInt (by omega)] at *
            refine G_S (pc := 63) f_99_63 rfl rfl rfl ?_
            refine G_gR (pc := 64) f_99_64 (by decide) rfl (by first | assumption | exact hK.1 _ _ rfl) (by first | assumption | exact hK.2 _ _ _ rfl | (try dsimp only) <;> (repeat (first | exact up2_s | refine up2_o (by first | decide | omega) ?_)) <;> first | assumption | exact hK.2 _ _ _ rfl) ?_
            refine G_S (pc := 67) f_99_67 rfl rfl rfl ?_
            refine G_bi (v := nI 20) (pc := 68) f_99_68 (by decide) ?_
            first | refine G_subN (pc := 70) f_99_70 (by omega) ?_ | refine G_subZ (pc := 70) f_99_70 (by first | rfl | exact nI_zI _) (by first | rfl | exact nI_zI _) ?_ | refine G_S (pc := 70) f_99_70 rfl rfl rfl ?_
            refine G_iaN (pc := 71) f_99_71 (by first | assumption | exact hK.1 _ _ rfl) (by omega) (by omega) (by first | assumption | exact q1 _ (by omega) | exact q2 _ (by omega) | exact q3 _ (by omega) | exact q4 _ (by omega) | exact q5 _ (by omega) | exact vh _ (by omega) | exact (vr _ (by omega)).1 | exact (vr _ (by omega)).2 | exact vw _ (by omega) | exact vf _ (by omega) (by omega) | exact mI_s | ((refine mI_o (by first | decide | omega) ?_); (repeat (refine mI_o (by first | decide | omega) ?_)); first | exact mI_s | assumption | exact q1 _ (by omega) | exact q2 _ (by omega) | exact q3 _ (by omega) | exact q4 _ (by omega) | exact q5 _ (by omega) | exact vh _ (by omega) | exact (vr _ (by omega)).1 | exact (vr _ (by omega)).2 | exact vw _ (by omega) | exact vf _ (by omega) (by omega)) | rfl) ?_
            refine G_S (pc := 72) f_99_72 rfl rfl rfl ?_
            refine G_ri (pc := 77) f_99_77 ?_
            refine ⟨?_, rfl⟩
            congr 2
            unfold fiF
            first
              | (exfalso; omega)
              | rw [if_pos b1]
              | rw [if_neg b1, if_pos (show x.toInt = 1 by omega)]
              | rw [nI_toInt (by omega), Int.toNat_natCast, if_neg (by omega), if_neg (by omega), if_pos (by omega)]
              | rw [nI_toInt (by omega), Int.toNat_natCast, if_neg (by omega), if_neg (by omega), if_neg (by omega), if_pos (by omega)]
              | rw [if_neg (by omega), if_neg (by omega), if_neg (by omega), if_neg (by omega)]
      · refine G_S (pc := 25) f_99_25 rfl rfl rfl ?_
        refine G_bi (v := nI 10) (pc := 26) f_99_26 (by decide) ?_
        refine G_S (pc := 28) f_99_28 rfl rfl rfl ?_
        refine G_gIv (pc := 29) f_99_29 (by decide) rfl (by decide) (by first | assumption | exact hK.1 _ _ rfl) (by first | assumption | exact mI_s | ((refine mI_o (by first | decide | omega) ?_); (repeat (refine mI_o (by first | decide | omega) ?_)); first | exact mI_s | assumption) | rfl) ?_
        first | refine G_addN (pc := 32) f_99_32 ?_ | refine G_addZ (pc := 32) f_99_32 (by first | rfl | exact nI_zI _) (by first | rfl | exact nI_zI _) ?_ | refine G_S (pc := 32) f_99_32 rfl rfl rfl ?_
        refine G_jgeZ (pc := 33) f_99_33 rfl (by first | exact nI_toInt (by omega) | exact zI_toInt (by omega) (by omega) | rfl) (by first | exact nI_toInt (by omega) | exact zI_toInt (by omega) (by omega) | rfl) (fun b4 => ?_) (fun b4 => ?_)
        · refine G_S (pc := 46) f_99_46 rfl rfl rfl ?_
          refine G_bi (v := nI 20) (pc := 47) f_99_47 (by decide) ?_
          refine G_jltZ (pc := 49) f_99_49 rfl (by first | exact nI_toInt (by omega) | exact zI_toInt (by omega) (by omega) | rfl) (by first | exact nI_toInt (by omega) | exact zI_toInt (by omega) (by omega) | rfl) (fun b5 => ?_) (fun b5 => ?_)
          · refine G_bi (v := zI (-2)) (pc := 75) f_99_75 (by decide) ?_
            refine G_ri (pc := 77) f_99_77 ?_
            refine ⟨?_, rfl⟩
            congr 2
            unfold fiF
            first
              | (exfalso; omega)
              | rw [if_pos b1]
              | rw [if_neg b1, if_pos (show x.toInt = 1 by omega)]
              | rw [nI_toInt (by omega), Int.toNat_natCast, if_neg (by omega), if_neg (by omega), if_pos (by omega)]
              | rw [nI_toInt (by omega), Int.toNat_natCast, if_neg (by omega), if_neg (by omega), if_neg (by omega), if_pos (by omega)]
              | rw [if_neg (by omega), if_neg (by omega), if_neg (by omega), if_neg (by omega)]
          · refine G_S (pc := 52) f_99_52 rfl rfl rfl ?_
            refine G_bi (v := nI 20) (pc := 53) f_99_53 (by decide) ?_
            refine G_S (pc := 55) f_99_55 rfl rfl rfl ?_
            refine G_gIv (pc := 56) f_99_56 (by decide) rfl (by decide) (by first | assumption | exact hK.1 _ _ rfl) (by first | assumption | exact mI_s | ((refine mI_o (by first | decide | omega) ?_); (repeat (refine mI_o (by first | decide | omega) ?_)); first | exact mI_s | assumption) | rfl) ?_
            first | refine G_addN (pc := 59) f_99_59 ?_ | refine G_addZ (pc := 59) f_99_59 (by first | rfl | exact nI_zI _) (by first | rfl | exact nI_zI _) ?_ | refine G_S (pc := 59) f_99_59 rfl rfl rfl ?_
            refine G_jgeZ (pc := 60) f_99_60 rfl (by first | exact nI_toInt (by omega) | exact zI_toInt (by omega) (by omega) | rfl) (by first | exact nI_toInt (by omega) | exact zI_toInt (by omega) (by omega) | rfl) (fun b6 => ?_) (fun b6 => ?_)
            · refine G_bi (v := zI (-2)) (pc := 75) f_99_75 (by decide) ?_
              refine G_ri (pc := 77) f_99_77 ?_
              refine ⟨?_, rfl⟩
              congr 2
              unfold fiF
              first
                | (exfalso; omega)
                | rw [if_pos b1]
                | rw [if_neg b1, if_pos (show x.toInt = 1 by omega)]
                | rw [nI_toInt (by omega), Int.toNat_natCast, if_neg (by omega), if_neg (by omega), if_pos (by omega)]
                | rw [nI_toInt (by omega), Int.toNat_natCast, if_neg (by omega), if_neg (by omega), if_neg (by omega), if_pos (by omega)]
                | rw [if_neg (by omega), if_neg (by omega), if_neg (by omega), if_neg (by omega)]
            · obtain ⟨c, hc, rfl⟩ := i_nat (x := x) (n := 24) (by omega) (by omega)
              rw [nI_toInt (by omega)] at *
              refine G_S (pc := 63) f_99_63 rfl rfl rfl ?_
              refine G_gR (pc := 64) f_99_64 (by decide) rfl (by first | assumption | exact hK.1 _ _ rfl) (by first | assumption | exact hK.2 _ _ _ rfl | (try dsimp only) <;> (repeat (first | exact up2_s | refine up2_o (by first | decide | omega) ?_)) <;> first | assumption | exact hK.2 _ _ _ rfl) ?_
              refine G_S (pc := 67) f_99_67 rfl rfl rfl ?_
              refine G_bi (v := nI 20) (pc := 68) f_99_68 (by decide) ?_
              first | refine G_subN (pc := 70) f_99_70 (by omega) ?_ | refine G_subZ (pc := 70) f_99_70 (by first | rfl | exact nI_zI _) (by first | rfl | exact nI_zI _) ?_ | refine G_S (pc := 70) f_99_70 rfl rfl rfl ?_
              refine G_iaN (pc := 71) f_99_71 (by first | assumption | exact hK.1 _ _ rfl) (by omega) (by omega) (by first | assumption | exact q1 _ (by omega) | exact q2 _ (by omega) | exact q3 _ (by omega) | exact q4 _ (by omega) | exact q5 _ (by omega) | exact vh _ (by omega) | exact (vr _ (by omega)).1 | exact (vr _ (by omega)).2 | exact vw _ (by omega) | exact vf _ (by omega) (by omega) | exact mI_s | ((refine mI_o (by first | decide | omega) ?_); (repeat (refine mI_o (by first | decide | omega) ?_)); first | exact mI_s | assumption | exact q1 _ (by omega) | exact q2 _ (by omega) | exact q3 _ (by omega) | exact q4 _ (by omega) | exact q5 _ (by omega) | exact vh _ (by omega) | exact (vr _ (by omega)).1 | exact (vr _ (by omega)).2 | exact vw _ (by omega) | exact vf _ (by omega) (by omega)) | rfl) ?_
              refine G_S (pc := 72) f_99_72 rfl rfl rfl ?_
              refine G_ri (pc := 77) f_99_77 ?_
              refine ⟨?_, rfl⟩
              congr 2
              unfold fiF
              first
                | (exfalso; omega)
                | rw [if_pos b1]
                | rw [if_neg b1, if_pos (show x.toInt = 1 by omega)]
                | rw [nI_toInt (by omega), Int.toNat_natCast, if_neg (by omega), if_neg (by omega), if_pos (by omega)]
                | rw [nI_toInt (by omega), Int.toNat_natCast, if_neg (by omega), if_neg (by omega), if_neg (by omega), if_pos (by omega)]
                | rw [if_neg (by omega), if_neg (by omega), if_neg (by omega), if_neg (by omega)]
        · obtain ⟨c, hc, rfl⟩ := i_nat (x := x) (n := 14) (by omega) (by omega)
          rw [nI_toInt (by omega)] at b1 b2 b3 b4
          refine G_S (pc := 36) f_99_36 rfl rfl rfl ?_
          refine G_gR (pc := 37) f_99_37 (by decide) rfl (by first | assumption | exact hK.1 _ _ rfl) (by first | assumption | exact hK.2 _ _ _ rfl | (try dsimp only) <;> (repeat (first | exact up2_s | refine up2_o (by first | decide | omega) ?_)) <;> first | assumption | exact hK.2 _ _ _ rfl) ?_
          refine G_S (pc := 40) f_99_40 rfl rfl rfl ?_
          refine G_bi (v := nI 10) (pc := 41) f_99_41 (by decide) ?_
          first | refine G_subN (pc := 43) f_99_43 (by omega) ?_ | refine G_subZ (pc := 43) f_99_43 (by first | rfl | exact nI_zI _) (by first | rfl | exact nI_zI _) ?_ | refine G_S (pc := 43) f_99_43 rfl rfl rfl ?_
          refine G_iaN (pc := 44) f_99_44 (by first | assumption | exact hK.1 _ _ rfl) (by omega) (by omega) (by first | assumption | exact q1 _ (by omega) | exact q2 _ (by omega) | exact q3 _ (by omega) | exact q4 _ (by omega) | exact q5 _ (by omega) | exact vh _ (by omega) | exact (vr _ (by omega)).1 | exact (vr _ (by omega)).2 | exact vw _ (by omega) | exact vf _ (by omega) (by omega) | exact mI_s | ((refine mI_o (by first | decide | omega) ?_); (repeat (refine mI_o (by first | decide | omega) ?_)); first | exact mI_s | assumption | exact q1 _ (by omega) | exact q2 _ (by omega) | exact q3 _ (by omega) | exact q4 _ (by omega) | exact q5 _ (by omega) | exact vh _ (by omega) | exact (vr _ (by omega)).1 | exact (vr _ (by omega)).2 | exact vw _ (by omega) | exact vf _ (by omega) (by omega)) | rfl) ?_
          refine G_ri (pc := 45) f_99_45 ?_
          refine ⟨?_, rfl⟩
          congr 2
          unfold fiF
          first
            | (exfalso; omega)
            | rw [if_pos b1]
            | rw [if_neg b1, if_pos (show x.toInt = 1 by omega)]
            | rw [nI_toInt (by omega), Int.toNat_natCast, if_neg (by omega), if_neg (by omega), if_pos (by omega)]
            | rw [nI_toInt (by omega), Int.toNat_natCast, if_neg (by omega), if_neg (by omega), if_neg (by omega), if_pos (by omega)]
            | rw [if_neg (by omega), if_neg (by omega), if_neg (by omega), if_neg (by omega)]
    · refine G_S (pc := 14) f_99_14 rfl rfl rfl ?_
      refine G_gIv (pc := 15) f_99_15 (by decide) rfl (by decide) (by first | assumption | exact hK.1 _ _ rfl) (by first | assumption | exact mI_s | ((refine mI_o (by first | decide | omega) ?_); (repeat (refine mI_o (by first | decide | omega) ?_)); first | exact mI_s | assumption) | rfl) ?_
      refine G_ri (pc := 18) f_99_18 ?_
      refine ⟨?_, rfl⟩
      congr 2
      unfold fiF
      first
        | (exfalso; omega)
        | rw [if_pos b1]
        | rw [if_neg b1, if_pos (show x.toInt = 1 by omega)]
        | rw [nI_toInt (by omega), Int.toNat_natCast, if_neg (by omega), if_neg (by omega), if_pos (by omega)]
        | rw [nI_toInt (by omega), Int.toNat_natCast, if_neg (by omega), if_neg (by omega), if_neg (by omega), if_pos (by omega)]
        | rw [if_neg (by omega), if_neg (by omega), if_neg (by omega), if_neg (by omega)]
  · refine G_S (pc := 4) f_99_4 rfl rfl rfl ?_
    refine G_gIv (pc := 5) f_99_5 (by decide) rfl (by decide) (by first | assumption | exact hK.1 _ _ rfl) (by first | assumption | exact mI_s | ((refine mI_o (by first | decide | omega) ?_); (repeat (refine mI_o (by first | decide | omega) ?_)); first | exact mI_s | assumption) | rfl) ?_
    refine G_ri (pc := 8) f_99_8 ?_
    refine ⟨?_, rfl⟩
    congr 2
    unfold fiF
    first
      | (exfalso; omega)
      | rw [if_pos b1]
      | rw [if_neg b1, if_pos (show x.toInt = 1 by omega)]
      | rw [nI_toInt (by omega), Int.toNat_natCast, if_neg (by omega), if_neg (by omega), if_pos (by omega)]
      | rw [nI_toInt (by omega), Int.toNat_natCast, if_neg (by omega), if_neg (by omega), if_neg (by omega), if_pos (by omega)]
      | rw [if_neg (by omega), if_neg (by omega), if_neg (by omega), if_neg (by omega)]
theorem s_answer {k : Int32} (W : SWd M u Z) : CG C 98 [.ref u, .int k, .int x] M (fun v M' => v = some (.int (faF Z k x)) ∧ M' = M) := by
  have hK := W.1
  obtain ⟨⟨t0, t1, t2, t3, t4, t5⟩, r1, r2, r3, r4, r5⟩ := W.2.1
  obtain ⟨hZ, v0, v1, q1, q2, q3⟩ := W.2.2.1
  have hu := W.2.2.2
  have hz0 := hZ.1
  have hz1 := hZ.2.1
  have hzf := hZ.2.2
  by_cases hk : 0 ≤ k.toInt ∧ k.toInt < (Z 1 : Int)
  · obtain ⟨c, hc, rfl⟩ := i_nat hk.1 hk.2
    rw [nI_toInt (by omega)] at hk
    have hz := hzf c (by omega)
    refine CG_in (mL := 3) (hl := false) (lv := [some (.ref u), some (.int (nI c)), some (.int x)]) (ll := []) rfl rfl rfl ?_
    refine G_S (pc := 0) f_98_0 rfl rfl rfl ?_
    refine G_ic (v := zI (-1)) (pc := 1) f_98_1 (by decide) ?_
    refine G_jneZ (pc := 2) f_98_2 rfl (by first | exact nI_toInt (by omega) | exact zI_toInt (by omega) (by omega) | rfl) (by first | exact nI_toInt (by omega) | exact zI_toInt (by omega) (by omega) | rfl) (fun b1 => ?_) (fun b1 => ?_)
    · refine G_S (pc := 31) f_98_31 rfl rfl rfl ?_
      refine G_zltZ (pc := 32) f_98_32 rfl (by first | exact nI_toInt (by omega) | exact zI_toInt (by omega) (by omega) | rfl) (fun b4 => ?_) (fun b4 => ?_)
      · exfalso; omega
      · refine G_S (pc := 35) f_98_35 rfl rfl rfl ?_
        refine G_S (pc := 36) f_98_36 rfl rfl rfl ?_
        refine G_gIv (pc := 37) f_98_37 (by decide) rfl (by decide) (by first | assumption | exact hK.1 _ _ rfl) (by first | assumption | exact mI_s | ((refine mI_o (by first | decide | omega) ?_); (repeat (refine mI_o (by first | decide | omega) ?_)); first | exact mI_s | assumption) | rfl) ?_
        refine G_jltZ (pc := 40) f_98_40 rfl (by first | exact nI_toInt (by omega) | exact zI_toInt (by omega) (by omega) | rfl) (by first | exact nI_toInt (by omega) | exact zI_toInt (by omega) (by omega) | rfl) (fun b5 => ?_) (fun b5 => ?_)
        · refine G_S (pc := 46) f_98_46 rfl rfl rfl ?_
          rcases sw3 x with rfl | rfl | rfl | hw
          · refine G_S (pc := 47) f_98_47 rfl rfl rfl ?_
            refine G_S (pc := 72) f_98_72 rfl rfl rfl ?_
            refine G_gR (pc := 73) f_98_73 (by decide) rfl (by first | assumption | exact hK.1 _ _ rfl) (by first | assumption | exact hK.2 _ _ _ rfl | (try dsimp only) <;> (repeat (first | exact up2_s | refine up2_o (by first | decide | omega) ?_)) <;> first | assumption | exact hK.2 _ _ _ rfl) ?_
            refine G_S (pc := 76) f_98_76 rfl rfl rfl ?_
            refine G_iaN (pc := 77) f_98_77 (by first | assumption | exact hK.1 _ _ rfl) (by omega) (by omega) (by first | assumption | exact q1 _ (by omega) | exact q2 _ (by omega) | exact q3 _ (by omega) | exact q4 _ (by omega) | exact q5 _ (by omega) | exact vh _ (by omega) | exact (vr _ (by omega)).1 | exact (vr _ (by omega)).2 | exact vw _ (by omega) | exact vf _ (by omega) (by omega) | exact mI_s | ((refine mI_o (by first | decide | omega) ?_); (repeat (refine mI_o (by first | decide | omega) ?_)); first | exact mI_s | assumption | exact q1 _ (by omega) | exact q2 _ (by omega) | exact q3 _ (by omega) | exact q4 _ (by omega) | exact q5 _ (by omega) | exact vh _ (by omega) | exact (vr _ (by omega)).1 | exact (vr _ (by omega)).2 | exact vw _ (by omega) | exact vf _ (by omega) (by omega)) | rfl) ?_
            refine G_ri (pc := 78) f_98_78 ?_
            refine ⟨?_, rfl⟩
            congr 2
            unfold faF
            rw [nI_toInt (by omega), if_neg (by omega), Int.toNat_natCast]
            first
              | (rw [if_neg (by omega)]; done)
              | (rw [if_pos ⟨by omega, by decide, by decide⟩]; first | rfl | (congr 2; omega))
              | (rw [if_pos ⟨by omega, by decide, by decide⟩, show (nI 1).toInt.toNat = 1 from by decide, show 2 + 3 * c + 1 = 3 + 3 * c by omega])
              | (rw [if_pos ⟨by omega, by decide, by decide⟩, show (nI 2).toInt.toNat = 2 from by decide, show 2 + 3 * c + 2 = 4 + 3 * c by omega])
          · refine G_S (pc := 47) f_98_47 rfl rfl rfl ?_
            refine G_S (pc := 79) f_98_79 rfl rfl rfl ?_
            refine G_gR (pc := 80) f_98_80 (by decide) rfl (by first | assumption | exact hK.1 _ _ rfl) (by first | assumption | exact hK.2 _ _ _ rfl | (try dsimp only) <;> (repeat (first | exact up2_s | refine up2_o (by first | decide | omega) ?_)) <;> first | assumption | exact hK.2 _ _ _ rfl) ?_
            refine G_S (pc := 83) f_98_83 rfl rfl rfl ?_
            refine G_iaN (pc := 84) f_98_84 (by first | assumption | exact hK.1 _ _ rfl) (by omega) (by omega) (by first | assumption | exact q1 _ (by omega) | exact q2 _ (by omega) | exact q3 _ (by omega) | exact q4 _ (by omega) | exact q5 _ (by omega) | exact vh _ (by omega) | exact (vr _ (by omega)).1 | exact (vr _ (by omega)).2 | exact vw _ (by omega) | exact vf _ (by omega) (by omega) | exact mI_s | ((refine mI_o (by first | decide | omega) ?_); (repeat (refine mI_o (by first | decide | omega) ?_)); first | exact mI_s | assumption | exact q1 _ (by omega) | exact q2 _ (by omega) | exact q3 _ (by omega) | exact q4 _ (by omega) | exact q5 _ (by omega) | exact vh _ (by omega) | exact (vr _ (by omega)).1 | exact (vr _ (by omega)).2 | exact vw _ (by omega) | exact vf _ (by omega) (by omega)) | rfl) ?_
            refine G_ri (pc := 85) f_98_85 ?_
            refine ⟨?_, rfl⟩
            congr 2
            unfold faF
            rw [nI_toInt (by omega), if_neg (by omega), Int.toNat_natCast]
            first
              | (rw [if_neg (by omega)]; done)
              | (rw [if_pos ⟨by omega, by decide, by decide⟩]; first | rfl | (congr 2; omega))
              | (rw [if_pos ⟨by omega, by decide, by decide⟩, show (nI 1).toInt.toNat = 1 from by decide, show 2 + 3 * c + 1 = 3 + 3 * c by omega])
              | (rw [if_pos ⟨by omega, by decide, by decide⟩, show (nI 2).toInt.toNat = 2 from by decide, show 2 + 3 * c + 2 = 4 + 3 * c by omega])
          · refine G_S (pc := 47) f_98_47 rfl rfl rfl ?_
            refine G_S (pc := 86) f_98_86 rfl rfl rfl ?_
            refine G_gR (pc := 87) f_98_87 (by decide) rfl (by first | assumption | exact hK.1 _ _ rfl) (by first | assumption | exact hK.2 _ _ _ rfl | (try dsimp only) <;> (repeat (first | exact up2_s | refine up2_o (by first | decide | omega) ?_)) <;> first | assumption | exact hK.2 _ _ _ rfl) ?_
            refine G_S (pc := 90) f_98_90 rfl rfl rfl ?_
            refine G_iaN (pc := 91) f_98_91 (by first | assumption | exact hK.1 _ _ rfl) (by omega) (by omega) (by first | assumption | exact q1 _ (by omega) | exact q2 _ (by omega) | exact q3 _ (by omega) | exact q4 _ (by omega) | exact q5 _ (by omega) | exact vh _ (by omega) | exact (vr _ (by omega)).1 | exact (vr _ (by omega)).2 | exact vw _ (by omega) | exact vf _ (by omega) (by omega) | exact mI_s | ((refine mI_o (by first | decide | omega) ?_); (repeat (refine mI_o (by first | decide | omega) ?_)); first | exact mI_s | assumption | exact q1 _ (by omega) | exact q2 _ (by omega) | exact q3 _ (by omega) | exact q4 _ (by omega) | exact q5 _ (by omega) | exact vh _ (by omega) | exact (vr _ (by omega)).1 | exact (vr _ (by omega)).2 | exact vw _ (by omega) | exact vf _ (by omega) (by omega)) | rfl) ?_
            refine G_ri (pc := 92) f_98_92 ?_
            refine ⟨?_, rfl⟩
            congr 2
            unfold faF
            rw [nI_toInt (by omega), if_neg (by omega), Int.toNat_natCast]
            first
              | (rw [if_neg (by omega)]; done)
              | (rw [if_pos ⟨by omega, by decide, by decide⟩]; first | rfl | (congr 2; omega))
              | (rw [if_pos ⟨by omega, by decide, by decide⟩, show (nI 1).toInt.toNat = 1 from by decide, show 2 + 3 * c + 1 = 3 + 3 * c by omega])
              | (rw [if_pos ⟨by omega, by decide, by decide⟩, show (nI 2).toInt.toNat = 2 from by decide, show 2 + 3 * c + 2 = 4 + 3 * c by omega])
          · refine G_tsO (pc := 47) f_98_47 rfl (hw) ?_
            refine G_bi (v := zI (-2)) (pc := 93) f_98_93 (by decide) ?_
            refine G_ri (pc := 95) f_98_95 ?_
            refine ⟨?_, rfl⟩
            congr 2
            unfold faF
            rw [nI_toInt (by omega), if_neg (by omega), Int.toNat_natCast]
            first
              | (rw [if_neg (by omega)]; done)
              | (rw [if_pos ⟨by omega, by decide, by decide⟩]; first | rfl | (congr 2; omega))
              | (rw [if_pos ⟨by omega, by decide, by decide⟩, show (nI 1).toInt.toNat = 1 from by decide, show 2 + 3 * c + 1 = 3 + 3 * c by omega])
              | (rw [if_pos ⟨by omega, by decide, by decide⟩, show (nI 2).toInt.toNat = 2 from by decide, show 2 + 3 * c + 2 = 4 + 3 * c by omega])
        · exfalso; omega
    · exfalso; omega
  · refine CG_in (mL := 3) (hl := false) (lv := [some (.ref u), some (.int k), some (.int x)]) (ll := []) rfl rfl rfl ?_
    refine G_S (pc := 0) f_98_0 rfl rfl rfl ?_
    refine G_ic (v := zI (-1)) (pc := 1) f_98_1 (by decide) ?_
    refine G_jneZ (pc := 2) f_98_2 rfl (by first | exact nI_toInt (by omega) | exact zI_toInt (by omega) (by omega) | rfl) (by first | exact nI_toInt (by omega) | exact zI_toInt (by omega) (by omega) | rfl) (fun b1 => ?_) (fun b1 => ?_)
    · refine G_S (pc := 31) f_98_31 rfl rfl rfl ?_
      refine G_zltZ (pc := 32) f_98_32 rfl (by first | exact nI_toInt (by omega) | exact zI_toInt (by omega) (by omega) | rfl) (fun b4 => ?_) (fun b4 => ?_)
      · refine G_bi (v := zI (-2)) (pc := 43) f_98_43 (by decide) ?_
        refine G_ri (pc := 45) f_98_45 ?_
        refine ⟨?_, rfl⟩
        congr 2
        unfold faF
        first
          | (exfalso; omega)
          | rw [if_pos (by omega), if_pos (by omega)]
          | rw [if_pos (by omega), if_neg (by omega), if_pos (by omega)]
          | rw [if_pos (by omega), if_neg (by omega), if_neg (by omega)]
          | rw [if_neg (by omega), if_neg (fun q => hk q.1)]
      · refine G_S (pc := 35) f_98_35 rfl rfl rfl ?_
        refine G_S (pc := 36) f_98_36 rfl rfl rfl ?_
        refine G_gIv (pc := 37) f_98_37 (by decide) rfl (by decide) (by first | assumption | exact hK.1 _ _ rfl) (by first | assumption | exact mI_s | ((refine mI_o (by first | decide | omega) ?_); (repeat (refine mI_o (by first | decide | omega) ?_)); first | exact mI_s | assumption) | rfl) ?_
        refine G_jltZ (pc := 40) f_98_40 rfl (by first | exact nI_toInt (by omega) | exact zI_toInt (by omega) (by omega) | rfl) (by first | exact nI_toInt (by omega) | exact zI_toInt (by omega) (by omega) | rfl) (fun b5 => ?_) (fun b5 => ?_)
        · exfalso; omega
        · refine G_bi (v := zI (-2)) (pc := 43) f_98_43 (by decide) ?_
          refine G_ri (pc := 45) f_98_45 ?_
          refine ⟨?_, rfl⟩
          congr 2
          unfold faF
          first
            | (exfalso; omega)
            | rw [if_pos (by omega), if_pos (by omega)]
            | rw [if_pos (by omega), if_neg (by omega), if_pos (by omega)]
            | rw [if_pos (by omega), if_neg (by omega), if_neg (by omega)]
            | rw [if_neg (by omega), if_neg (fun q => hk q.1)]
    · refine G_S (pc := 5) f_98_5 rfl rfl rfl ?_
      first | refine G_bNe (pc := 6) f_98_6 rfl (fun b2 => ?_) (fun b2 => ?_) | refine G_zneZ (pc := 6) f_98_6 rfl (by first | exact nI_toInt (by omega) | exact zI_toInt (by omega) (by omega) | rfl) (fun b2 => ?_) (fun b2 => ?_)
      · refine G_S (pc := 16) f_98_16 rfl rfl rfl ?_
        refine G_ic (v := nI 1) (pc := 17) f_98_17 (by decide) ?_
        refine G_jneZ (pc := 18) f_98_18 rfl (by first | exact nI_toInt (by omega) | exact zI_toInt (by omega) (by omega) | rfl) (by first | exact nI_toInt (by omega) | exact zI_toInt (by omega) (by omega) | rfl) (fun b3 => ?_) (fun b3 => ?_)
        · refine G_bi (v := zI (-2)) (pc := 28) f_98_28 (by decide) ?_
          refine G_ri (pc := 30) f_98_30 ?_
          refine ⟨?_, rfl⟩
          congr 2
          unfold faF
          first
            | (exfalso; omega)
            | rw [if_pos (by omega), if_pos (by omega)]
            | rw [if_pos (by omega), if_neg (by omega), if_pos (by omega)]
            | rw [if_pos (by omega), if_neg (by omega), if_neg (by omega)]
            | rw [if_neg (by omega), if_neg (fun q => hk q.1)]
        · refine G_S (pc := 21) f_98_21 rfl rfl rfl ?_
          refine G_gIv (pc := 22) f_98_22 (by decide) rfl (by decide) (by first | assumption | exact hK.1 _ _ rfl) (by first | assumption | exact mI_s | ((refine mI_o (by first | decide | omega) ?_); (repeat (refine mI_o (by first | decide | omega) ?_)); first | exact mI_s | assumption) | rfl) ?_
          refine G_S (pc := 25) f_98_25 rfl rfl rfl ?_
          refine G_ri (pc := 30) f_98_30 ?_
          refine ⟨?_, rfl⟩
          congr 2
          unfold faF
          first
            | (exfalso; omega)
            | rw [if_pos (by omega), if_pos (by omega)]
            | rw [if_pos (by omega), if_neg (by omega), if_pos (by omega)]
            | rw [if_pos (by omega), if_neg (by omega), if_neg (by omega)]
            | rw [if_neg (by omega), if_neg (fun q => hk q.1)]
      · refine G_S (pc := 9) f_98_9 rfl rfl rfl ?_
        refine G_gIv (pc := 10) f_98_10 (by decide) rfl (by decide) (by first | assumption | exact hK.1 _ _ rfl) (by first | assumption | exact mI_s | ((refine mI_o (by first | decide | omega) ?_); (repeat (refine mI_o (by first | decide | omega) ?_)); first | exact mI_s | assumption) | rfl) ?_
        refine G_S (pc := 13) f_98_13 rfl rfl rfl ?_
        refine G_ri (pc := 30) f_98_30 ?_
        refine ⟨?_, rfl⟩
        congr 2
        unfold faF
        first
          | (exfalso; omega)
          | rw [if_pos (by omega), if_pos (by omega)]
          | rw [if_pos (by omega), if_neg (by omega), if_pos (by omega)]
          | rw [if_pos (by omega), if_neg (by omega), if_neg (by omega)]
          | rw [if_neg (by omega), if_neg (fun q => hk q.1)]
end CJ
