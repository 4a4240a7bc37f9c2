/-! orders: the class -/
def aForL (o : Option ((Nat → Nat) × Nat)) : Int64 := match o with
  | none => -1
  | some q => nL (prF q.1 q.2 (q.1 0))
section ORC
variable {C : Ct} {M : Mm} {n h S : Nat} {L : Nat → Nat → Nat} {k x : Int32} {D b : Nat → Nat}
theorem CW.st84 {i : Nat} (W : CW M h D b) : CW (M.1, up2 M.2.1 84 i x, M.2.2.1, M.2.2.2) h D b := ⟨W.1.fc (Fc.up (os := [84]) (i := 84) (k := i) (x := x) (by decide)) (by decide), W.2.1, fun r hr => ⟨(by (try dsimp only); exact up2_o (by omega) (W.2.2 r hr).1), (W.2.2 r hr).2⟩⟩
theorem k_upTo {p : Nat} (W : CW M h D b) (hp : p ≤ 5000) : CG C 31 [.ref 82, .int (nI p)] M (fun w M' => w = some (.int (nI (cu D p (D 0)))) ∧ M' = M) := by
  have rl := W.2.1
  have W1 := W.1
  have hK := W1.1
  obtain ⟨⟨t0, t1, t2, t3, t4, t5, t6⟩, r0, r3, r4, r6, r7, r8⟩ := W1.2.1
  obtain ⟨hD, ⟨v0, v1, v2⟩, vh, vr, vw, vf⟩ := W1.2.2.1
  have hs := W1.2.2.2.1
  have hh := W1.2.2.2.2
  have hn0 : _ ≤ 8 := hD.1
  have hn1 : _ ≤ 6 := hD.2.1.2
  have hn2 : _ ≤ 8 := hD.2.2.1
  have loop : ∀ i, i ≤ D 0 → G C 31 (4, [some (.ref 82), some (.int (nI p)), some (.int (nI (cu D p i))), some (.int (nI i))], [], [], M) (fun w M' => w = some (.int (nI (cu D p (D 0)))) ∧ M' = M) := by
    refine upto (fun i hi ih => ?_)
    have hh9 : i < D 0 → D (3 + i) ≤ 99 := fun q => hD.2.2.2.1 i (by omega)
    have hci := cu_le D p i
    refine G_S (pc := 4) f_31_4 rfl rfl rfl ?_
    refine G_S (pc := 5) f_31_5 rfl rfl rfl ?_
    refine G_gR (pc := 6) f_31_6 (by decide) rfl (by first | assumption | exact hK.1 _ _ rfl) (by first | assumption | exact hK.2 _ _ _ rfl | (try dsimp only) <;> (repeat (first | exact up2_s | refine up2_o (by first | decide | omega) ?_)) <;> first | assumption | exact hK.2 _ _ _ rfl) ?_
    refine G_gIv (pc := 9) f_31_9 (by decide) rfl (by decide) (by first | assumption | exact hK.1 _ _ rfl) (by first | assumption | exact mI_s | ((refine mI_o (by first | decide | omega) ?_); (repeat (refine mI_o (by first | decide | omega) ?_)); first | exact mI_s | assumption) | rfl) ?_
    refine G_jgeZ (pc := 12) f_31_12 rfl (by first | exact nI_toInt (by omega) | exact zI_toInt (by omega) (by omega) | rfl) (by first | exact nI_toInt (by omega) | exact zI_toInt (by omega) (by omega) | rfl) (fun b1 => ?_) (fun b1 => ?_)
    · refine G_S (pc := 37) f_31_37 rfl rfl rfl ?_
      refine G_ri (pc := 38) f_31_38 ?_
      rw [show i = D 0 by omega]
      exact ⟨rfl, rfl⟩
    · have hh9 := hh9 (by omega)
      refine G_S (pc := 15) f_31_15 rfl rfl rfl ?_
      refine G_gR (pc := 16) f_31_16 (by decide) rfl (by first | assumption | exact hK.1 _ _ rfl) (by first | assumption | exact hK.2 _ _ _ rfl | (try dsimp only) <;> (repeat (first | exact up2_s | refine up2_o (by first | decide | omega) ?_)) <;> first | assumption | exact hK.2 _ _ _ rfl) ?_
      refine G_gR (pc := 19) f_31_19 (by decide) rfl (by first | assumption | exact hK.1 _ _ rfl) (by first | assumption | exact hK.2 _ _ _ rfl | (try dsimp only) <;> (repeat (first | exact up2_s | refine up2_o (by first | decide | omega) ?_)) <;> first | assumption | exact hK.2 _ _ _ rfl) ?_
      refine G_S (pc := 22) f_31_22 rfl rfl rfl ?_
      refine G_iaN (pc := 23) f_31_23 (by first | assumption | exact hK.1 _ _ rfl) (by omega) (by omega) (by first | assumption | exact q1 _ (by omega) | exact q2 _ (by omega) | exact q3 _ (by omega) | exact q4 _ (by omega) | exact q5 _ (by omega) | exact vh _ (by omega) | exact (vr _ (by omega)).1 | exact (vr _ (by omega)).2 | exact vw _ (by omega) | exact vf _ (by omega) (by omega) | exact mI_s | ((refine mI_o (by first | decide | omega) ?_); (repeat (refine mI_o (by first | decide | omega) ?_)); first | exact mI_s | assumption | exact q1 _ (by omega) | exact q2 _ (by omega) | exact q3 _ (by omega) | exact q4 _ (by omega) | exact q5 _ (by omega) | exact vh _ (by omega) | exact (vr _ (by omega)).1 | exact (vr _ (by omega)).2 | exact vw _ (by omega) | exact vf _ (by omega) (by omega)) | rfl) ?_
      refine G_S (pc := 24) f_31_24 rfl rfl rfl ?_
      refine G_jgtZ (pc := 25) f_31_25 rfl (by first | exact nI_toInt (by omega) | exact zI_toInt (by omega) (by omega) | rfl) (by first | exact nI_toInt (by omega) | exact zI_toInt (by omega) (by omega) | rfl) (fun b2 => ?_) (fun b2 => ?_)
      · first | refine G_inc1 (pc := 31) f_31_31 rfl ?_ | refine G_S (pc := 31) f_31_31 rfl rfl rfl ?_
        refine G_S (pc := 34) f_31_34 rfl rfl rfl ?_
        have e := ih (by omega)
        have es : cu D p (i + 1) = cu D p i + (if D (3 + i) ≤ p then 1 else 0) := rfl
        first
          | (rw [es, if_pos (by omega)] at e; exact e)
          | (rw [es, if_neg (by omega), Nat.add_zero] at e; exact e)
      · first | refine G_inc1 (pc := 28) f_31_28 rfl ?_ | refine G_S (pc := 28) f_31_28 rfl rfl rfl ?_
        first | refine G_inc1 (pc := 31) f_31_31 rfl ?_ | refine G_S (pc := 31) f_31_31 rfl rfl rfl ?_
        refine G_S (pc := 34) f_31_34 rfl rfl rfl ?_
        have e := ih (by omega)
        have es : cu D p (i + 1) = cu D p i + (if D (3 + i) ≤ p then 1 else 0) := rfl
        first
          | (rw [es, if_pos (by omega)] at e; exact e)
          | (rw [es, if_neg (by omega), Nat.add_zero] at e; exact e)
  refine CG_in (mL := 4) (hl := false) (lv := [some (.ref 82), some (.int (nI p)), none, none]) (ll := []) rfl rfl rfl ?_
  refine G_ic (v := nI 0) (pc := 0) f_31_0 (by decide) ?_
  refine G_S (pc := 1) f_31_1 rfl rfl rfl ?_
  refine G_ic (v := nI 0) (pc := 2) f_31_2 (by decide) ?_
  refine G_S (pc := 3) f_31_3 rfl rfl rfl ?_
  exact loop 0 (Nat.zero_le _)
theorem k_orders (W : LW M h D) (hS : S < 256) : CG C 30 [.ref 82, .ref h, .int (nI S)] M (fun w M' => w = some (.long (nL (prF D S (D 0)))) ∧ Fc [82, 83, 84] M M') := by
  have loop2 : ∀ i, i ≤ D 0 → ∀ M1, Fc [82, 83, 84] M M1 → CW M1 h D (itw D S (D 0)) → (∀ j, j < D 0 → M1.2.1 84 j = nI (puF D S j)) → G C 30 (50, [some (.ref 82), some (.ref h), some (.int (nI S)), none, none, some (.int (nI (D 0 - i))), some (.int ((zI ((i : Int) - 1))))], [none, none, none, some (nL (prF D S (D 0 - i))), none, none, none], [], M1) (fun w M' => w = some (.long (nL (prF D S (D 0)))) ∧ Fc [82, 83, 84] M M') := by
    intro i
    induction i with
    | zero =>
      intro hi M1 hF W1 hp
      refine G_S (pc := 50) f_30_50 rfl rfl rfl ?_
      refine G_zltZ (pc := 52) f_30_52 rfl (by first | exact nI_toInt (by omega) | exact zI_toInt (by omega) (by omega) | rfl) (fun b2 => ?_) (fun b2 => ?_)
      · refine G_S (pc := 86) f_30_86 rfl rfl rfl ?_
        refine G_rl (pc := 87) f_30_87 ?_
        exact ⟨rfl, hF⟩
      · exfalso; omega
    | succ i ih =>
      intro hi M1 hF W1 hp
      have W0 := W1.1
      have hK := W0.1
      obtain ⟨⟨t0, t1, t2, t3, t4, t5, t6⟩, r0, r3, r4, r6, r7, r8⟩ := W0.2.1
      obtain ⟨hD, ⟨v0, v1, v2⟩, vh, vr, vw, vf⟩ := W0.2.2.1
      have hs := W0.2.2.2.1
      have hh := W0.2.2.2.2
      have hn0 : _ ≤ 8 := hD.1
      have hn1 : _ ≤ 6 := hD.2.1.2
      have hn2 : _ ≤ 8 := hD.2.2.1
      have ei : zI (((i + 1 : Nat) : Int) - 1) = nI i := by
        rw [nI_zI]
        congr 1
        omega
      rw [ei]
      have hpi := hp i (by omega)
      have hq := puF_le D S i hn2
      have hcu := cu_le D (puF D S i) (D 0)
      refine G_S (pc := 50) f_30_50 rfl rfl rfl ?_
      refine G_zltZ (pc := 52) f_30_52 rfl (by first | exact nI_toInt (by omega) | exact zI_toInt (by omega) (by omega) | rfl) (fun b2 => ?_) (fun b2 => ?_)
      · exfalso; omega
      · refine G_S (pc := 55) f_30_55 rfl rfl rfl ?_
        refine G_ic (v := nI 0) (pc := 56) f_30_56 (by decide) ?_
        refine G_S (pc := 57) f_30_57 rfl rfl rfl ?_
        refine G_S (pc := 58) f_30_58 rfl rfl rfl ?_
        refine G_gR (pc := 59) f_30_59 (by decide) rfl (by first | assumption | exact hK.1 _ _ rfl) (by first | assumption | exact hK.2 _ _ _ rfl | (try dsimp only) <;> (repeat (first | exact up2_s | refine up2_o (by first | decide | omega) ?_)) <;> first | assumption | exact hK.2 _ _ _ rfl) ?_
        refine G_S (pc := 62) f_30_62 rfl rfl rfl ?_
        refine G_iaN (pc := 64) f_30_64 (by first | assumption | exact hK.1 _ _ rfl) (by omega) (by omega) (by first | exact hpi | rfl) ?_
        refine G_CV (pc := 65) f_30_65 rfl rfl (by decide) rfl rfl (by first | assumption | exact hK.1 _ _ rfl) (by decide) ⟨Nat.le_of_ble_eq_true rfl, Nat.le_of_ble_eq_true rfl⟩ ?_
        refine CG.go (k_upTo W1 hq) ?_
        refine G_S (pc := 68) f_30_68 rfl rfl rfl ?_
        first | refine G_subN (pc := 70) f_30_70 (by omega) ?_ | refine G_subZ (pc := 70) f_30_70 (by first | rfl | exact nI_zI _) (by first | rfl | exact nI_zI _) ?_ | refine G_S (pc := 70) f_30_70 rfl rfl rfl ?_
        first | refine G_maxN (pc := 71) f_30_71 rfl rfl (by omega) (by omega) ?_ | refine G_maxZ (pc := 71) f_30_71 rfl rfl (by first | exact nI_toInt (by omega) | exact zI_toInt (by omega) (by omega) | rfl) (by first | exact nI_toInt (by omega) | exact zI_toInt (by omega) (by omega) | rfl) ?_
        refine G_S (pc := 74) f_30_74 rfl rfl rfl ?_
        refine G_S (pc := 75) f_30_75 rfl rfl rfl ?_
        refine G_S (pc := 76) f_30_76 rfl rfl rfl ?_
        first | refine G_inc1 (pc := 77) f_30_77 rfl ?_ | refine G_S (pc := 77) f_30_77 rfl rfl rfl ?_
        first | refine G_dec1 (pc := 80) f_30_80 rfl (by omega) ?_ | refine G_incZ (pc := 80) f_30_80 rfl (by first | rfl | exact nI_zI _) ?_
        refine G_S (pc := 83) f_30_83 rfl rfl rfl ?_
        have eq : quF D S (D 0 - (i + 1)) = puF D S i := by
          unfold quF
          congr 1
          omega
        have es : prF D S (D 0 - i) = prF D S (D 0 - (i + 1)) * (cu D (puF D S i) (D 0) - (D 0 - (i + 1))) := by
          rw [show D 0 - i = D 0 - (i + 1) + 1 by omega, prF, eq]
        have e := ih (by omega) M1 hF W1 hp
        rw [es, show D 0 - i = D 0 - (i + 1) + 1 by omega] at e
        have em : zI (max ((0 : Nat) : Int) ((cu D (puF D S i) (D 0) : Int) - ((D 0 - (i + 1) : Nat) : Int))) = nI (cu D (puF D S i) (D 0) - (D 0 - (i + 1))) := by
          rw [nI_zI]
          congr 1
          omega
        first
          | (rw [em, nI_toL (by omega), nL_mul]
             exact e)
          | (rw [nI_toL (by omega), nL_mul]
             exact e)
  have loop1 : ∀ i, i ≤ D 0 → ∀ M1, Fc [82, 83, 84] M M1 → CW M1 h D (itw D S i) → (∀ j, j < i → M1.2.1 84 j = nI (puF D S j)) → G C 30 (7, [some (.ref 82), some (.ref h), some (.int (nI S)), some (.int (nI i)), none, none, none], [none, none, none, none, none, none, none], [], M1) (fun w M' => w = some (.long (nL (prF D S (D 0)))) ∧ Fc [82, 83, 84] M M') := by
    refine upto (fun i hi ih M1 hF W1 hp => ?_)
    have W0 := W1.1
    have hK := W0.1
    obtain ⟨⟨t0, t1, t2, t3, t4, t5, t6⟩, r0, r3, r4, r6, r7, r8⟩ := W0.2.1
    obtain ⟨hD, ⟨v0, v1, v2⟩, vh, vr, vw, vf⟩ := W0.2.2.1
    have hs := W0.2.2.2.1
    have hh := W0.2.2.2.2
    have hn0 : _ ≤ 8 := hD.1
    have hn1 : _ ≤ 6 := hD.2.1.2
    have hn2 : _ ≤ 8 := hD.2.2.1
    refine G_S (pc := 7) f_30_7 rfl rfl rfl ?_
    refine G_S (pc := 8) f_30_8 rfl rfl rfl ?_
    refine G_gIv (pc := 9) f_30_9 (by decide) rfl (by decide) (by first | assumption | exact hK.1 _ _ rfl) (by first | assumption | exact mI_s | ((refine mI_o (by first | decide | omega) ?_); (repeat (refine mI_o (by first | decide | omega) ?_)); first | exact mI_s | assumption) | rfl) ?_
    refine G_jgeZ (pc := 12) f_30_12 rfl (by first | exact nI_toInt (by omega) | exact zI_toInt (by omega) (by omega) | rfl) (by first | exact nI_toInt (by omega) | exact zI_toInt (by omega) (by omega) | rfl) (fun b1 => ?_) (fun b1 => ?_)
    · refine G_S (pc := 37) f_30_37 rfl rfl rfl ?_
      refine G_S (pc := 38) f_30_38 rfl rfl rfl ?_
      refine G_ic (v := nI 0) (pc := 39) f_30_39 (by decide) ?_
      refine G_S (pc := 40) f_30_40 rfl rfl rfl ?_
      refine G_S (pc := 42) f_30_42 rfl rfl rfl ?_
      refine G_gIv (pc := 43) f_30_43 (by decide) rfl (by decide) (by first | assumption | exact hK.1 _ _ rfl) (by first | assumption | exact mI_s | ((refine mI_o (by first | decide | omega) ?_); (repeat (refine mI_o (by first | decide | omega) ?_)); first | exact mI_s | assumption) | rfl) ?_
      refine G_ic (v := nI 1) (pc := 46) f_30_46 (by decide) ?_
      first | refine G_subN (pc := 47) f_30_47 (by omega) ?_ | refine G_subZ (pc := 47) f_30_47 (by first | rfl | exact nI_zI _) (by first | rfl | exact nI_zI _) ?_ | refine G_S (pc := 47) f_30_47 rfl rfl rfl ?_
      refine G_S (pc := 48) f_30_48 rfl rfl rfl ?_
      have e : i = D 0 := by omega
      subst e
      have e := loop2 (D 0) (Nat.le_refl _) M1 hF W1 hp
      rw [Nat.sub_self] at e
      by_cases h0 : D 0 = 0
      · rw [h0] at e ⊢
        exact e
      · have ez : zI ((D 0 : Int) - 1) = nI (D 0 - 1) := by
          rw [nI_zI]
          congr 1
          omega
        first
          | exact e
          | (rw [ez] at e; exact e)
    · refine G_S (pc := 15) f_30_15 rfl rfl rfl ?_
      refine G_gR (pc := 16) f_30_16 (by decide) rfl (by first | assumption | exact hK.1 _ _ rfl) (by first | assumption | exact hK.2 _ _ _ rfl | (try dsimp only) <;> (repeat (first | exact up2_s | refine up2_o (by first | decide | omega) ?_)) <;> first | assumption | exact hK.2 _ _ _ rfl) ?_
      refine G_S (pc := 19) f_30_19 rfl rfl rfl ?_
      refine G_S (pc := 20) f_30_20 rfl rfl rfl ?_
      refine G_S (pc := 21) f_30_21 rfl rfl rfl ?_
      refine G_CV (pc := 22) f_30_22 rfl rfl (by decide) rfl rfl (by first | assumption | exact hK.1 _ _ rfl) (by decide) ⟨Nat.le_of_ble_eq_true rfl, Nat.le_of_ble_eq_true rfl⟩ ?_
      refine CG.go (k_pulls W1 hS) ?_
      refine G_isN (pc := 25) f_30_25 (by first | assumption | exact hK.1 _ _ rfl) (by omega) (by omega) ?_
      refine G_S (pc := 26) f_30_26 rfl rfl rfl ?_
      refine G_S (pc := 27) f_30_27 rfl rfl rfl ?_
      refine G_CV (pc := 28) f_30_28 rfl rfl (by decide) rfl rfl (by first | assumption | exact hK.1 _ _ rfl) (by decide) ⟨Nat.le_of_ble_eq_true rfl, Nat.le_of_ble_eq_true rfl⟩ ?_
      refine CG.mono (k_wear (M := (M1.1, up2 M1.2.1 84 i (nI (puF D S i)), M1.2.2.1, M1.2.2.2)) (W1.st84) hS) ?_
      rintro _ M2 ⟨rfl, hF2, W2⟩
      first | refine G_inc1 (pc := 31) f_30_31 rfl ?_ | refine G_S (pc := 31) f_30_31 rfl rfl rfl ?_
      refine G_S (pc := 34) f_30_34 rfl rfl rfl ?_
      have hF3 : Fc [82, 83, 84] M1 _ := Fc.up (i := 84) (k := i) (x := nI (puF D S i)) (by decide)
      refine ih (by omega) M2 ((hF.tr hF3).tr (hF2.sub (by decide))) W2 (fun j hj => ?_)
      rw [(hF2.2.2 84 (by decide)).1]
      by_cases q : j = i
      · subst q
        exact (by (try dsimp only); exact up2_s)
      · exact (by (try dsimp only); exact up2_o (by omega) (hp j (by omega)))
  refine CG_in (mL := 7) (hl := true) (lv := [some (.ref 82), some (.ref h), some (.int (nI S)), none, none, none, none]) (ll := [none, none, none, none, none, none, none]) rfl rfl rfl ?_
  have hK := W.1
  obtain ⟨⟨t0, t1, t2, t3, t4, t5, t6⟩, r0, r3, r4, r6, r7, r8⟩ := W.2.1
  obtain ⟨hD, ⟨v0, v1, v2⟩, vh, vr, vw, vf⟩ := W.2.2.1
  have hs := W.2.2.2.1
  have hh := W.2.2.2.2
  have hn0 : _ ≤ 8 := hD.1
  have hn1 : _ ≤ 6 := hD.2.1.2
  have hn2 : _ ≤ 8 := hD.2.2.1
  refine G_S (pc := 0) f_30_0 rfl rfl rfl ?_
  refine G_S (pc := 1) f_30_1 rfl rfl rfl ?_
  refine G_CV (pc := 2) f_30_2 rfl rfl (by decide) rfl rfl (by first | assumption | exact hK.1 _ _ rfl) (by decide) ⟨Nat.le_of_ble_eq_true rfl, Nat.le_of_ble_eq_true rfl⟩ ?_
  refine CG.mono (k_begin W) ?_
  rintro _ M2 ⟨rfl, hF, W2⟩
  refine G_ic (v := nI 0) (pc := 5) f_30_5 (by decide) ?_
  refine G_S (pc := 6) f_30_6 rfl rfl rfl ?_
  exact loop1 0 (Nat.zero_le _) M2 (hF.sub (by decide)) W2 (fun j hj => absurd hj (by omega))
theorem c_orders (W : CLs M n L) : CG C 167 [.ref 0, .int k, .int x] M (fun w M' => w = some (.long (aForL (slin n L k x))) ∧ Fc CS M M') := by
  have hK := W.1
  cases hx : slin n L k x with
  | none =>
    refine CG_in (mL := 4) (hl := false) (lv := [some (.ref 0), some (.int k), some (.int x), none]) (ll := []) rfl rfl rfl ?_
    refine G_S (pc := 0) f_167_0 rfl rfl rfl ?_
    refine G_S (pc := 1) f_167_1 rfl rfl rfl ?_
    refine G_S (pc := 2) f_167_2 rfl rfl rfl ?_
    refine G_CV (pc := 3) f_167_3 rfl rfl (by decide) rfl rfl (by first | assumption | exact hK.1 _ _ rfl) (by decide) ⟨Nat.le_of_ble_eq_true rfl, Nat.le_of_ble_eq_true rfl⟩ ?_
    refine CG.go (c_for0 W hx) ?_
    refine G_S (pc := 6) f_167_6 rfl rfl rfl ?_
    refine G_S (pc := 7) f_167_7 rfl rfl rfl ?_
    refine G_S (pc := 8) f_167_8 rfl rfl rfl ?_
    refine G_S (pc := 11) f_167_11 rfl rfl rfl ?_
    refine G_S (pc := 14) f_167_14 rfl rfl rfl ?_
    refine G_rl (pc := 26) f_167_26 ?_
    exact ⟨rfl, Fc.rf⟩
  | some q =>
    obtain ⟨D, S⟩ := q
    obtain ⟨hS, rfl, hse⟩ := sea_some (slin_some hx).2
    refine CG_in (mL := 4) (hl := false) (lv := [some (.ref 0), some (.int k), some (.int (nI S)), none]) (ll := []) rfl rfl rfl ?_
    refine G_S (pc := 0) f_167_0 rfl rfl rfl ?_
    refine G_S (pc := 1) f_167_1 rfl rfl rfl ?_
    refine G_S (pc := 2) f_167_2 rfl rfl rfl ?_
    refine G_CV (pc := 3) f_167_3 rfl rfl (by decide) rfl rfl (by first | assumption | exact hK.1 _ _ rfl) (by decide) ⟨Nat.le_of_ble_eq_true rfl, Nat.le_of_ble_eq_true rfl⟩ ?_
    refine CG.mono (c_for1 W hx) ?_
    rintro _ M1 ⟨⟨h, rfl, W1⟩, rfl⟩
    have hK := W1.1
    obtain ⟨⟨t0, t1, t2, t3, t4, t5, t6⟩, r0, r3, r4, r6, r7, r8⟩ := W1.2.1
    obtain ⟨hD, ⟨v0, v1, v2⟩, vh, vr, vw, vf⟩ := W1.2.2.1
    have hs := W1.2.2.2.1
    have hh := W1.2.2.2.2
    have hn0 : _ ≤ 8 := hD.1
    have hn1 : _ ≤ 6 := hD.2.1.2
    have hn2 : _ ≤ 8 := hD.2.2.1
    refine G_S (pc := 6) f_167_6 rfl rfl rfl ?_
    refine G_S (pc := 7) f_167_7 rfl rfl rfl ?_
    refine G_S (pc := 8) f_167_8 rfl rfl (if_pos (by first | assumption | omega)) ?_
    refine G_S (pc := 17) f_167_17 rfl rfl rfl ?_
    refine G_gR (pc := 18) f_167_18 (by decide) rfl (by first | assumption | exact hK.1 _ _ rfl) (by first | assumption | exact hK.2 _ _ _ rfl | (try dsimp only) <;> (repeat (first | exact up2_s | refine up2_o (by first | decide | omega) ?_)) <;> first | assumption | exact hK.2 _ _ _ rfl) ?_
    refine G_S (pc := 21) f_167_21 rfl rfl rfl ?_
    refine G_S (pc := 22) f_167_22 rfl rfl rfl ?_
    refine G_CV (pc := 23) f_167_23 rfl rfl (by decide) rfl rfl (by first | assumption | exact hK.1 _ _ rfl) (by decide) ⟨Nat.le_of_ble_eq_true rfl, Nat.le_of_ble_eq_true rfl⟩ ?_
    refine CG.mono (k_orders W1 (pw2 hn2 hS)) ?_
    rintro _ M2 ⟨rfl, hF⟩
    refine G_rl (pc := 26) f_167_26 ?_
    exact ⟨rfl, hF.sub (by decide)⟩
end ORC
