/-! numbers put on the tape -/
def byF (x : Int32) (j : Nat) : Int := (x >>> (zI (24 - 8 * (j : Int)) &&& 31)).toInt8.toInt
theorem byF_b (x : Int32) (j : Nat) : -128 ≤ byF x j ∧ byF x j < 128 := by
  unfold byF
  have h1 := Int8.le_toInt ((x >>> (zI (24 - 8 * (j : Int)) &&& 31)).toInt8)
  have h2 := Int8.toInt_lt ((x >>> (zI (24 - 8 * (j : Int)) &&& 31)).toInt8)
  exact ⟨h1, h2⟩
theorem byF_z (x : Int32) (j : Nat) : (x >>> (zI (24 - 8 * (j : Int)) &&& 31)).toInt8.toInt32 = zI (byF x j) := by
  apply Int32.toInt_inj.mp
  have h := byF_b x j
  rw [zI_toInt (by omega) (by omega), Int8.toInt_toInt32]
  rfl
section CFD
variable {C : Ct} {M : Mm} {n : Nat} {x : Int32}
def PNq (n : Nat) (x : Int32) (M : Mm) (i : Nat) (X : Nat → Nat → Int32) : Prop := (∀ i, i ≠ 1 → i ≠ 2 → X i = M.2.1 i) ∧ X 1 1 = nI (n + i) ∧ (∀ k, k ≠ 1 → X 1 k = M.2.1 1 k) ∧ (∀ j, j < i → X 2 (n + j) = zI (byF x j)) ∧ ∀ j, j < n → X 2 j = M.2.1 2 j
theorem c_putNumber (hK : KM M.1 M.2.2.2) (h1 : M.2.1 1 1 = nI n) (hn : n + 4 ≤ 600) : CG C 101 [.ref 1, .int x] M (fun w M' => w = none ∧ ∃ X, M' = (M.1, X, M.2.2.1, M.2.2.2) ∧ PNq n x M 4 X) := by
  have loop : ∀ i, i ≤ 4 → ∀ X, PNq n x M i X → G C 101 (3, [some (.ref 1), some (.int x), some (.int ((zI (24 - 8 * (i : Int)))))], [], [], (M.1, X, M.2.2.1, M.2.2.2)) (fun w M' => w = none ∧ ∃ X, M' = (M.1, X, M.2.2.1, M.2.2.2) ∧ PNq n x M 4 X) := by
    refine upto (fun i hi ih X hX => ?_)
    have hl := hX.2.1
    have ez : (zI (24 - 8 * (i : Int))).toInt = 24 - 8 * (i : Int) := zI_toInt (by omega) (by omega)
    by_cases h4 : i < 4
    · refine G_S (pc := 3) f_101_3 rfl rfl rfl ?_
      refine G_zltZ (pc := 4) f_101_4 rfl (by first | exact nI_toInt (by omega) | exact zI_toInt (by omega) (by omega) | rfl) (fun b1 => ?_) (fun b1 => ?_)
      · exfalso; omega
      · refine G_S (pc := 7) f_101_7 rfl rfl rfl ?_
        refine G_gIv (pc := 8) f_101_8 (by decide) rfl (by decide) (by first | assumption | exact hK.1 _ _ rfl) (hl) ?_
        refine G_si (v := nI 600) (pc := 11) f_101_11 (by decide) ?_
        refine G_jgeZ (pc := 14) f_101_14 rfl (by first | exact nI_toInt (by omega) | exact zI_toInt (by omega) (by omega) | rfl) (by first | exact nI_toInt (by omega) | exact zI_toInt (by omega) (by omega) | rfl) (fun b2 => ?_) (fun b2 => ?_)
        · exfalso; omega
        · refine G_S (pc := 17) f_101_17 rfl rfl rfl ?_
          refine G_gR (pc := 18) f_101_18 (by decide) rfl (by first | assumption | exact hK.1 _ _ rfl) (by first | assumption | exact hK.2 _ _ _ rfl | (try dsimp only) <;> (repeat (first | exact up2_s | refine up2_o (by first | decide | omega) ?_)) <;> first | assumption | exact hK.2 _ _ _ rfl) ?_
          refine G_S (pc := 21) f_101_21 rfl rfl rfl ?_
          refine G_gIv (pc := 22) f_101_22 (by decide) rfl (by decide) (by first | assumption | exact hK.1 _ _ rfl) (hl) ?_
          refine G_S (pc := 25) f_101_25 rfl rfl rfl ?_
          refine G_S (pc := 26) f_101_26 rfl rfl rfl ?_
          refine G_S (pc := 27) f_101_27 rfl rfl rfl ?_
          refine G_S (pc := 28) f_101_28 rfl rfl rfl ?_
          refine G_bsN (pc := 29) f_101_29 (by first | assumption | exact hK.1 _ _ rfl) (by omega) (by omega) ?_
          refine G_S (pc := 30) f_101_30 rfl rfl rfl ?_
          refine G_S (pc := 31) f_101_31 rfl rfl rfl ?_
          refine G_gIv (pc := 32) f_101_32 (by decide) rfl (by decide) (by first | assumption | exact hK.1 _ _ rfl) ((mI_o (by omega) hl)) ?_
          refine G_ic (v := nI 1) (pc := 35) f_101_35 (by decide) ?_
          first | refine G_addN (pc := 36) f_101_36 ?_ | refine G_addZ (pc := 36) f_101_36 (by first | rfl | exact nI_zI _) (by first | rfl | exact nI_zI _) ?_ | refine G_S (pc := 36) f_101_36 rfl rfl rfl ?_
          refine G_pI (pc := 37) f_101_37 rfl (by first | assumption | exact hK.1 _ _ rfl) ?_
          first | refine G_incN (pc := 40) f_101_40 rfl (by decide) ?_ | refine G_incZ (pc := 40) f_101_40 rfl (by first | rfl | exact nI_zI _) ?_ | refine G_S (pc := 40) f_101_40 rfl rfl rfl ?_
          refine G_S (pc := 43) f_101_43 rfl rfl rfl ?_
          rw [byF_z, zI_8 (byF_b x i), show (24 - 8 * (i : Int) + -8 : Int) = 24 - 8 * ((i + 1 : Nat) : Int) by omega]
          obtain ⟨p1, p2, p3, p4, p5⟩ := hX
          refine ih h4 _ ⟨fun j z1 z2 => ?_, up2_s, fun k hk => ?_, fun j hj => ?_, fun j hj => ?_⟩
          · dsimp only
            rw [up2_ne z1, up2_ne z2, p1 j z1 z2]
          · dsimp only
            refine up2_o (fun z => hk z.2) ?_
            rw [up2_ne (by decide)]
            exact p3 k hk
          · dsimp only
            rw [up2_ne (by decide)]
            by_cases q : j = i
            · subst q
              exact up2_s
            · exact up2_o (by omega) (p4 j (by omega))
          · dsimp only
            rw [up2_ne (by decide)]
            exact up2_o (by omega) (p5 j hj)
    · refine G_S (pc := 3) f_101_3 rfl rfl rfl ?_
      refine G_zltZ (pc := 4) f_101_4 rfl (by first | exact nI_toInt (by omega) | exact zI_toInt (by omega) (by omega) | rfl) (fun b1 => ?_) (fun b1 => ?_)
      · refine G_rv (pc := 46) f_101_46 ?_
        rw [show i = 4 by omega] at hX
        exact ⟨rfl, X, rfl, hX⟩
      · exfalso; omega
  refine CG_in (mL := 3) (hl := false) (lv := [some (.ref 1), some (.int x), none]) (ll := []) rfl rfl rfl ?_
  refine G_bi (v := nI 24) (pc := 0) f_101_0 (by decide) ?_
  refine G_S (pc := 2) f_101_2 rfl rfl rfl ?_
  exact loop 0 (Nat.zero_le _) _ ⟨fun _ _ _ => rfl, h1, fun _ _ => rfl, fun j hj => absurd hj (Nat.not_lt_zero j), fun _ _ => rfl⟩
/-- the state with a number more on the tape -/
def put4 (s : Sg) (x : Int32) : Sg := (fun j => if j < s.len then s.tp j else byF x (j - s.len), s.len + 4, s.2.2)
theorem put4_ok {s : Sg} (h : SgOK s) (hn : s.len + 4 ≤ 600) : SgOK (put4 s x) := by
  obtain ⟨s1, s2, s3, s4, s5⟩ := h
  refine ⟨hn, fun i hi => ?_, s3, s4, s5⟩
  show -128 ≤ (if i < s.len then s.tp i else byF x (i - s.len)) ∧ (if i < s.len then s.tp i else byF x (i - s.len)) < 128
  split
  · rename_i h
    exact s2 i h
  · exact byF_b x _
theorem c_put4 {s : Sg} (hK : KM M.1 M.2.2.2) (h : CB M 1 s) (hs : SgOK s) (hn : s.len + 4 ≤ 600) : CG C 101 [.ref 1, .int x] M (fun w M' => w = none ∧ Fo [1, 2] M M' ∧ CB M' 1 (put4 s x)) := by
  refine CG.mono (c_putNumber hK h.1.1 hn) ?_
  rintro w M' ⟨rfl, X, rfl, p1, p2, p3, p4, p5⟩
  refine ⟨rfl, ⟨⟨rfl, rfl⟩, fun i hi => ⟨p1 i (fun z => hi (by rw [z]; simp)) (fun z => hi (by rw [z]; simp)), rfl⟩⟩, ?_⟩
  have hs5 := hs.2.2.2.2
  have e : ∀ j, 3 ≤ j → X j = M.2.1 j := fun j hj => p1 j (by omega) (by omega)
  have q : ∀ l, l < 2 → OQ M (M.1, X, M.2.2.1, M.2.2.2) (1 + 7 + 22 * l) (1 + 7 + 22 * l) := fun l hl => OQ.self (fun j hj => e _ (by omega))
  obtain ⟨⟨h1, h2, h3⟩, ht, hc, ⟨hL, hP, hF, hZ⟩, hj⟩ := h
  refine ⟨⟨p2, (p3 2 (by decide)).trans h2, (p3 3 (by decide)).trans h3⟩, fun i hi => ?_, fun so hso => (by rw [show (M.1, X, M.2.2.1, M.2.2.2).2.1 (1 + 2) = M.2.1 (1 + 2) from e _ (by decide)]; exact hc so hso), ⟨fun l hl => ?_, fun l hl => ?_, fun l hl => ?_, fun l hl => ?_⟩, fun l hl => ?_⟩
  · show X 2 i = zI (if i < s.len then s.tp i else byF x (i - s.len))
    have hi : i < s.len + 4 := hi
    split
    · rename_i z
      exact (p5 i z).trans (ht i z)
    · have a := p4 (i - s.len) (by omega)
      rw [show s.len + (i - s.len) = i by omega] at a
      exact a
  · exact (hL l hl).eq (q l (by have := hs5 0; exact Nat.lt_of_lt_of_le hl this)).1
  · exact (hP l hl).eq (q l (by have := hs5 1; exact Nat.lt_of_lt_of_le hl this)).2.1
  · exact (hF l hl).eq (q l (by have := hs5 2; exact Nat.lt_of_lt_of_le hl this)).2.2.1
  · exact (hZ l hl).eq (q l (by have := hs5 3; exact Nat.lt_of_lt_of_le hl this)).2.2.2
  · rw [(q l hl).2.2.2.1.2.2.1]
    exact hj l hl
def fdF (s : Sg) (x y z u v : Int32) : Sg := put4 (put4 (put4 (put4 (put4 s x) y) z) u) v
theorem fdF_ok {s : Sg} {y z u v : Int32} (h : SgOK s) (hn : s.len ≤ 580) : SgOK (fdF s x y z u v) := put4_ok (put4_ok (put4_ok (put4_ok (put4_ok h (by show s.len + 4 ≤ 600; omega)) (by show s.len + 4 + 4 ≤ 600; omega)) (by show s.len + 4 + 4 + 4 ≤ 600; omega)) (by show s.len + 4 + 4 + 4 + 4 ≤ 600; omega)) (by show s.len + 4 + 4 + 4 + 4 + 4 ≤ 600; omega)
theorem c_feedN {s : Sg} {y z u v : Int32} (hK : KM M.1 M.2.2.2) (h : CB M 1 s) (hs : SgOK s) (hn : ¬ s.len ≤ 580) : CG C 145 [.ref 0, .int x, .int y, .int z, .int u, .int v] M (fun w M' => w = some (.int (zI (-1))) ∧ M' = M) := by
  have h1 := h.1.1
  have hs1 := hs.1
  refine CG_in (mL := 6) (hl := false) (lv := [some (.ref 0), some (.int x), some (.int y), some (.int z), some (.int u), some (.int v)]) (ll := []) rfl rfl rfl ?_
  refine G_S (pc := 0) f_145_0 rfl rfl rfl ?_
  refine G_gR (pc := 1) f_145_1 (by decide) rfl (by first | assumption | exact hK.1 _ _ rfl) (by first | assumption | exact hK.2 _ _ _ rfl | (try dsimp only) <;> (repeat (first | exact up2_s | refine up2_o (by first | decide | omega) ?_)) <;> first | assumption | exact hK.2 _ _ _ rfl) ?_
  refine G_gIv (pc := 4) f_145_4 (by decide) rfl (by decide) (by first | assumption | exact hK.1 _ _ rfl) (h1) ?_
  refine G_si (v := nI 580) (pc := 7) f_145_7 (by decide) ?_
  refine G_jleZ (pc := 10) f_145_10 rfl (by first | exact nI_toInt (by omega) | exact zI_toInt (by omega) (by omega) | rfl) (by first | exact nI_toInt (by omega) | exact zI_toInt (by omega) (by omega) | rfl) (fun b1 => ?_) (fun b1 => ?_)
  · exfalso; omega
  · refine G_ic (v := zI (-1)) (pc := 13) f_145_13 (by decide) ?_
    refine G_ri (pc := 14) f_145_14 ?_
    exact ⟨rfl, rfl⟩
theorem c_feedY {s : Sg} {y z u v : Int32} (hK : KM M.1 M.2.2.2) (h : CB M 1 s) (hs : SgOK s) (hn : s.len ≤ 580) : CG C 145 [.ref 0, .int x, .int y, .int z, .int u, .int v] M (fun w M' => w = some (.int (nI (s.len + 20))) ∧ Fo [1, 2] M M' ∧ CB M' 1 (fdF s x y z u v)) := by
  have h1 := h.1.1
  have o1 := put4_ok (x := x) hs (by show s.len + 4 ≤ 600; omega)
  have o2 := put4_ok (x := y) o1 (by show s.len + 4 + 4 ≤ 600; omega)
  have o3 := put4_ok (x := z) o2 (by show s.len + 4 + 4 + 4 ≤ 600; omega)
  have o4 := put4_ok (x := u) o3 (by show s.len + 4 + 4 + 4 + 4 ≤ 600; omega)
  refine CG_in (mL := 6) (hl := false) (lv := [some (.ref 0), some (.int x), some (.int y), some (.int z), some (.int u), some (.int v)]) (ll := []) rfl rfl rfl ?_
  refine G_S (pc := 0) f_145_0 rfl rfl rfl ?_
  refine G_gR (pc := 1) f_145_1 (by decide) rfl (by first | assumption | exact hK.1 _ _ rfl) (by first | assumption | exact hK.2 _ _ _ rfl | (try dsimp only) <;> (repeat (first | exact up2_s | refine up2_o (by first | decide | omega) ?_)) <;> first | assumption | exact hK.2 _ _ _ rfl) ?_
  refine G_gIv (pc := 4) f_145_4 (by decide) rfl (by decide) (by first | assumption | exact hK.1 _ _ rfl) (h1) ?_
  refine G_si (v := nI 580) (pc := 7) f_145_7 (by decide) ?_
  refine G_jleZ (pc := 10) f_145_10 rfl (by first | exact nI_toInt (by omega) | exact zI_toInt (by omega) (by omega) | rfl) (by first | exact nI_toInt (by omega) | exact zI_toInt (by omega) (by omega) | rfl) (fun b1 => ?_) (fun b1 => ?_)
  · refine G_S (pc := 15) f_145_15 rfl rfl rfl ?_
    refine G_gR (pc := 16) f_145_16 (by decide) rfl (by first | assumption | exact hK.1 _ _ rfl) (by first | assumption | exact hK.2 _ _ _ rfl | (try dsimp only) <;> (repeat (first | exact up2_s | refine up2_o (by first | decide | omega) ?_)) <;> first | assumption | exact hK.2 _ _ _ rfl) ?_
    refine G_S (pc := 19) f_145_19 rfl rfl rfl ?_
    refine G_CV (pc := 20) f_145_20 rfl rfl (by decide) rfl rfl (by first | assumption | exact hK.1 _ _ rfl) (by decide) ⟨Nat.le_of_ble_eq_true rfl, Nat.le_of_ble_eq_true rfl⟩ ?_
    refine CG.mono (c_put4 hK h hs (by show s.len + 4 ≤ 600; omega)) ?_
    rintro _ M1 ⟨rfl, f1, c1⟩
    have hK := f1.K hK
    refine G_S (pc := 23) f_145_23 rfl rfl rfl ?_
    refine G_gR (pc := 24) f_145_24 (by decide) rfl (by first | assumption | exact hK.1 _ _ rfl) (by first | assumption | exact hK.2 _ _ _ rfl | (try dsimp only) <;> (repeat (first | exact up2_s | refine up2_o (by first | decide | omega) ?_)) <;> first | assumption | exact hK.2 _ _ _ rfl) ?_
    refine G_S (pc := 27) f_145_27 rfl rfl rfl ?_
    refine G_CV (pc := 28) f_145_28 rfl rfl (by decide) rfl rfl (by first | assumption | exact hK.1 _ _ rfl) (by decide) ⟨Nat.le_of_ble_eq_true rfl, Nat.le_of_ble_eq_true rfl⟩ ?_
    refine CG.mono (c_put4 hK c1 o1 (by show s.len + 4 + 4 ≤ 600; omega)) ?_
    rintro _ M2 ⟨rfl, f2, c2⟩
    have hK := f2.K hK
    refine G_S (pc := 31) f_145_31 rfl rfl rfl ?_
    refine G_gR (pc := 32) f_145_32 (by decide) rfl (by first | assumption | exact hK.1 _ _ rfl) (by first | assumption | exact hK.2 _ _ _ rfl | (try dsimp only) <;> (repeat (first | exact up2_s | refine up2_o (by first | decide | omega) ?_)) <;> first | assumption | exact hK.2 _ _ _ rfl) ?_
    refine G_S (pc := 35) f_145_35 rfl rfl rfl ?_
    refine G_CV (pc := 36) f_145_36 rfl rfl (by decide) rfl rfl (by first | assumption | exact hK.1 _ _ rfl) (by decide) ⟨Nat.le_of_ble_eq_true rfl, Nat.le_of_ble_eq_true rfl⟩ ?_
    refine CG.mono (c_put4 hK c2 o2 (by show s.len + 4 + 4 + 4 ≤ 600; omega)) ?_
    rintro _ M3 ⟨rfl, f3, c3⟩
    have hK := f3.K hK
    refine G_S (pc := 39) f_145_39 rfl rfl rfl ?_
    refine G_gR (pc := 40) f_145_40 (by decide) rfl (by first | assumption | exact hK.1 _ _ rfl) (by first | assumption | exact hK.2 _ _ _ rfl | (try dsimp only) <;> (repeat (first | exact up2_s | refine up2_o (by first | decide | omega) ?_)) <;> first | assumption | exact hK.2 _ _ _ rfl) ?_
    refine G_S (pc := 43) f_145_43 rfl rfl rfl ?_
    refine G_CV (pc := 45) f_145_45 rfl rfl (by decide) rfl rfl (by first | assumption | exact hK.1 _ _ rfl) (by decide) ⟨Nat.le_of_ble_eq_true rfl, Nat.le_of_ble_eq_true rfl⟩ ?_
    refine CG.mono (c_put4 hK c3 o3 (by show s.len + 4 + 4 + 4 + 4 ≤ 600; omega)) ?_
    rintro _ M4 ⟨rfl, f4, c4⟩
    have hK := f4.K hK
    refine G_S (pc := 48) f_145_48 rfl rfl rfl ?_
    refine G_gR (pc := 49) f_145_49 (by decide) rfl (by first | assumption | exact hK.1 _ _ rfl) (by first | assumption | exact hK.2 _ _ _ rfl | (try dsimp only) <;> (repeat (first | exact up2_s | refine up2_o (by first | decide | omega) ?_)) <;> first | assumption | exact hK.2 _ _ _ rfl) ?_
    refine G_S (pc := 52) f_145_52 rfl rfl rfl ?_
    refine G_CV (pc := 54) f_145_54 rfl rfl (by decide) rfl rfl (by first | assumption | exact hK.1 _ _ rfl) (by decide) ⟨Nat.le_of_ble_eq_true rfl, Nat.le_of_ble_eq_true rfl⟩ ?_
    refine CG.mono (c_put4 hK c4 o4 (by show s.len + 4 + 4 + 4 + 4 + 4 ≤ 600; omega)) ?_
    rintro _ M5 ⟨rfl, f5, c5⟩
    have hK := f5.K hK
    refine G_S (pc := 57) f_145_57 rfl rfl rfl ?_
    refine G_gR (pc := 58) f_145_58 (by decide) rfl (by first | assumption | exact hK.1 _ _ rfl) (by first | assumption | exact hK.2 _ _ _ rfl | (try dsimp only) <;> (repeat (first | exact up2_s | refine up2_o (by first | decide | omega) ?_)) <;> first | assumption | exact hK.2 _ _ _ rfl) ?_
    refine G_gIv (pc := 61) f_145_61 (by decide) rfl (by decide) (by first | assumption | exact hK.1 _ _ rfl) (c5.1.1) ?_
    refine G_ri (pc := 64) f_145_64 ?_
    exact ⟨rfl, f1.tr (f2.tr (f3.tr (f4.tr f5))), c5⟩
  · exfalso; omega
end CFD
