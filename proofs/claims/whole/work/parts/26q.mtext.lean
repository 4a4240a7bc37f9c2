/-! the reference: text, its head -/
section MTX
variable {C : Ct} {M : Mm} {s : Sg} {x y : Int32} {n m so : Nat}
def hdX (X : Nat → Nat → Int32) (n : Nat) : Nat → Nat → Int32 := up2 (up2 (up2 (up2 (up2 X 98 0 (nI 0)) 98 11 (nI n)) 100 0 (nI 0)) 101 0 (nI 0)) 102 0 (zI (-1))
theorem hdX_o {X : Nat → Nat → Int32} {i : Nat} (h : i ≠ 98 ∧ i ≠ 100 ∧ i ≠ 101 ∧ i ≠ 102) : hdX X n i = X i := by
  unfold hdX
  rw [up2_ne h.2.2.2, up2_ne h.2.2.1, up2_ne h.2.1, up2_ne h.1, up2_ne h.1]
theorem hdX_k {X : Nat → Nat → Int32} {i k : Nat} (h : i = 100 ∨ i = 101 ∨ i = 102) (hk : k ≠ 0) : hdX X n i k = X i k := by
  unfold hdX
  exact up2_o (fun z => hk z.2) (up2_o (fun z => hk z.2) (up2_o (fun z => hk z.2) (up2_o (by omega) (up2_o (by omega) rfl))))
theorem hdX_0 {X : Nat → Nat → Int32} : hdX X n 100 0 = nI 0 ∧ hdX X n 101 0 = nI 0 ∧ hdX X n 102 0 = zI (-1) ∧ hdX X n 98 11 = nI n := by
  unfold hdX
  exact ⟨up2_o (by decide) (up2_o (by decide) up2_s), up2_o (by decide) up2_s, up2_s, up2_o (by decide) (up2_o (by decide) (up2_o (by decide) up2_s))⟩
theorem hdX_q (h : MSl M 0 s) : RMq M (M.1, hdX M.2.1 n, M.2.2.1, M.2.2.2) (txE s (0, 0)) := by
  obtain ⟨⟨h1, h2, h3⟩, ht, hc, hL, hP, hF, hZ⟩ := h
  refine ⟨⟨⟨rfl, rfl⟩, fun i hi => ⟨hdX_o (X := M.2.1) (n := n) (by omega), rfl⟩⟩, ?_, fun k hk h0 => ?_, hdX_o (X := M.2.1) (n := n) (i := 130) (by decide)⟩
  · unfold MSl
    dsimp only
    rw [hdX_o (i := 99) (by decide), hdX_o (i := 103) (by decide), hdX_o (i := 104) (by decide), hdX_o (i := 105) (by decide), hdX_o (i := 106) (by decide), hdX_o (i := 107) (by decide)]
    exact ⟨⟨hdX_0.1, hdX_0.2.1, hdX_0.2.2.1⟩, fun i hi => absurd hi (Nat.not_lt_zero i), hc, hL, hP, hF, hZ⟩
  · unfold MQk
    dsimp only
    rw [hdX_o (i := 99) (by decide), hdX_o (i := 103) (by decide), hdX_o (i := 104) (by decide), hdX_o (i := 105) (by decide), hdX_o (i := 106) (by decide), hdX_o (i := 107) (by decide)]
    exact ⟨⟨hdX_k (by decide) h0, hdX_k (by decide) h0, hdX_k (by decide) h0⟩, fun _ _ => Or.inl rfl, fun _ _ => rfl, fun _ _ => rfl, fun _ _ => rfl, fun _ _ => rfl, fun _ _ => rfl⟩
theorem m_textX (hK : KM M.1 M.2.2.2) (h : MSl M 0 s) (hs : SgOK s) (hx : ¬ (0 ≤ x.toInt ∧ x.toInt ≤ 3)) : CG C 223 [.ref 98, .int x, .int y] M (fun w M' => w = some (.int (zI (-2))) ∧ RMq M M' (txE s (0, 0))) := by
  have h1 := h.1.1
  have q := hdX_q (n := s.len) h
  unfold hdX at q
  refine CG_in (mL := 4) (hl := false) (lv := [some (.ref 98), some (.int x), some (.int y), none]) (ll := []) rfl rfl rfl ?_
  refine G_S (pc := 0) f_223_0 rfl rfl rfl ?_
  refine G_ic (v := nI 0) (pc := 1) f_223_1 (by decide) ?_
  refine G_pI (pc := 2) f_223_2 rfl (by first | assumption | exact hK.1 _ _ rfl) ?_
  refine G_S (pc := 5) f_223_5 rfl rfl rfl ?_
  refine G_S (pc := 6) f_223_6 rfl rfl rfl ?_
  refine G_gR (pc := 7) f_223_7 (by decide) rfl (by first | assumption | exact hK.1 _ _ rfl) (by first | assumption | exact hK.2 _ _ _ rfl | (try dsimp only) <;> (repeat (first | exact up2_s | refine up2_o (by first | decide | omega) ?_)) <;> first | assumption | exact hK.2 _ _ _ rfl) ?_
  refine G_ic (v := nI 0) (pc := 10) f_223_10 (by decide) ?_
  refine G_iaN (pc := 11) f_223_11 (by first | assumption | exact hK.1 _ _ rfl) (by omega) (by omega) (by first | exact (mI_o (by omega) h1) | rfl) ?_
  refine G_pI (pc := 12) f_223_12 rfl (by first | assumption | exact hK.1 _ _ rfl) ?_
  refine G_S (pc := 15) f_223_15 rfl rfl rfl ?_
  refine G_gR (pc := 16) f_223_16 (by decide) rfl (by first | assumption | exact hK.1 _ _ rfl) (by first | assumption | exact hK.2 _ _ _ rfl | (try dsimp only) <;> (repeat (first | exact up2_s | refine up2_o (by first | decide | omega) ?_)) <;> first | assumption | exact hK.2 _ _ _ rfl) ?_
  refine G_ic (v := nI 0) (pc := 19) f_223_19 (by decide) ?_
  refine G_ic (v := nI 0) (pc := 20) f_223_20 (by decide) ?_
  refine G_isN (pc := 21) f_223_21 (by first | assumption | exact hK.1 _ _ rfl) (by omega) (by omega) ?_
  refine G_S (pc := 22) f_223_22 rfl rfl rfl ?_
  refine G_gR (pc := 23) f_223_23 (by decide) rfl (by first | assumption | exact hK.1 _ _ rfl) (by first | assumption | exact hK.2 _ _ _ rfl | (try dsimp only) <;> (repeat (first | exact up2_s | refine up2_o (by first | decide | omega) ?_)) <;> first | assumption | exact hK.2 _ _ _ rfl) ?_
  refine G_ic (v := nI 0) (pc := 26) f_223_26 (by decide) ?_
  refine G_ic (v := nI 0) (pc := 27) f_223_27 (by decide) ?_
  refine G_isN (pc := 28) f_223_28 (by first | assumption | exact hK.1 _ _ rfl) (by omega) (by omega) ?_
  refine G_S (pc := 29) f_223_29 rfl rfl rfl ?_
  refine G_gR (pc := 30) f_223_30 (by decide) rfl (by first | assumption | exact hK.1 _ _ rfl) (by first | assumption | exact hK.2 _ _ _ rfl | (try dsimp only) <;> (repeat (first | exact up2_s | refine up2_o (by first | decide | omega) ?_)) <;> first | assumption | exact hK.2 _ _ _ rfl) ?_
  refine G_ic (v := nI 0) (pc := 33) f_223_33 (by decide) ?_
  refine G_ic (v := zI (-1)) (pc := 34) f_223_34 (by decide) ?_
  refine G_isN (pc := 35) f_223_35 (by first | assumption | exact hK.1 _ _ rfl) (by omega) (by omega) ?_
  refine G_S (pc := 36) f_223_36 rfl rfl rfl ?_
  refine G_ic (v := nI 0) (pc := 37) f_223_37 (by decide) ?_
  refine G_ic (v := nI 3) (pc := 38) f_223_38 (by decide) ?_
  refine G_CS (pc := 39) f_223_39 rfl rfl (by decide) rfl rfl ⟨Nat.le_of_ble_eq_true rfl, Nat.le_of_ble_eq_true rfl⟩ ?_
  refine CG.go (m_inZ (by first | exact nI_toInt (by omega) | exact zI_toInt (by omega) (by omega) | rfl) (by first | exact nI_toInt (by omega) | exact zI_toInt (by omega) (by omega) | rfl) (by first | exact nI_toInt (by omega) | exact zI_toInt (by omega) (by omega) | rfl)) ?_
  first | refine G_bEq (pc := 42) f_223_42 rfl (fun b1 => ?_) (fun b1 => ?_) | refine G_zeqZ (pc := 42) f_223_42 rfl (by first | exact nI_toInt (by omega) | exact zI_toInt (by omega) (by omega) | rfl) (fun b1 => ?_) (fun b1 => ?_)
  · refine G_bi (v := zI (-2)) (pc := 72) f_223_72 (by decide) ?_
    refine G_ri (pc := 74) f_223_74 ?_
    exact ⟨rfl, q⟩
  · exfalso; omega
theorem m_textF (hK : KM M.1 M.2.2.2) (h : MSl M 0 s) (hso : so < 4) (hy : y.toInt = -1) (h2 : s.ct so = 2) : CG C 223 [.ref 98, .int (nI so), .int y] M (fun w M' => w = some (.int (zI (-2))) ∧ RMq M M' (txE s (0, 0))) := by
  have h1 := h.1.1
  have hc := h.2.2.1 so hso
  rw [Nat.mul_zero, Nat.zero_add, h2] at hc
  have q := hdX_q (n := s.len) h
  unfold hdX at q
  refine CG_in (mL := 4) (hl := false) (lv := [some (.ref 98), some (.int (nI so)), some (.int y), none]) (ll := []) rfl rfl rfl ?_
  refine G_S (pc := 0) f_223_0 rfl rfl rfl ?_
  refine G_ic (v := nI 0) (pc := 1) f_223_1 (by decide) ?_
  refine G_pI (pc := 2) f_223_2 rfl (by first | assumption | exact hK.1 _ _ rfl) ?_
  refine G_S (pc := 5) f_223_5 rfl rfl rfl ?_
  refine G_S (pc := 6) f_223_6 rfl rfl rfl ?_
  refine G_gR (pc := 7) f_223_7 (by decide) rfl (by first | assumption | exact hK.1 _ _ rfl) (by first | assumption | exact hK.2 _ _ _ rfl | (try dsimp only) <;> (repeat (first | exact up2_s | refine up2_o (by first | decide | omega) ?_)) <;> first | assumption | exact hK.2 _ _ _ rfl) ?_
  refine G_ic (v := nI 0) (pc := 10) f_223_10 (by decide) ?_
  refine G_iaN (pc := 11) f_223_11 (by first | assumption | exact hK.1 _ _ rfl) (by omega) (by omega) (by first | exact (mI_o (by omega) h1) | rfl) ?_
  refine G_pI (pc := 12) f_223_12 rfl (by first | assumption | exact hK.1 _ _ rfl) ?_
  refine G_S (pc := 15) f_223_15 rfl rfl rfl ?_
  refine G_gR (pc := 16) f_223_16 (by decide) rfl (by first | assumption | exact hK.1 _ _ rfl) (by first | assumption | exact hK.2 _ _ _ rfl | (try dsimp only) <;> (repeat (first | exact up2_s | refine up2_o (by first | decide | omega) ?_)) <;> first | assumption | exact hK.2 _ _ _ rfl) ?_
  refine G_ic (v := nI 0) (pc := 19) f_223_19 (by decide) ?_
  refine G_ic (v := nI 0) (pc := 20) f_223_20 (by decide) ?_
  refine G_isN (pc := 21) f_223_21 (by first | assumption | exact hK.1 _ _ rfl) (by omega) (by omega) ?_
  refine G_S (pc := 22) f_223_22 rfl rfl rfl ?_
  refine G_gR (pc := 23) f_223_23 (by decide) rfl (by first | assumption | exact hK.1 _ _ rfl) (by first | assumption | exact hK.2 _ _ _ rfl | (try dsimp only) <;> (repeat (first | exact up2_s | refine up2_o (by first | decide | omega) ?_)) <;> first | assumption | exact hK.2 _ _ _ rfl) ?_
  refine G_ic (v := nI 0) (pc := 26) f_223_26 (by decide) ?_
  refine G_ic (v := nI 0) (pc := 27) f_223_27 (by decide) ?_
  refine G_isN (pc := 28) f_223_28 (by first | assumption | exact hK.1 _ _ rfl) (by omega) (by omega) ?_
  refine G_S (pc := 29) f_223_29 rfl rfl rfl ?_
  refine G_gR (pc := 30) f_223_30 (by decide) rfl (by first | assumption | exact hK.1 _ _ rfl) (by first | assumption | exact hK.2 _ _ _ rfl | (try dsimp only) <;> (repeat (first | exact up2_s | refine up2_o (by first | decide | omega) ?_)) <;> first | assumption | exact hK.2 _ _ _ rfl) ?_
  refine G_ic (v := nI 0) (pc := 33) f_223_33 (by decide) ?_
  refine G_ic (v := zI (-1)) (pc := 34) f_223_34 (by decide) ?_
  refine G_isN (pc := 35) f_223_35 (by first | assumption | exact hK.1 _ _ rfl) (by omega) (by omega) ?_
  refine G_S (pc := 36) f_223_36 rfl rfl rfl ?_
  refine G_ic (v := nI 0) (pc := 37) f_223_37 (by decide) ?_
  refine G_ic (v := nI 3) (pc := 38) f_223_38 (by decide) ?_
  refine G_CS (pc := 39) f_223_39 rfl rfl (by decide) rfl rfl ⟨Nat.le_of_ble_eq_true rfl, Nat.le_of_ble_eq_true rfl⟩ ?_
  refine CG.go (m_inZ (by first | exact nI_toInt (by omega) | exact zI_toInt (by omega) (by omega) | rfl) (by first | exact nI_toInt (by omega) | exact zI_toInt (by omega) (by omega) | rfl) (by first | exact nI_toInt (by omega) | exact zI_toInt (by omega) (by omega) | rfl)) ?_
  first | refine G_bEq (pc := 42) f_223_42 rfl (fun b1 => ?_) (fun b1 => ?_) | refine G_zeqZ (pc := 42) f_223_42 rfl (by first | exact nI_toInt (by omega) | exact zI_toInt (by omega) (by omega) | rfl) (fun b1 => ?_) (fun b1 => ?_)
  · exfalso; omega
  · refine G_S (pc := 45) f_223_45 rfl rfl rfl ?_
    refine G_ic (v := zI (-1)) (pc := 46) f_223_46 (by decide) ?_
    refine G_jneZ (pc := 47) f_223_47 rfl (by first | exact nI_toInt (by omega) | exact zI_toInt (by omega) (by omega) | rfl) (by first | exact nI_toInt (by omega) | exact zI_toInt (by omega) (by omega) | rfl) (fun b2 => ?_) (fun b2 => ?_)
    · exfalso; omega
    · refine G_S (pc := 50) f_223_50 rfl rfl rfl ?_
      refine G_gR (pc := 51) f_223_51 (by decide) rfl (by first | assumption | exact hK.1 _ _ rfl) (by first | assumption | exact hK.2 _ _ _ rfl | (try dsimp only) <;> (repeat (first | exact up2_s | refine up2_o (by first | decide | omega) ?_)) <;> first | assumption | exact hK.2 _ _ _ rfl) ?_
      refine G_S (pc := 54) f_223_54 rfl rfl rfl ?_
      refine G_iaN (pc := 55) f_223_55 (by first | assumption | exact hK.1 _ _ rfl) (by omega) (by omega) (by first | exact (mI_o (by omega) (mI_o (by omega) (mI_o (by omega) (mI_o (by omega) (mI_o (by omega) hc))))) | rfl) ?_
      refine G_ic (v := nI 2) (pc := 56) f_223_56 (by decide) ?_
      refine G_jneZ (pc := 57) f_223_57 rfl (by first | exact nI_toInt (by omega) | exact zI_toInt (by omega) (by omega) | rfl) (by first | exact nI_toInt (by omega) | exact zI_toInt (by omega) (by omega) | rfl) (fun b3 => ?_) (fun b3 => ?_)
      · exfalso; omega
      · refine G_S (pc := 60) f_223_60 rfl rfl rfl ?_
        refine G_bi (v := zI (-2)) (pc := 72) f_223_72 (by decide) ?_
        refine G_ri (pc := 74) f_223_74 ?_
        exact ⟨rfl, q⟩
theorem m_textI (hK : KM M.1 M.2.2.2) (h : MSl M 0 s) (hs : SgOK s) (hso : so < 4) (hy : y.toInt ≠ -1) (hi : ¬ (0 ≤ y.toInt ∧ y.toInt < (s.ct so : Int))) : CG C 223 [.ref 98, .int (nI so), .int y] M (fun w M' => w = some (.int (zI (-2))) ∧ RMq M M' (txE s (0, 0))) := by
  have h1 := h.1.1
  have h2 := hs.2.2.2.2 so
  have q := hdX_q (n := s.len) h
  have hc := q.2.1.2.2.1 so hso
  rw [Nat.mul_zero, Nat.zero_add] at hc
  unfold hdX at q hc
  refine CG_in (mL := 4) (hl := false) (lv := [some (.ref 98), some (.int (nI so)), some (.int y), none]) (ll := []) rfl rfl rfl ?_
  refine G_S (pc := 0) f_223_0 rfl rfl rfl ?_
  refine G_ic (v := nI 0) (pc := 1) f_223_1 (by decide) ?_
  refine G_pI (pc := 2) f_223_2 rfl (by first | assumption | exact hK.1 _ _ rfl) ?_
  refine G_S (pc := 5) f_223_5 rfl rfl rfl ?_
  refine G_S (pc := 6) f_223_6 rfl rfl rfl ?_
  refine G_gR (pc := 7) f_223_7 (by decide) rfl (by first | assumption | exact hK.1 _ _ rfl) (by first | assumption | exact hK.2 _ _ _ rfl | (try dsimp only) <;> (repeat (first | exact up2_s | refine up2_o (by first | decide | omega) ?_)) <;> first | assumption | exact hK.2 _ _ _ rfl) ?_
  refine G_ic (v := nI 0) (pc := 10) f_223_10 (by decide) ?_
  refine G_iaN (pc := 11) f_223_11 (by first | assumption | exact hK.1 _ _ rfl) (by omega) (by omega) (by first | exact (mI_o (by omega) h1) | rfl) ?_
  refine G_pI (pc := 12) f_223_12 rfl (by first | assumption | exact hK.1 _ _ rfl) ?_
  refine G_S (pc := 15) f_223_15 rfl rfl rfl ?_
  refine G_gR (pc := 16) f_223_16 (by decide) rfl (by first | assumption | exact hK.1 _ _ rfl) (by first | assumption | exact hK.2 _ _ _ rfl | (try dsimp only) <;> (repeat (first | exact up2_s | refine up2_o (by first | decide | omega) ?_)) <;> first | assumption | exact hK.2 _ _ _ rfl) ?_
  refine G_ic (v := nI 0) (pc := 19) f_223_19 (by decide) ?_
  refine G_ic (v := nI 0) (pc := 20) f_223_20 (by decide) ?_
  refine G_isN (pc := 21) f_223_21 (by first | assumption | exact hK.1 _ _ rfl) (by omega) (by omega) ?_
  refine G_S (pc := 22) f_223_22 rfl rfl rfl ?_
  refine G_gR (pc := 23) f_223_23 (by decide) rfl (by first | assumption | exact hK.1 _ _ rfl) (by first | assumption | exact hK.2 _ _ _ rfl | (try dsimp only) <;> (repeat (first | exact up2_s | refine up2_o (by first | decide | omega) ?_)) <;> first | assumption | exact hK.2 _ _ _ rfl) ?_
  refine G_ic (v := nI 0) (pc := 26) f_223_26 (by decide) ?_
  refine G_ic (v := nI 0) (pc := 27) f_223_27 (by decide) ?_
  refine G_isN (pc := 28) f_223_28 (by first | assumption | exact hK.1 _ _ rfl) (by omega) (by omega) ?_
  refine G_S (pc := 29) f_223_29 rfl rfl rfl ?_
  refine G_gR (pc := 30) f_223_30 (by decide) rfl (by first | assumption | exact hK.1 _ _ rfl) (by first | assumption | exact hK.2 _ _ _ rfl | (try dsimp only) <;> (repeat (first | exact up2_s | refine up2_o (by first | decide | omega) ?_)) <;> first | assumption | exact hK.2 _ _ _ rfl) ?_
  refine G_ic (v := nI 0) (pc := 33) f_223_33 (by decide) ?_
  refine G_ic (v := zI (-1)) (pc := 34) f_223_34 (by decide) ?_
  refine G_isN (pc := 35) f_223_35 (by first | assumption | exact hK.1 _ _ rfl) (by omega) (by omega) ?_
  refine G_S (pc := 36) f_223_36 rfl rfl rfl ?_
  refine G_ic (v := nI 0) (pc := 37) f_223_37 (by decide) ?_
  refine G_ic (v := nI 3) (pc := 38) f_223_38 (by decide) ?_
  refine G_CS (pc := 39) f_223_39 rfl rfl (by decide) rfl rfl ⟨Nat.le_of_ble_eq_true rfl, Nat.le_of_ble_eq_true rfl⟩ ?_
  refine CG.go (m_inZ (by first | exact nI_toInt (by omega) | exact zI_toInt (by omega) (by omega) | rfl) (by first | exact nI_toInt (by omega) | exact zI_toInt (by omega) (by omega) | rfl) (by first | exact nI_toInt (by omega) | exact zI_toInt (by omega) (by omega) | rfl)) ?_
  first | refine G_bEq (pc := 42) f_223_42 rfl (fun b1 => ?_) (fun b1 => ?_) | refine G_zeqZ (pc := 42) f_223_42 rfl (by first | exact nI_toInt (by omega) | exact zI_toInt (by omega) (by omega) | rfl) (fun b1 => ?_) (fun b1 => ?_)
  · exfalso; omega
  · refine G_S (pc := 45) f_223_45 rfl rfl rfl ?_
    refine G_ic (v := zI (-1)) (pc := 46) f_223_46 (by decide) ?_
    refine G_jneZ (pc := 47) f_223_47 rfl (by first | exact nI_toInt (by omega) | exact zI_toInt (by omega) (by omega) | rfl) (by first | exact nI_toInt (by omega) | exact zI_toInt (by omega) (by omega) | rfl) (fun b2 => ?_) (fun b2 => ?_)
    · refine G_S (pc := 63) f_223_63 rfl rfl rfl ?_
      refine G_S (pc := 64) f_223_64 rfl rfl rfl ?_
      refine G_S (pc := 65) f_223_65 rfl rfl rfl ?_
      refine G_CV (pc := 66) f_223_66 rfl rfl (by decide) rfl rfl (by first | assumption | exact hK.1 _ _ rfl) (by decide) ⟨Nat.le_of_ble_eq_true rfl, Nat.le_of_ble_eq_true rfl⟩ ?_
      refine CG.mono (m_isT (n := s.ct so) hK hso hc h2) ?_
      rintro _ M1 ⟨rfl, rfl⟩
      rw [b2i_neg hi]
      first | refine G_bNe (pc := 69) f_223_69 rfl (fun b4 => ?_) (fun b4 => ?_) | refine G_zneZ (pc := 69) f_223_69 rfl (by first | exact nI_toInt (by omega) | exact zI_toInt (by omega) (by omega) | rfl) (fun b4 => ?_) (fun b4 => ?_)
      · exact absurd rfl b4
      · refine G_bi (v := zI (-2)) (pc := 72) f_223_72 (by decide) ?_
        refine G_ri (pc := 74) f_223_74 ?_
        exact ⟨rfl, q⟩
    · exfalso; omega
end MTX
