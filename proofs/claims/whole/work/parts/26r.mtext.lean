/-! the reference: text read -/
section MTR
variable {C : Ct} {M H M1 : Mm} {s : Sg} {n so : Nat} {t : Nat → Int}
theorem rd_q {w : Option Value} (q : RMq M H (txE s (0, 0))) (r : RTq t n so H w M1) : RMq M M1 (txE s (rdF t n so).1) := by
  obtain ⟨q1, ⟨⟨h1, h2, h3⟩, ht, hc, hL, hP, hF, hZ⟩, q3, q4⟩ := q
  obtain ⟨_, rF, r1, r2, _, r4⟩ := r
  have g : ∀ i, i ≠ 98 → i ∉ RTo → M1.2.1 i = H.2.1 i := fun i a b => (rF.2.1 i a b).1
  refine ⟨q1.tr ⟨rF.1, fun i hi => rF.2.1 i (by omega) (by unfold RTo; simp; omega)⟩, ?_, q3.tr (fun k hk h0 => ?_), (g 130 (by decide) (by decide)).trans q4⟩
  · unfold MSl
    rw [g 99 (by decide) (by decide), g 100 (by decide) (by decide), g 103 (by decide) (by decide), g 104 (by decide) (by decide), g 105 (by decide) (by decide), g 106 (by decide) (by decide), g 107 (by decide) (by decide)]
    exact ⟨⟨h1, r1, r2⟩, ht, hc, hL, hP, hF, hZ⟩
  · unfold MQk
    rw [g 99 (by decide) (by decide), g 100 (by decide) (by decide), g 103 (by decide) (by decide), g 104 (by decide) (by decide), g 105 (by decide) (by decide), g 106 (by decide) (by decide), g 107 (by decide) (by decide)]
    exact ⟨⟨rfl, (r4 k h0).1, (r4 k h0).2⟩, fun _ _ => Or.inl rfl, fun _ _ => rfl, fun _ _ => rfl, fun _ _ => rfl, fun _ _ => rfl, fun _ _ => rfl⟩
theorem m_textE1 {y : Int32} (hK : KM M.1 M.2.2.2) (h : MSl M 0 s) (hs : SgOK s) (hso : so < 4) (hy : y.toInt = -1) (hl : s.ct so < 2) (hf : ¬ (rdF s.tp s.len so).1.1 = 0) : CG C 223 [.ref 98, .int (nI so), .int y] M (fun w M' => w = some (.int (zI (-1))) ∧ RMq M M' (txE s (rdF s.tp s.len so).1)) := by
  have h1 := h.1.1
  have h2 := hs.2.2.2.2 so
  have q := hdX_q (n := s.len) h
  have hc := q.2.1.2.2.1 so hso
  rw [Nat.mul_zero, Nat.zero_add] at hc
  have W : MTp (M.1, hdX M.2.1 s.len, M.2.2.1, M.2.2.2) s.tp s.len := ⟨hK, (hdX_0 (X := M.2.1) (n := s.len)).2.2.2, hs.1, fun i hi => ⟨by
    dsimp only
    rw [hdX_o (i := 99) (by decide)]
    have a := h.2.1 i hi
    rwa [Nat.mul_zero, Nat.zero_add] at a, hs.2.1 i hi⟩⟩
  unfold hdX at q hc W
  refine CG_in (mL := 4) (hl := false) (lv := [some (.ref 98), some (.int (nI so)), some (.int y), none]) (ll := []) rfl rfl rfl ?_
  refine G_S (pc := 0) f_223_0 rfl rfl rfl ?_
  refine G_ic (v := nI 0) (pc := 1) f_223_1 (by decide) ?_
  refine G_pI (pc := 2) f_223_2 rfl (by first | assumption | exact hK.1 _ _ rfl) ?_
  refine G_S (pc := 5) f_223_5 rfl rfl rfl ?_
  refine G_S (pc := 6) f_223_6 rfl rfl rfl ?_
  refine G_gR (pc := 7) f_223_7 (by decide) rfl (by first | assumption | exact hK.1 _ _ rfl) (by first | assumption | exact hK.2 _ _ _ rfl | (try dsimp only) <;> (repeat (first | exact up2_s | refine up2_o (by first | decide | omega) ?_)) <;> first | assumption | exact hK.2 _ _ _ rfl) ?_
  refine G_ic (v := nI 0) (pc := 10) f_223_10 (by decide) ?_
  refine G_iaN (pc := 11) f_223_11 (by first | assumption | exact hK.1 _ _ rfl) (by omega) (by omega) (by first | exact (mI_o (by omega) h1) | rfl) ?_
  refine G_pI (pc := 12) f_223_12 rfl (by first | assumption | exact hK.1 _ _ rfl) ?_
  refine G_S (pc := 15) f_223_15 rfl rfl rfl ?_
  refine G_gR (pc := 16) f_223_16 (by decide) rfl (by first | assumption | exact hK.1 _ _ rfl) (by first | assumption | exact hK.2 _ _ _ rfl | (try dsimp only) <;> (repeat (first | exact up2_s | refine up2_o (by first | decide | omega) ?_)) <;> first | assumption | exact hK.2 _ _ _ rfl) ?_
  refine G_ic (v := nI 0) (pc := 19) f_223_19 (by decide) ?_
  refine G_ic (v := nI 0) (pc := 20) f_223_20 (by decide) ?_
  refine G_isN (pc := 21) f_223_21 (by first | assumption | exact hK.1 _ _ rfl) (by omega) (by omega) ?_
  refine G_S (pc := 22) f_223_22 rfl rfl rfl ?_
  refine G_gR (pc := 23) f_223_23 (by decide) rfl (by first | assumption | exact hK.1 _ _ rfl) (by first | assumption | exact hK.2 _ _ _ rfl | (try dsimp only) <;> (repeat (first | exact up2_s | refine up2_o (by first | decide | omega) ?_)) <;> first | assumption | exact hK.2 _ _ _ rfl) ?_
  refine G_ic (v := nI 0) (pc := 26) f_223_26 (by decide) ?_
  refine G_ic (v := nI 0) (pc := 27) f_223_27 (by decide) ?_
  refine G_isN (pc := 28) f_223_28 (by first | assumption | exact hK.1 _ _ rfl) (by omega) (by omega) ?_
  refine G_S (pc := 29) f_223_29 rfl rfl rfl ?_
  refine G_gR (pc := 30) f_223_30 (by decide) rfl (by first | assumption | exact hK.1 _ _ rfl) (by first | assumption | exact hK.2 _ _ _ rfl | (try dsimp only) <;> (repeat (first | exact up2_s | refine up2_o (by first | decide | omega) ?_)) <;> first | assumption | exact hK.2 _ _ _ rfl) ?_
  refine G_ic (v := nI 0) (pc := 33) f_223_33 (by decide) ?_
  refine G_ic (v := zI (-1)) (pc := 34) f_223_34 (by decide) ?_
  refine G_isN (pc := 35) f_223_35 (by first | assumption | exact hK.1 _ _ rfl) (by omega) (by omega) ?_
  refine G_S (pc := 36) f_223_36 rfl rfl rfl ?_
  refine G_ic (v := nI 0) (pc := 37) f_223_37 (by decide) ?_
  refine G_ic (v := nI 3) (pc := 38) f_223_38 (by decide) ?_
  refine G_CS (pc := 39) f_223_39 rfl rfl (by decide) rfl rfl ⟨Nat.le_of_ble_eq_true rfl, Nat.le_of_ble_eq_true rfl⟩ ?_
  refine CG.go (m_inZ (by first | exact nI_toInt (by omega) | exact zI_toInt (by omega) (by omega) | rfl) (by first | exact nI_toInt (by omega) | exact zI_toInt (by omega) (by omega) | rfl) (by first | exact nI_toInt (by omega) | exact zI_toInt (by omega) (by omega) | rfl)) ?_
  first | refine G_bEq (pc := 42) f_223_42 rfl (fun b1 => ?_) (fun b1 => ?_) | refine G_zeqZ (pc := 42) f_223_42 rfl (by first | exact nI_toInt (by omega) | exact zI_toInt (by omega) (by omega) | rfl) (fun b1 => ?_) (fun b1 => ?_)
  · exfalso; omega
  · refine G_S (pc := 45) f_223_45 rfl rfl rfl ?_
    refine G_ic (v := zI (-1)) (pc := 46) f_223_46 (by decide) ?_
    refine G_jneZ (pc := 47) f_223_47 rfl (by first | exact nI_toInt (by omega) | exact zI_toInt (by omega) (by omega) | rfl) (by first | exact nI_toInt (by omega) | exact zI_toInt (by omega) (by omega) | rfl) (fun b2 => ?_) (fun b2 => ?_)
    · exfalso; omega
    · refine G_S (pc := 50) f_223_50 rfl rfl rfl ?_
      refine G_gR (pc := 51) f_223_51 (by decide) rfl (by first | assumption | exact hK.1 _ _ rfl) (by first | assumption | exact hK.2 _ _ _ rfl | (try dsimp only) <;> (repeat (first | exact up2_s | refine up2_o (by first | decide | omega) ?_)) <;> first | assumption | exact hK.2 _ _ _ rfl) ?_
      refine G_S (pc := 54) f_223_54 rfl rfl rfl ?_
      refine G_iaN (pc := 55) f_223_55 (by first | assumption | exact hK.1 _ _ rfl) (by omega) (by omega) (by first | exact (show _ = nI (s.ct so) from hc) | rfl) ?_
      refine G_ic (v := nI 2) (pc := 56) f_223_56 (by decide) ?_
      refine G_jneZ (pc := 57) f_223_57 rfl (by first | exact nI_toInt (by omega) | exact zI_toInt (by omega) (by omega) | rfl) (by first | exact nI_toInt (by omega) | exact zI_toInt (by omega) (by omega) | rfl) (fun b3 => ?_) (fun b3 => ?_)
      · refine G_S (pc := 75) f_223_75 rfl rfl rfl ?_
        refine G_S (pc := 76) f_223_76 rfl rfl rfl ?_
        refine G_CV (pc := 77) f_223_77 rfl rfl (by decide) rfl rfl (by first | assumption | exact hK.1 _ _ rfl) (by decide) ⟨Nat.le_of_ble_eq_true rfl, Nat.le_of_ble_eq_true rfl⟩ ?_
        refine CG.mono (m_readText W hso) ?_
        rintro _ M1 ⟨rfl, r2⟩
        rw [b2i_neg hf]
        first | refine G_bNe (pc := 80) f_223_80 rfl (fun b5 => ?_) (fun b5 => ?_) | refine G_zneZ (pc := 80) f_223_80 rfl (by first | exact nI_toInt (by omega) | exact zI_toInt (by omega) (by omega) | rfl) (fun b5 => ?_) (fun b5 => ?_)
        · exact absurd rfl b5
        · refine G_ic (v := zI (-1)) (pc := 83) f_223_83 (by decide) ?_
          refine G_ri (pc := 84) f_223_84 ?_
          exact ⟨rfl, rd_q q (w := some (.int (b2i ((rdF s.tp s.len so).1.1 = 0)))) ⟨rfl, r2⟩⟩
      · exfalso; omega
theorem m_textE2 {y : Int32} (hK : KM M.1 M.2.2.2) (h : MSl M 0 s) (hs : SgOK s) (hso : so < 4) (hy : y.toInt ≠ -1) (hi : 0 ≤ y.toInt ∧ y.toInt < (s.ct so : Int)) (hf : ¬ (rdF s.tp s.len so).1.1 = 0) : CG C 223 [.ref 98, .int (nI so), .int y] M (fun w M' => w = some (.int (zI (-1))) ∧ RMq M M' (txE s (rdF s.tp s.len so).1)) := by
  have h1 := h.1.1
  have h2 := hs.2.2.2.2 so
  have q := hdX_q (n := s.len) h
  have hc := q.2.1.2.2.1 so hso
  rw [Nat.mul_zero, Nat.zero_add] at hc
  have W : MTp (M.1, hdX M.2.1 s.len, M.2.2.1, M.2.2.2) s.tp s.len := ⟨hK, (hdX_0 (X := M.2.1) (n := s.len)).2.2.2, hs.1, fun i hi => ⟨by
    dsimp only
    rw [hdX_o (i := 99) (by decide)]
    have a := h.2.1 i hi
    rwa [Nat.mul_zero, Nat.zero_add] at a, hs.2.1 i hi⟩⟩
  unfold hdX at q hc W
  refine CG_in (mL := 4) (hl := false) (lv := [some (.ref 98), some (.int (nI so)), some (.int y), none]) (ll := []) rfl rfl rfl ?_
  refine G_S (pc := 0) f_223_0 rfl rfl rfl ?_
  refine G_ic (v := nI 0) (pc := 1) f_223_1 (by decide) ?_
  refine G_pI (pc := 2) f_223_2 rfl (by first | assumption | exact hK.1 _ _ rfl) ?_
  refine G_S (pc := 5) f_223_5 rfl rfl rfl ?_
  refine G_S (pc := 6) f_223_6 rfl rfl rfl ?_
  refine G_gR (pc := 7) f_223_7 (by decide) rfl (by first | assumption | exact hK.1 _ _ rfl) (by first | assumption | exact hK.2 _ _ _ rfl | (try dsimp only) <;> (repeat (first | exact up2_s | refine up2_o (by first | decide | omega) ?_)) <;> first | assumption | exact hK.2 _ _ _ rfl) ?_
  refine G_ic (v := nI 0) (pc := 10) f_223_10 (by decide) ?_
  refine G_iaN (pc := 11) f_223_11 (by first | assumption | exact hK.1 _ _ rfl) (by omega) (by omega) (by first | exact (mI_o (by omega) h1) | rfl) ?_
  refine G_pI (pc := 12) f_223_12 rfl (by first | assumption | exact hK.1 _ _ rfl) ?_
  refine G_S (pc := 15) f_223_15 rfl rfl rfl ?_
  refine G_gR (pc := 16) f_223_16 (by decide) rfl (by first | assumption | exact hK.1 _ _ rfl) (by first | assumption | exact hK.2 _ _ _ rfl | (try dsimp only) <;> (repeat (first | exact up2_s | refine up2_o (by first | decide | omega) ?_)) <;> first | assumption | exact hK.2 _ _ _ rfl) ?_
  refine G_ic (v := nI 0) (pc := 19) f_223_19 (by decide) ?_
  refine G_ic (v := nI 0) (pc := 20) f_223_20 (by decide) ?_
  refine G_isN (pc := 21) f_223_21 (by first | assumption | exact hK.1 _ _ rfl) (by omega) (by omega) ?_
  refine G_S (pc := 22) f_223_22 rfl rfl rfl ?_
  refine G_gR (pc := 23) f_223_23 (by decide) rfl (by first | assumption | exact hK.1 _ _ rfl) (by first | assumption | exact hK.2 _ _ _ rfl | (try dsimp only) <;> (repeat (first | exact up2_s | refine up2_o (by first | decide | omega) ?_)) <;> first | assumption | exact hK.2 _ _ _ rfl) ?_
  refine G_ic (v := nI 0) (pc := 26) f_223_26 (by decide) ?_
  refine G_ic (v := nI 0) (pc := 27) f_223_27 (by decide) ?_
  refine G_isN (pc := 28) f_223_28 (by first | assumption | exact hK.1 _ _ rfl) (by omega) (by omega) ?_
  refine G_S (pc := 29) f_223_29 rfl rfl rfl ?_
  refine G_gR (pc := 30) f_223_30 (by decide) rfl (by first | assumption | exact hK.1 _ _ rfl) (by first | assumption | exact hK.2 _ _ _ rfl | (try dsimp only) <;> (repeat (first | exact up2_s | refine up2_o (by first | decide | omega) ?_)) <;> first | assumption | exact hK.2 _ _ _ rfl) ?_
  refine G_ic (v := nI 0) (pc := 33) f_223_33 (by decide) ?_
  refine G_ic (v := zI (-1)) (pc := 34) f_223_34 (by decide) ?_
  refine G_isN (pc := 35) f_223_35 (by first | assumption | exact hK.1 _ _ rfl) (by omega) (by omega) ?_
  refine G_S (pc := 36) f_223_36 rfl rfl rfl ?_
  refine G_ic (v := nI 0) (pc := 37) f_223_37 (by decide) ?_
  refine G_ic (v := nI 3) (pc := 38) f_223_38 (by decide) ?_
  refine G_CS (pc := 39) f_223_39 rfl rfl (by decide) rfl rfl ⟨Nat.le_of_ble_eq_true rfl, Nat.le_of_ble_eq_true rfl⟩ ?_
  refine CG.go (m_inZ (by first | exact nI_toInt (by omega) | exact zI_toInt (by omega) (by omega) | rfl) (by first | exact nI_toInt (by omega) | exact zI_toInt (by omega) (by omega) | rfl) (by first | exact nI_toInt (by omega) | exact zI_toInt (by omega) (by omega) | rfl)) ?_
  first | refine G_bEq (pc := 42) f_223_42 rfl (fun b1 => ?_) (fun b1 => ?_) | refine G_zeqZ (pc := 42) f_223_42 rfl (by first | exact nI_toInt (by omega) | exact zI_toInt (by omega) (by omega) | rfl) (fun b1 => ?_) (fun b1 => ?_)
  · exfalso; omega
  · refine G_S (pc := 45) f_223_45 rfl rfl rfl ?_
    refine G_ic (v := zI (-1)) (pc := 46) f_223_46 (by decide) ?_
    refine G_jneZ (pc := 47) f_223_47 rfl (by first | exact nI_toInt (by omega) | exact zI_toInt (by omega) (by omega) | rfl) (by first | exact nI_toInt (by omega) | exact zI_toInt (by omega) (by omega) | rfl) (fun b2 => ?_) (fun b2 => ?_)
    · refine G_S (pc := 63) f_223_63 rfl rfl rfl ?_
      refine G_S (pc := 64) f_223_64 rfl rfl rfl ?_
      refine G_S (pc := 65) f_223_65 rfl rfl rfl ?_
      refine G_CV (pc := 66) f_223_66 rfl rfl (by decide) rfl rfl (by first | assumption | exact hK.1 _ _ rfl) (by decide) ⟨Nat.le_of_ble_eq_true rfl, Nat.le_of_ble_eq_true rfl⟩ ?_
      refine CG.mono (m_isT (n := s.ct so) hK hso hc h2) ?_
      rintro _ M0 ⟨rfl, rfl⟩
      rw [b2i_pos hi]
      first | refine G_bNe (pc := 69) f_223_69 rfl (fun b4 => ?_) (fun b4 => ?_) | refine G_zneZ (pc := 69) f_223_69 rfl (by first | exact nI_toInt (by omega) | exact zI_toInt (by omega) (by omega) | rfl) (fun b4 => ?_) (fun b4 => ?_)
      · refine G_S (pc := 75) f_223_75 rfl rfl rfl ?_
        refine G_S (pc := 76) f_223_76 rfl rfl rfl ?_
        refine G_CV (pc := 77) f_223_77 rfl rfl (by decide) rfl rfl (by first | assumption | exact hK.1 _ _ rfl) (by decide) ⟨Nat.le_of_ble_eq_true rfl, Nat.le_of_ble_eq_true rfl⟩ ?_
        refine CG.mono (m_readText W hso) ?_
        rintro _ M1 ⟨rfl, r2⟩
        rw [b2i_neg hf]
        first | refine G_bNe (pc := 80) f_223_80 rfl (fun b5 => ?_) (fun b5 => ?_) | refine G_zneZ (pc := 80) f_223_80 rfl (by first | exact nI_toInt (by omega) | exact zI_toInt (by omega) (by omega) | rfl) (fun b5 => ?_) (fun b5 => ?_)
        · exact absurd rfl b5
        · refine G_ic (v := zI (-1)) (pc := 83) f_223_83 (by decide) ?_
          refine G_ri (pc := 84) f_223_84 ?_
          exact ⟨rfl, rd_q q (w := some (.int (b2i ((rdF s.tp s.len so).1.1 = 0)))) ⟨rfl, r2⟩⟩
      · exact absurd b4 (by decide)
    · exfalso; omega
end MTR
