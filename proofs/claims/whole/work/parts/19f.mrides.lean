/-! what is asked of rides and days: the reference's answers -/
def HFs : List Nat := [23, 24, 25, 26]
def TG : List Nat := [31, 32, 33, 34, 53]
section MRT
variable {C : Ct} {M : Mm} {l n m g : Nat} {L : Nat → Nat → Nat} {P : Nat → Nat → Int} {k i x y s : Int32} {D : Nat → Nat} {R : Nat → Int} {S : Nat → Int} {b : Nat → Nat}
theorem m_handF (W : MLs M n L) (hl : lin n L k = some D) : CG C 226 [.ref 98, .int k] M (fun w M' => w = some (.int (b2i (True))) ∧ Fm [] HFs M M' ∧ ∃ l, mH M' l D) := by
  obtain ⟨l, h1, rfl, rfl⟩ := lin_some hl
  have hn2 := W.2.2.1
  have hD := W.2.2.2 l h1
  have hk : 0 ≤ nI l ∧ nI l ≤ M.2.1 103 0 - 1 := by
    rw [W.2.1, g_sub1 (by omega)]
    exact ⟨nI_pos' (by omega), nI_le (by omega) (by omega)⟩
  refine CG.mono (m_hand1 W.1 hk hD.1) ?_
  rintro w M' ⟨rfl, rfl⟩
  have e0 := hD.2.2 0 (by decide)
  have e1 := hD.2.2 1 (by decide)
  have e2 := hD.2.2 2 (by decide)
  refine ⟨rfl, (((Fm.upf (k := 23) (by decide)).tr (Fm.upf (k := 24) (by decide))).tr (Fm.upf (k := 25) (by decide))).tr (Fm.upf (k := 26) (by decide)), l, W.1, ⟨?_, ?_, ?_, ?_⟩, hD.1, hD.2.1, ?_⟩
  · simp [up2]
  · simp [up2]
    exact e0
  · simp [up2]
    exact e1
  · simp [up2]
    exact e2
  · intro j hj
    simp [up2]
    exact hD.2.2 j hj
theorem n_hasS (W : MRs M n P) (hl : rid n P k = some R) : CG C 232 [.ref 98, .int k] M (fun w M' => w = some (.int (b2i (True))) ∧ mQ M M' ∧ ∃ g, mR M' g R) := by
  obtain ⟨hK, hn, hn2, hW⟩ := W
  obtain ⟨l, h1, rfl, rfl⟩ := rid_some hl
  refine CG_in (mL := 2) (hl := false) (lv := [some (.ref 98), some (.int (nI l))]) (ll := []) rfl rfl rfl ?_
  refine G_S (pc := 0) f_232_0 rfl rfl rfl ?_
  refine G_S (pc := 1) f_232_1 rfl rfl rfl ?_
  refine G_pI (pc := 2) f_232_2 rfl (by first | assumption | exact hK.1 _ _ rfl) ?_
  refine G_S (pc := 5) f_232_5 rfl rfl rfl ?_
  refine G_ic (v := nI 1) (pc := 6) f_232_6 (by decide) ?_
  refine G_S (pc := 7) f_232_7 rfl rfl rfl ?_
  refine G_CV (pc := 8) f_232_8 rfl rfl (by decide) rfl rfl (by first | assumption | exact hK.1 _ _ rfl) (by decide) ⟨Nat.le_of_ble_eq_true rfl, Nat.le_of_ble_eq_true rfl⟩ ?_
  refine CG.go (m_isT (n := n) hK (by decide) (by (try dsimp only); exact up2_o (by omega) hn) hn2) ?_
  refine G_rz (pc := 11) f_232_11 (by first | exact Or.inl rfl | exact Or.inr rfl | exact b2i_01 _ | assumption) ?_
  refine ⟨?_, mQ.cod, l, hK, (by (try dsimp only); exact up2_s), by omega, (hW l h1).1, fun j hj => ?_⟩
  · rw [b2i_pos (by rw [nI_toInt (by omega)]; omega)]
    rfl
  · exact (by (try dsimp only); exact up2_o (by omega) ((hW l h1).2 j hj))
theorem n_hasN (W : MRs M n P) (hl : rid n P k = none) : CG C 232 [.ref 98, .int k] M (fun w M' => w = some (.int (b2i (False))) ∧ mQ M M') := by
  obtain ⟨hK, hn, hn2, hW⟩ := W
  have hk := rid_none hl
  refine CG_in (mL := 2) (hl := false) (lv := [some (.ref 98), some (.int k)]) (ll := []) rfl rfl rfl ?_
  refine G_S (pc := 0) f_232_0 rfl rfl rfl ?_
  refine G_S (pc := 1) f_232_1 rfl rfl rfl ?_
  refine G_pI (pc := 2) f_232_2 rfl (by first | assumption | exact hK.1 _ _ rfl) ?_
  refine G_S (pc := 5) f_232_5 rfl rfl rfl ?_
  refine G_ic (v := nI 1) (pc := 6) f_232_6 (by decide) ?_
  refine G_S (pc := 7) f_232_7 rfl rfl rfl ?_
  refine G_CV (pc := 8) f_232_8 rfl rfl (by decide) rfl rfl (by first | assumption | exact hK.1 _ _ rfl) (by decide) ⟨Nat.le_of_ble_eq_true rfl, Nat.le_of_ble_eq_true rfl⟩ ?_
  refine CG.go (m_isT (n := n) hK (by decide) (by (try dsimp only); exact up2_o (by omega) hn) hn2) ?_
  refine G_rz (pc := 11) f_232_11 (by first | exact Or.inl rfl | exact Or.inr rfl | exact b2i_01 _ | assumption) ?_
  refine ⟨?_, mQ.cod⟩
  rw [b2i_neg hk]
  rfl
theorem n_deedsN {c : Nat} (V : mR M g R) (hc : R 0 = (c : Int)) : CG C 230 [.ref 98] M (fun w M' => w = some (.int (nI c)) ∧ M' = M) := by
  have := n_deeds (C := C) V
  rw [hc, ← nI_zI] at this
  exact this
theorem g_deed (W : MRs M n P) : CG C 233 [.ref 98, .int k, .int y, .int x] M (fun w M' => w = some (.int (aRid (rid n P k) (zI (-2)) (fun R => deF R y x))) ∧ mQ M M') := by
  have hK := W.1
  cases hl : rid n P k with
  | none =>
    refine CG_in (mL := 4) (hl := false) (lv := [some (.ref 98), some (.int k), some (.int y), some (.int x)]) (ll := []) rfl rfl rfl ?_
    refine G_S (pc := 0) f_233_0 rfl rfl rfl ?_
    refine G_ic (v := nI 0) (pc := 1) f_233_1 (by decide) ?_
    refine G_pI (pc := 2) f_233_2 rfl (by first | assumption | exact hK.1 _ _ rfl) ?_
    refine G_S (pc := 5) f_233_5 rfl rfl rfl ?_
    refine G_S (pc := 6) f_233_6 rfl rfl rfl ?_
    refine G_CV (pc := 7) f_233_7 rfl rfl (by decide) rfl rfl (by first | assumption | exact hK.1 _ _ rfl) (by decide) ⟨Nat.le_of_ble_eq_true rfl, Nat.le_of_ble_eq_true rfl⟩ ?_
    refine CG.mono (n_hasN (W.q mQ.cod) hl) ?_
    rintro _ M1 ⟨rfl, hQ⟩
    first | refine G_bNe (pc := 10) f_233_10 rfl (fun b1 => ?_) (fun b1 => ?_) | refine G_zneZ (pc := 10) f_233_10 rfl (by first | exact nI_toInt (by omega) | exact zI_toInt (by omega) (by omega) | rfl) (fun b1 => ?_) (fun b1 => ?_)
    · exact absurd b1 id
    · refine G_bi (v := zI (-2)) (pc := 13) f_233_13 (by decide) ?_
      refine G_ri (pc := 15) f_233_15 ?_
      exact ⟨rfl, mQ.cod.tr hQ⟩
  | some R =>
    show CG C 233 [.ref 98, .int k, .int y, .int x] M (fun w M' => w = some (.int (deF R y x)) ∧ mQ M M')
    have hR0 : 0 ≤ R 0 ∧ R 0 ≤ 40 := by
      obtain ⟨l, h1, h2, h3⟩ := rid_some hl
      rw [h3]
      exact (W.2.2.2 l h1).1.1
    by_cases hv : (0 ≤ y.toInt ∧ y.toInt < R 0) ∧ 0 ≤ x.toInt ∧ x.toInt ≤ 2
    · obtain ⟨c, hc, rfl⟩ := i_nat (x := y) (n := 40) hv.1.1 (by omega)
      obtain ⟨e, he, rfl⟩ := i_nat (x := x) (n := 3) hv.2.1 (by omega)
      have hv' := hv
      rw [nI_toInt (by omega), nI_toInt (by omega)] at hv
      refine CG_in (mL := 4) (hl := false) (lv := [some (.ref 98), some (.int k), some (.int (nI c)), some (.int (nI e))]) (ll := []) rfl rfl rfl ?_
      refine G_S (pc := 0) f_233_0 rfl rfl rfl ?_
      refine G_ic (v := nI 0) (pc := 1) f_233_1 (by decide) ?_
      refine G_pI (pc := 2) f_233_2 rfl (by first | assumption | exact hK.1 _ _ rfl) ?_
      refine G_S (pc := 5) f_233_5 rfl rfl rfl ?_
      refine G_S (pc := 6) f_233_6 rfl rfl rfl ?_
      refine G_CV (pc := 7) f_233_7 rfl rfl (by decide) rfl rfl (by first | assumption | exact hK.1 _ _ rfl) (by decide) ⟨Nat.le_of_ble_eq_true rfl, Nat.le_of_ble_eq_true rfl⟩ ?_
      refine CG.mono (n_hasS (W.q mQ.cod) hl) ?_
      rintro _ M1 ⟨rfl, hQ, g, V⟩
      have hK := V.1
      have hQ := mQ.cod.tr hQ
      first | refine G_bNe (pc := 10) f_233_10 rfl (fun b1 => ?_) (fun b1 => ?_) | refine G_zneZ (pc := 10) f_233_10 rfl (by first | exact nI_toInt (by omega) | exact zI_toInt (by omega) (by omega) | rfl) (fun b1 => ?_) (fun b1 => ?_)
      · refine G_S (pc := 16) f_233_16 rfl rfl rfl ?_
        refine G_ic (v := zI (-1)) (pc := 17) f_233_17 (by decide) ?_
        refine G_jneZ (pc := 18) f_233_18 rfl (by first | exact nI_toInt (by omega) | exact zI_toInt (by omega) (by omega) | rfl) (by first | exact nI_toInt (by omega) | exact zI_toInt (by omega) (by omega) | rfl) (fun b2 => ?_) (fun b2 => ?_)
        · refine G_S (pc := 35) f_233_35 rfl rfl rfl ?_
          refine G_ic (v := nI 0) (pc := 36) f_233_36 (by decide) ?_
          refine G_S (pc := 37) f_233_37 rfl rfl rfl ?_
          refine G_CV (pc := 38) f_233_38 rfl rfl (by decide) rfl rfl (by first | assumption | exact hK.1 _ _ rfl) (by decide) ⟨Nat.le_of_ble_eq_true rfl, Nat.le_of_ble_eq_true rfl⟩ ?_
          refine CG.go (n_deeds V) ?_
          refine G_ic (v := nI 1) (pc := 41) f_233_41 (by decide) ?_
          first | refine G_subN (pc := 42) f_233_42 (by omega) ?_ | refine G_subZ (pc := 42) f_233_42 (by first | rfl | exact nI_zI _) (by first | rfl | exact nI_zI _) ?_ | refine G_S (pc := 42) f_233_42 rfl rfl rfl ?_
          refine G_CS (pc := 43) f_233_43 rfl rfl (by decide) rfl rfl ⟨Nat.le_of_ble_eq_true rfl, Nat.le_of_ble_eq_true rfl⟩ ?_
          refine CG.go (m_inZ (by first | exact nI_toInt (by omega) | exact zI_toInt (by omega) (by omega) | rfl) (by first | exact nI_toInt (by omega) | exact zI_toInt (by omega) (by omega) | rfl) (by first | exact nI_toInt (by omega) | exact zI_toInt (by omega) (by omega) | rfl)) ?_
          first | refine G_bEq (pc := 46) f_233_46 rfl (fun b4 => ?_) (fun b4 => ?_) | refine G_zeqZ (pc := 46) f_233_46 rfl (by first | exact nI_toInt (by omega) | exact zI_toInt (by omega) (by omega) | rfl) (fun b4 => ?_) (fun b4 => ?_)
          · exfalso; omega
          · refine G_S (pc := 49) f_233_49 rfl rfl rfl ?_
            refine G_ic (v := nI 0) (pc := 50) f_233_50 (by decide) ?_
            refine G_ic (v := nI 2) (pc := 51) f_233_51 (by decide) ?_
            refine G_CS (pc := 52) f_233_52 rfl rfl (by decide) rfl rfl ⟨Nat.le_of_ble_eq_true rfl, Nat.le_of_ble_eq_true rfl⟩ ?_
            refine CG.go (m_inZ (by first | exact nI_toInt (by omega) | exact zI_toInt (by omega) (by omega) | rfl) (by first | exact nI_toInt (by omega) | exact zI_toInt (by omega) (by omega) | rfl) (by first | exact nI_toInt (by omega) | exact zI_toInt (by omega) (by omega) | rfl)) ?_
            first | refine G_bEq (pc := 55) f_233_55 rfl (fun b5 => ?_) (fun b5 => ?_) | refine G_zeqZ (pc := 55) f_233_55 rfl (by first | exact nI_toInt (by omega) | exact zI_toInt (by omega) (by omega) | rfl) (fun b5 => ?_) (fun b5 => ?_)
            · exfalso; omega
            · refine G_S (pc := 58) f_233_58 rfl rfl rfl ?_
              refine G_S (pc := 59) f_233_59 rfl rfl rfl ?_
              refine G_S (pc := 60) f_233_60 rfl rfl rfl ?_
              refine G_CV (pc := 61) f_233_61 rfl rfl (by decide) rfl rfl (by first | assumption | exact hK.1 _ _ rfl) (by decide) ⟨Nat.le_of_ble_eq_true rfl, Nat.le_of_ble_eq_true rfl⟩ ?_
              refine CG.go (n_deedOf V (by omega) (by omega)) ?_
              refine G_S (pc := 64) f_233_64 rfl rfl rfl ?_
              refine G_ri (pc := 69) f_233_69 ?_
              refine ⟨?_, hQ⟩
              unfold deF
              rw [if_neg (by rw [nI_toInt (by omega)]; omega), if_pos hv', nI_toInt (by omega), nI_toInt (by omega), Int.toNat_natCast, Int.toNat_natCast]
        · exfalso; omega
      · exact absurd trivial b1
    · refine CG_in (mL := 4) (hl := false) (lv := [some (.ref 98), some (.int k), some (.int y), some (.int x)]) (ll := []) rfl rfl rfl ?_
      refine G_S (pc := 0) f_233_0 rfl rfl rfl ?_
      refine G_ic (v := nI 0) (pc := 1) f_233_1 (by decide) ?_
      refine G_pI (pc := 2) f_233_2 rfl (by first | assumption | exact hK.1 _ _ rfl) ?_
      refine G_S (pc := 5) f_233_5 rfl rfl rfl ?_
      refine G_S (pc := 6) f_233_6 rfl rfl rfl ?_
      refine G_CV (pc := 7) f_233_7 rfl rfl (by decide) rfl rfl (by first | assumption | exact hK.1 _ _ rfl) (by decide) ⟨Nat.le_of_ble_eq_true rfl, Nat.le_of_ble_eq_true rfl⟩ ?_
      refine CG.mono (n_hasS (W.q mQ.cod) hl) ?_
      rintro _ M1 ⟨rfl, hQ, g, V⟩
      have hK := V.1
      have hQ := mQ.cod.tr hQ
      first | refine G_bNe (pc := 10) f_233_10 rfl (fun b1 => ?_) (fun b1 => ?_) | refine G_zneZ (pc := 10) f_233_10 rfl (by first | exact nI_toInt (by omega) | exact zI_toInt (by omega) (by omega) | rfl) (fun b1 => ?_) (fun b1 => ?_)
      · refine G_S (pc := 16) f_233_16 rfl rfl rfl ?_
        refine G_ic (v := zI (-1)) (pc := 17) f_233_17 (by decide) ?_
        refine G_jneZ (pc := 18) f_233_18 rfl (by first | exact nI_toInt (by omega) | exact zI_toInt (by omega) (by omega) | rfl) (by first | exact nI_toInt (by omega) | exact zI_toInt (by omega) (by omega) | rfl) (fun b2 => ?_) (fun b2 => ?_)
        · refine G_S (pc := 35) f_233_35 rfl rfl rfl ?_
          refine G_ic (v := nI 0) (pc := 36) f_233_36 (by decide) ?_
          refine G_S (pc := 37) f_233_37 rfl rfl rfl ?_
          refine G_CV (pc := 38) f_233_38 rfl rfl (by decide) rfl rfl (by first | assumption | exact hK.1 _ _ rfl) (by decide) ⟨Nat.le_of_ble_eq_true rfl, Nat.le_of_ble_eq_true rfl⟩ ?_
          refine CG.go (n_deeds V) ?_
          refine G_ic (v := nI 1) (pc := 41) f_233_41 (by decide) ?_
          first | refine G_subN (pc := 42) f_233_42 (by omega) ?_ | refine G_subZ (pc := 42) f_233_42 (by first | rfl | exact nI_zI _) (by first | rfl | exact nI_zI _) ?_ | refine G_S (pc := 42) f_233_42 rfl rfl rfl ?_
          refine G_CS (pc := 43) f_233_43 rfl rfl (by decide) rfl rfl ⟨Nat.le_of_ble_eq_true rfl, Nat.le_of_ble_eq_true rfl⟩ ?_
          refine CG.go (m_inZ (by first | exact nI_toInt (by omega) | exact zI_toInt (by omega) (by omega) | rfl) (by first | exact nI_toInt (by omega) | exact zI_toInt (by omega) (by omega) | rfl) (by first | exact nI_toInt (by omega) | exact zI_toInt (by omega) (by omega) | rfl)) ?_
          first | refine G_bEq (pc := 46) f_233_46 rfl (fun b4 => ?_) (fun b4 => ?_) | refine G_zeqZ (pc := 46) f_233_46 rfl (by first | exact nI_toInt (by omega) | exact zI_toInt (by omega) (by omega) | rfl) (fun b4 => ?_) (fun b4 => ?_)
          · refine G_bi (v := zI (-2)) (pc := 67) f_233_67 (by decide) ?_
            refine G_ri (pc := 69) f_233_69 ?_
            refine ⟨?_, hQ⟩
            unfold deF
            first
              | (exfalso; omega)
              | rw [if_pos (by omega), if_pos (by omega)]
              | rw [if_pos (by omega), if_neg (by omega)]
              | rw [if_neg (by omega), if_neg hv]
          · refine G_S (pc := 49) f_233_49 rfl rfl rfl ?_
            refine G_ic (v := nI 0) (pc := 50) f_233_50 (by decide) ?_
            refine G_ic (v := nI 2) (pc := 51) f_233_51 (by decide) ?_
            refine G_CS (pc := 52) f_233_52 rfl rfl (by decide) rfl rfl ⟨Nat.le_of_ble_eq_true rfl, Nat.le_of_ble_eq_true rfl⟩ ?_
            refine CG.go (m_inZ (by first | exact nI_toInt (by omega) | exact zI_toInt (by omega) (by omega) | rfl) (by first | exact nI_toInt (by omega) | exact zI_toInt (by omega) (by omega) | rfl) (by first | exact nI_toInt (by omega) | exact zI_toInt (by omega) (by omega) | rfl)) ?_
            first | refine G_bEq (pc := 55) f_233_55 rfl (fun b5 => ?_) (fun b5 => ?_) | refine G_zeqZ (pc := 55) f_233_55 rfl (by first | exact nI_toInt (by omega) | exact zI_toInt (by omega) (by omega) | rfl) (fun b5 => ?_) (fun b5 => ?_)
            · refine G_bi (v := zI (-2)) (pc := 67) f_233_67 (by decide) ?_
              refine G_ri (pc := 69) f_233_69 ?_
              refine ⟨?_, hQ⟩
              unfold deF
              first
                | (exfalso; omega)
                | rw [if_pos (by omega), if_pos (by omega)]
                | rw [if_pos (by omega), if_neg (by omega)]
                | rw [if_neg (by omega), if_neg hv]
            · exfalso; omega
        · refine G_S (pc := 21) f_233_21 rfl rfl rfl ?_
          first | refine G_bNe (pc := 22) f_233_22 rfl (fun b3 => ?_) (fun b3 => ?_) | refine G_zneZ (pc := 22) f_233_22 rfl (by first | exact nI_toInt (by omega) | exact zI_toInt (by omega) (by omega) | rfl) (fun b3 => ?_) (fun b3 => ?_)
          · refine G_bi (v := zI (-2)) (pc := 32) f_233_32 (by decide) ?_
            refine G_ri (pc := 34) f_233_34 ?_
            refine ⟨?_, hQ⟩
            unfold deF
            first
              | (exfalso; omega)
              | rw [if_pos (by omega), if_pos (by omega)]
              | rw [if_pos (by omega), if_neg (by omega)]
              | rw [if_neg (by omega), if_neg hv]
          · refine G_S (pc := 25) f_233_25 rfl rfl rfl ?_
            refine G_CV (pc := 26) f_233_26 rfl rfl (by decide) rfl rfl (by first | assumption | exact hK.1 _ _ rfl) (by decide) ⟨Nat.le_of_ble_eq_true rfl, Nat.le_of_ble_eq_true rfl⟩ ?_
            refine CG.go (n_deeds V) ?_
            refine G_S (pc := 29) f_233_29 rfl rfl rfl ?_
            refine G_ri (pc := 34) f_233_34 ?_
            refine ⟨?_, hQ⟩
            unfold deF
            first
              | (exfalso; omega)
              | rw [if_pos (by omega), if_pos (by omega)]
              | rw [if_pos (by omega), if_neg (by omega)]
              | rw [if_neg (by omega), if_neg hv]
      · exact absurd trivial b1
theorem n_layS (W : MLs M n L) (Wr : MRs M m P) (hl : lin n L k = some D) (hr : rid m P i = some R) : CG C 247 [.ref 98, .int k, .int i] M (fun w M' => w = some (.int (b2i (True))) ∧ mQ M M' ∧ ∃ l g, mH M' l D ∧ mR M' g R) := by
  have hK := W.1
  refine CG_in (mL := 3) (hl := false) (lv := [some (.ref 98), some (.int k), some (.int i)]) (ll := []) rfl rfl rfl ?_
  refine G_S (pc := 0) f_247_0 rfl rfl rfl ?_
  refine G_S (pc := 1) f_247_1 rfl rfl rfl ?_
  refine G_CV (pc := 2) f_247_2 rfl rfl (by decide) rfl rfl (by first | assumption | exact hK.1 _ _ rfl) (by decide) ⟨Nat.le_of_ble_eq_true rfl, Nat.le_of_ble_eq_true rfl⟩ ?_
  refine CG.mono (n_hasS Wr hr) ?_
  rintro _ M1 ⟨rfl, hQ, g, V⟩
  have hK := V.1
  first | refine G_bEq (pc := 5) f_247_5 rfl (fun b1 => ?_) (fun b1 => ?_) | refine G_zeqZ (pc := 5) f_247_5 rfl (by first | exact nI_toInt (by omega) | exact zI_toInt (by omega) (by omega) | rfl) (fun b1 => ?_) (fun b1 => ?_)
  · exact absurd trivial b1
  · refine G_S (pc := 8) f_247_8 rfl rfl rfl ?_
    refine G_S (pc := 9) f_247_9 rfl rfl rfl ?_
    refine G_CV (pc := 10) f_247_10 rfl rfl (by decide) rfl rfl (by first | assumption | exact hK.1 _ _ rfl) (by decide) ⟨Nat.le_of_ble_eq_true rfl, Nat.le_of_ble_eq_true rfl⟩ ?_
    refine CG.mono (m_handF (W.q hQ) hl) ?_
    rintro _ M2 ⟨rfl, hF, l, W2⟩
    first | refine G_bEq (pc := 13) f_247_13 rfl (fun b2 => ?_) (fun b2 => ?_) | refine G_zeqZ (pc := 13) f_247_13 rfl (by first | exact nI_toInt (by omega) | exact zI_toInt (by omega) (by omega) | rfl) (fun b2 => ?_) (fun b2 => ?_)
    · exact absurd trivial b2
    · refine G_ic (v := nI 1) (pc := 16) f_247_16 (by decide) ?_
      refine G_S (pc := 17) f_247_17 rfl rfl rfl ?_
      refine G_rz (pc := 21) f_247_21 (by first | exact Or.inl rfl | exact Or.inr rfl | exact b2i_01 _ | assumption) ?_
      exact ⟨rfl, hQ.tr (hF.q (by decide)), l, g, W2, V.fm hF (by decide) (by decide)⟩
theorem n_layN (W : MLs M n L) (Wr : MRs M m P) (h : lin n L k = none ∨ rid m P i = none) : CG C 247 [.ref 98, .int k, .int i] M (fun w M' => w = some (.int (b2i (False))) ∧ mQ M M') := by
  have hK := W.1
  cases hr : rid m P i with
  | none =>
    refine CG_in (mL := 3) (hl := false) (lv := [some (.ref 98), some (.int k), some (.int i)]) (ll := []) rfl rfl rfl ?_
    refine G_S (pc := 0) f_247_0 rfl rfl rfl ?_
    refine G_S (pc := 1) f_247_1 rfl rfl rfl ?_
    refine G_CV (pc := 2) f_247_2 rfl rfl (by decide) rfl rfl (by first | assumption | exact hK.1 _ _ rfl) (by decide) ⟨Nat.le_of_ble_eq_true rfl, Nat.le_of_ble_eq_true rfl⟩ ?_
    refine CG.mono (n_hasN Wr hr) ?_
    rintro _ M1 ⟨rfl, hQ⟩
    first | refine G_bEq (pc := 5) f_247_5 rfl (fun b1 => ?_) (fun b1 => ?_) | refine G_zeqZ (pc := 5) f_247_5 rfl (by first | exact nI_toInt (by omega) | exact zI_toInt (by omega) (by omega) | rfl) (fun b1 => ?_) (fun b1 => ?_)
    · refine G_ic (v := nI 0) (pc := 20) f_247_20 (by decide) ?_
      refine G_rz (pc := 21) f_247_21 (by first | exact Or.inl rfl | exact Or.inr rfl | exact b2i_01 _ | assumption) ?_
      exact ⟨rfl, hQ⟩
    · exact absurd b1 id
  | some R =>
    have hl : lin n L k = none := by
      rcases h with h | h
      · exact h
      · rw [hr] at h
        cases h
    refine CG_in (mL := 3) (hl := false) (lv := [some (.ref 98), some (.int k), some (.int i)]) (ll := []) rfl rfl rfl ?_
    refine G_S (pc := 0) f_247_0 rfl rfl rfl ?_
    refine G_S (pc := 1) f_247_1 rfl rfl rfl ?_
    refine G_CV (pc := 2) f_247_2 rfl rfl (by decide) rfl rfl (by first | assumption | exact hK.1 _ _ rfl) (by decide) ⟨Nat.le_of_ble_eq_true rfl, Nat.le_of_ble_eq_true rfl⟩ ?_
    refine CG.mono (n_hasS Wr hr) ?_
    rintro _ M1 ⟨rfl, hQ, g, V⟩
    have hK := V.1
    first | refine G_bEq (pc := 5) f_247_5 rfl (fun b1 => ?_) (fun b1 => ?_) | refine G_zeqZ (pc := 5) f_247_5 rfl (by first | exact nI_toInt (by omega) | exact zI_toInt (by omega) (by omega) | rfl) (fun b1 => ?_) (fun b1 => ?_)
    · exact absurd trivial b1
    · refine G_S (pc := 8) f_247_8 rfl rfl rfl ?_
      refine G_S (pc := 9) f_247_9 rfl rfl rfl ?_
      refine G_CV (pc := 10) f_247_10 rfl rfl (by decide) rfl rfl (by first | assumption | exact hK.1 _ _ rfl) (by decide) ⟨Nat.le_of_ble_eq_true rfl, Nat.le_of_ble_eq_true rfl⟩ ?_
      refine CG.go (g_handN (W.q hQ) hl) ?_
      first | refine G_bEq (pc := 13) f_247_13 rfl (fun b2 => ?_) (fun b2 => ?_) | refine G_zeqZ (pc := 13) f_247_13 rfl (by first | exact nI_toInt (by omega) | exact zI_toInt (by omega) (by omega) | rfl) (fun b2 => ?_) (fun b2 => ?_)
      · refine G_ic (v := nI 0) (pc := 20) f_247_20 (by decide) ?_
        refine G_rz (pc := 21) f_247_21 (by first | exact Or.inl rfl | exact Or.inr rfl | exact b2i_01 _ | assumption) ?_
        exact ⟨rfl, hQ⟩
      · exact absurd b2 id
theorem aStop_n {o : Option (Nat → Nat)} {q : Option (Nat → Int)} (h : o = none ∨ q = none) : aStop o q = zI (-1) := by
  unfold aStop
  rcases h with rfl | rfl
  · rfl
  · cases o <;> rfl
theorem aState_n {o : Option (Nat → Nat)} {q : Option (Nat → Int)} (h : o = none ∨ q = none) : aState o q y x = zI (-2) := by
  unfold aState
  rcases h with rfl | rfl
  · rfl
  · cases o <;> rfl
theorem both {α β : Type} (o : Option α) (q : Option β) : (o = none ∨ q = none) ∨ ∃ a b, o = some a ∧ q = some b := by
  cases o with
  | none => exact Or.inl (Or.inl rfl)
  | some a =>
    cases q with
    | none => exact Or.inl (Or.inr rfl)
    | some b => exact Or.inr ⟨a, b, rfl, rfl⟩
theorem g_stop (W : MLs M n L) (Wr : MRs M m P) : CG C 248 [.ref 98, .int k, .int i] M (fun w M' => w = some (.int (aStop (lin n L k) (rid m P i))) ∧ mQ M M') := by
  have hK := W.1
  rcases both (lin n L k) (rid m P i) with hb | ⟨D, R, hl, hr⟩
  · rw [aStop_n hb]
    refine CG_in (mL := 3) (hl := false) (lv := [some (.ref 98), some (.int k), some (.int i)]) (ll := []) rfl rfl rfl ?_
    refine G_S (pc := 0) f_248_0 rfl rfl rfl ?_
    refine G_ic (v := nI 0) (pc := 1) f_248_1 (by decide) ?_
    refine G_pI (pc := 2) f_248_2 rfl (by first | assumption | exact hK.1 _ _ rfl) ?_
    refine G_S (pc := 5) f_248_5 rfl rfl rfl ?_
    refine G_S (pc := 6) f_248_6 rfl rfl rfl ?_
    refine G_S (pc := 7) f_248_7 rfl rfl rfl ?_
    refine G_CV (pc := 8) f_248_8 rfl rfl (by decide) rfl rfl (by first | assumption | exact hK.1 _ _ rfl) (by decide) ⟨Nat.le_of_ble_eq_true rfl, Nat.le_of_ble_eq_true rfl⟩ ?_
    refine CG.mono (n_layN (W.q mQ.cod) (Wr.q mQ.cod) hb) ?_
    rintro _ M1 ⟨rfl, hQ⟩
    first | refine G_bEq (pc := 11) f_248_11 rfl (fun b1 => ?_) (fun b1 => ?_) | refine G_zeqZ (pc := 11) f_248_11 rfl (by first | exact nI_toInt (by omega) | exact zI_toInt (by omega) (by omega) | rfl) (fun b1 => ?_) (fun b1 => ?_)
    · refine G_ic (v := zI (-1)) (pc := 25) f_248_25 (by decide) ?_
      refine G_ri (pc := 26) f_248_26 ?_
      exact ⟨rfl, mQ.cod.tr hQ⟩
    · exact absurd b1 id
  · rw [hl, hr]
    show CG C 248 [.ref 98, .int k, .int i] M (fun w M' => w = some (.int (nI (rnF D R (R 0).toNat 0 S0 (fun r => D (19 + r))).1)) ∧ mQ M M')
    refine CG_in (mL := 3) (hl := false) (lv := [some (.ref 98), some (.int k), some (.int i)]) (ll := []) rfl rfl rfl ?_
    refine G_S (pc := 0) f_248_0 rfl rfl rfl ?_
    refine G_ic (v := nI 0) (pc := 1) f_248_1 (by decide) ?_
    refine G_pI (pc := 2) f_248_2 rfl (by first | assumption | exact hK.1 _ _ rfl) ?_
    refine G_S (pc := 5) f_248_5 rfl rfl rfl ?_
    refine G_S (pc := 6) f_248_6 rfl rfl rfl ?_
    refine G_S (pc := 7) f_248_7 rfl rfl rfl ?_
    refine G_CV (pc := 8) f_248_8 rfl rfl (by decide) rfl rfl (by first | assumption | exact hK.1 _ _ rfl) (by decide) ⟨Nat.le_of_ble_eq_true rfl, Nat.le_of_ble_eq_true rfl⟩ ?_
    refine CG.mono (n_layS (W.q mQ.cod) (Wr.q mQ.cod) hl hr) ?_
    rintro _ M1 ⟨rfl, hQ, l, g, W1, V⟩
    have hK := V.1
    have hR0 := V.2.2.2.1.1
    have hQ := mQ.cod.tr hQ
    obtain ⟨c, hc⟩ : ∃ c : Nat, R 0 = (c : Int) := ⟨(R 0).toNat, by omega⟩
    have hcc : (R 0).toNat = c := by omega
    rw [hcc]
    first | refine G_bEq (pc := 11) f_248_11 rfl (fun b1 => ?_) (fun b1 => ?_) | refine G_zeqZ (pc := 11) f_248_11 rfl (by first | exact nI_toInt (by omega) | exact zI_toInt (by omega) (by omega) | rfl) (fun b1 => ?_) (fun b1 => ?_)
    · exact absurd trivial b1
    · refine G_S (pc := 14) f_248_14 rfl rfl rfl ?_
      refine G_S (pc := 15) f_248_15 rfl rfl rfl ?_
      refine G_CV (pc := 16) f_248_16 rfl rfl (by decide) rfl rfl (by first | assumption | exact hK.1 _ _ rfl) (by decide) ⟨Nat.le_of_ble_eq_true rfl, Nat.le_of_ble_eq_true rfl⟩ ?_
      refine CG.go (n_deedsN V hc) ?_
      refine G_CV (pc := 19) f_248_19 rfl rfl (by decide) rfl rfl (by first | assumption | exact hK.1 _ _ rfl) (by decide) ⟨Nat.le_of_ble_eq_true rfl, Nat.le_of_ble_eq_true rfl⟩ ?_
      refine CG.mono (n_play W1 V (by omega)) ?_
      rintro _ M2 ⟨rfl, hF, _⟩
      refine G_S (pc := 22) f_248_22 rfl rfl rfl ?_
      refine G_ri (pc := 26) f_248_26 ?_
      exact ⟨rfl, hQ.tr (hF.q (by decide))⟩
theorem g_state (W : MLs M n L) (Wr : MRs M m P) : CG C 250 [.ref 98, .int k, .int i, .int y, .int x] M (fun w M' => w = some (.int (aState (lin n L k) (rid m P i) y x)) ∧ mQ M M') := by
  have hK := W.1
  rcases both (lin n L k) (rid m P i) with hb | ⟨D, R, hl, hr⟩
  · rw [aState_n hb]
    refine CG_in (mL := 5) (hl := false) (lv := [some (.ref 98), some (.int k), some (.int i), some (.int y), some (.int x)]) (ll := []) rfl rfl rfl ?_
    refine G_S (pc := 0) f_250_0 rfl rfl rfl ?_
    refine G_ic (v := nI 0) (pc := 1) f_250_1 (by decide) ?_
    refine G_pI (pc := 2) f_250_2 rfl (by first | assumption | exact hK.1 _ _ rfl) ?_
    refine G_S (pc := 5) f_250_5 rfl rfl rfl ?_
    refine G_S (pc := 6) f_250_6 rfl rfl rfl ?_
    refine G_S (pc := 7) f_250_7 rfl rfl rfl ?_
    refine G_CV (pc := 8) f_250_8 rfl rfl (by decide) rfl rfl (by first | assumption | exact hK.1 _ _ rfl) (by decide) ⟨Nat.le_of_ble_eq_true rfl, Nat.le_of_ble_eq_true rfl⟩ ?_
    refine CG.mono (n_layN (W.q mQ.cod) (Wr.q mQ.cod) hb) ?_
    rintro _ M1 ⟨rfl, hQ⟩
    first | refine G_bEq (pc := 11) f_250_11 rfl (fun b1 => ?_) (fun b1 => ?_) | refine G_zeqZ (pc := 11) f_250_11 rfl (by first | exact nI_toInt (by omega) | exact zI_toInt (by omega) (by omega) | rfl) (fun b1 => ?_) (fun b1 => ?_)
    · refine G_bi (v := zI (-2)) (pc := 44) f_250_44 (by decide) ?_
      refine G_ri (pc := 46) f_250_46 ?_
      exact ⟨rfl, mQ.cod.tr hQ⟩
    · exact absurd b1 id
  · rw [hl, hr]
    show CG C 250 [.ref 98, .int k, .int i, .int y, .int x] M (fun w M' => w = some (.int (stF D R y x)) ∧ mQ M M')
    have hR0 : 0 ≤ R 0 ∧ R 0 ≤ 40 := by
      obtain ⟨l, h1, h2, h3⟩ := rid_some hr
      rw [h3]
      exact (Wr.2.2.2 l h1).1.1
    by_cases hy : 0 ≤ y.toInt ∧ y.toInt ≤ R 0
    · obtain ⟨c, hc, rfl⟩ := i_nat (x := y) (n := 41) hy.1 (by omega)
      have hy' := hy
      rw [nI_toInt (by omega)] at hy
      have hle := rnF_le D R c 0 S0 (fun r => D (19 + r))
      refine CG_in (mL := 5) (hl := false) (lv := [some (.ref 98), some (.int k), some (.int i), some (.int (nI c)), some (.int x)]) (ll := []) rfl rfl rfl ?_
      refine G_S (pc := 0) f_250_0 rfl rfl rfl ?_
      refine G_ic (v := nI 0) (pc := 1) f_250_1 (by decide) ?_
      refine G_pI (pc := 2) f_250_2 rfl (by first | assumption | exact hK.1 _ _ rfl) ?_
      refine G_S (pc := 5) f_250_5 rfl rfl rfl ?_
      refine G_S (pc := 6) f_250_6 rfl rfl rfl ?_
      refine G_S (pc := 7) f_250_7 rfl rfl rfl ?_
      refine G_CV (pc := 8) f_250_8 rfl rfl (by decide) rfl rfl (by first | assumption | exact hK.1 _ _ rfl) (by decide) ⟨Nat.le_of_ble_eq_true rfl, Nat.le_of_ble_eq_true rfl⟩ ?_
      refine CG.mono (n_layS (W.q mQ.cod) (Wr.q mQ.cod) hl hr) ?_
      rintro _ M1 ⟨rfl, hQ, l, g, W1, V⟩
      have hK := V.1
      have hQ := mQ.cod.tr hQ
      first | refine G_bEq (pc := 11) f_250_11 rfl (fun b1 => ?_) (fun b1 => ?_) | refine G_zeqZ (pc := 11) f_250_11 rfl (by first | exact nI_toInt (by omega) | exact zI_toInt (by omega) (by omega) | rfl) (fun b1 => ?_) (fun b1 => ?_)
      · exact absurd trivial b1
      · refine G_S (pc := 14) f_250_14 rfl rfl rfl ?_
        refine G_ic (v := nI 0) (pc := 15) f_250_15 (by decide) ?_
        refine G_S (pc := 16) f_250_16 rfl rfl rfl ?_
        refine G_CV (pc := 17) f_250_17 rfl rfl (by decide) rfl rfl (by first | assumption | exact hK.1 _ _ rfl) (by decide) ⟨Nat.le_of_ble_eq_true rfl, Nat.le_of_ble_eq_true rfl⟩ ?_
        refine CG.go (n_deeds V) ?_
        refine G_CS (pc := 20) f_250_20 rfl rfl (by decide) rfl rfl ⟨Nat.le_of_ble_eq_true rfl, Nat.le_of_ble_eq_true rfl⟩ ?_
        refine CG.go (m_inZ (by first | exact nI_toInt (by omega) | exact zI_toInt (by omega) (by omega) | rfl) (by first | exact nI_toInt (by omega) | exact zI_toInt (by omega) (by omega) | rfl) (by first | exact nI_toInt (by omega) | exact zI_toInt (by omega) (by omega) | rfl)) ?_
        first | refine G_bEq (pc := 23) f_250_23 rfl (fun b2 => ?_) (fun b2 => ?_) | refine G_zeqZ (pc := 23) f_250_23 rfl (by first | exact nI_toInt (by omega) | exact zI_toInt (by omega) (by omega) | rfl) (fun b2 => ?_) (fun b2 => ?_)
        · exfalso; omega
        · refine G_S (pc := 26) f_250_26 rfl rfl rfl ?_
          refine G_S (pc := 27) f_250_27 rfl rfl rfl ?_
          refine G_CV (pc := 28) f_250_28 rfl rfl (by decide) rfl rfl (by first | assumption | exact hK.1 _ _ rfl) (by decide) ⟨Nat.le_of_ble_eq_true rfl, Nat.le_of_ble_eq_true rfl⟩ ?_
          refine CG.mono (n_play W1 V (by omega)) ?_
          rintro _ M2 ⟨rfl, hF, W3⟩
          have hK := hF.K hK
          have hQ := hQ.tr (hF.q (by decide))
          refine G_S (pc := 31) f_250_31 rfl rfl rfl ?_
          refine G_jneZ (pc := 32) f_250_32 rfl (by first | exact nI_toInt (by omega) | exact zI_toInt (by omega) (by omega) | rfl) (by first | exact nI_toInt (by omega) | exact zI_toInt (by omega) (by omega) | rfl) (fun b3 => ?_) (fun b3 => ?_)
          · refine G_bi (v := zI (-2)) (pc := 44) f_250_44 (by decide) ?_
            refine G_ri (pc := 46) f_250_46 ?_
            refine ⟨?_, hQ⟩
            unfold stF
            rw [if_pos hy', nI_toInt (by omega), Int.toNat_natCast]
            first
              | rw [if_pos (by omega)]
              | rw [if_neg (by omega)]
          · have W3 := W3 (by omega)
            refine G_S (pc := 35) f_250_35 rfl rfl rfl ?_
            refine G_S (pc := 36) f_250_36 rfl rfl rfl ?_
            refine G_CV (pc := 38) f_250_38 rfl rfl (by decide) rfl rfl (by first | assumption | exact hK.1 _ _ rfl) (by decide) ⟨Nat.le_of_ble_eq_true rfl, Nat.le_of_ble_eq_true rfl⟩ ?_
            refine CG.go (n_ofState W3) ?_
            refine G_S (pc := 41) f_250_41 rfl rfl rfl ?_
            refine G_ri (pc := 46) f_250_46 ?_
            refine ⟨?_, hQ⟩
            unfold stF
            rw [if_pos hy', nI_toInt (by omega), Int.toNat_natCast]
            first
              | rw [if_pos (by omega)]
              | rw [if_neg (by omega)]
    · refine CG_in (mL := 5) (hl := false) (lv := [some (.ref 98), some (.int k), some (.int i), some (.int y), some (.int x)]) (ll := []) rfl rfl rfl ?_
      refine G_S (pc := 0) f_250_0 rfl rfl rfl ?_
      refine G_ic (v := nI 0) (pc := 1) f_250_1 (by decide) ?_
      refine G_pI (pc := 2) f_250_2 rfl (by first | assumption | exact hK.1 _ _ rfl) ?_
      refine G_S (pc := 5) f_250_5 rfl rfl rfl ?_
      refine G_S (pc := 6) f_250_6 rfl rfl rfl ?_
      refine G_S (pc := 7) f_250_7 rfl rfl rfl ?_
      refine G_CV (pc := 8) f_250_8 rfl rfl (by decide) rfl rfl (by first | assumption | exact hK.1 _ _ rfl) (by decide) ⟨Nat.le_of_ble_eq_true rfl, Nat.le_of_ble_eq_true rfl⟩ ?_
      refine CG.mono (n_layS (W.q mQ.cod) (Wr.q mQ.cod) hl hr) ?_
      rintro _ M1 ⟨rfl, hQ, l, g, W1, V⟩
      have hK := V.1
      have hQ := mQ.cod.tr hQ
      first | refine G_bEq (pc := 11) f_250_11 rfl (fun b1 => ?_) (fun b1 => ?_) | refine G_zeqZ (pc := 11) f_250_11 rfl (by first | exact nI_toInt (by omega) | exact zI_toInt (by omega) (by omega) | rfl) (fun b1 => ?_) (fun b1 => ?_)
      · exact absurd trivial b1
      · refine G_S (pc := 14) f_250_14 rfl rfl rfl ?_
        refine G_ic (v := nI 0) (pc := 15) f_250_15 (by decide) ?_
        refine G_S (pc := 16) f_250_16 rfl rfl rfl ?_
        refine G_CV (pc := 17) f_250_17 rfl rfl (by decide) rfl rfl (by first | assumption | exact hK.1 _ _ rfl) (by decide) ⟨Nat.le_of_ble_eq_true rfl, Nat.le_of_ble_eq_true rfl⟩ ?_
        refine CG.go (n_deeds V) ?_
        refine G_CS (pc := 20) f_250_20 rfl rfl (by decide) rfl rfl ⟨Nat.le_of_ble_eq_true rfl, Nat.le_of_ble_eq_true rfl⟩ ?_
        refine CG.go (m_inZ (by first | exact nI_toInt (by omega) | exact zI_toInt (by omega) (by omega) | rfl) (by first | exact nI_toInt (by omega) | exact zI_toInt (by omega) (by omega) | rfl) (by first | exact nI_toInt (by omega) | exact zI_toInt (by omega) (by omega) | rfl)) ?_
        first | refine G_bEq (pc := 23) f_250_23 rfl (fun b2 => ?_) (fun b2 => ?_) | refine G_zeqZ (pc := 23) f_250_23 rfl (by first | exact nI_toInt (by omega) | exact zI_toInt (by omega) (by omega) | rfl) (fun b2 => ?_) (fun b2 => ?_)
        · refine G_bi (v := zI (-2)) (pc := 44) f_250_44 (by decide) ?_
          refine G_ri (pc := 46) f_250_46 ?_
          exact ⟨by unfold stF; rw [if_neg hy], hQ⟩
        · exfalso; omega
/-! days by a seed -/
theorem TM.sd (W : TM M l D n S b) : TM (M.1, up2 M.2.1 98 53 x, M.2.2.1, M.2.2.2) l D n S b := by
  obtain ⟨h1, ⟨s0, s1, s2, s3⟩, q1, q2, q3, hO⟩ := W
  have hF : Fm [] [53] M _ := Fm.upf (k := 53) (x := x) (by decide)
  exact ⟨h1.fm hF (by decide) (by decide), ⟨(by (try dsimp only); exact up2_o (by omega) s0), (by (try dsimp only); exact up2_o (by omega) s1), (by (try dsimp only); exact up2_o (by omega) s2), (by (try dsimp only); exact up2_o (by omega) s3)⟩, fun r hr => (by (try dsimp only); exact up2_o (by omega) (q1 r hr)), fun r hr => (by (try dsimp only); exact up2_o (by omega) (q2 r hr)), fun r hr => (by (try dsimp only); exact up2_o (by omega) (q3 r hr)), hO⟩
theorem n_draw {c : Nat} {z : Int} (W : TM M l D n S b) (hs5 : M.2.1 98 53 = s) (h1 : 1 ≤ c) (hn : c < 2 ^ 31) (hz : z = (c : Int)) : CG C 305 [.ref 98, .int (nI c)] M (fun w M' => w = some (.int (zI (drF s z))) ∧ M' = (M.1, up2 M.2.1 98 53 (sdF s), M.2.2.1, M.2.2.2)) := by
  subst hz
  have hK := W.1.1
  obtain ⟨p1, p2⟩ := ush_pos (sdF s)
  refine CG_in (mL := 2) (hl := false) (lv := [some (.ref 98), some (.int (nI c))]) (ll := []) rfl rfl rfl ?_
  refine G_S (pc := 0) f_305_0 rfl rfl rfl ?_
  refine G_S (pc := 1) f_305_1 rfl rfl rfl ?_
  refine G_gIv (pc := 2) f_305_2 (by decide) rfl (by decide) (by first | assumption | exact hK.1 _ _ rfl) (hs5) ?_
  refine G_lc (v := zI 1103515245) (pc := 5) f_305_5 rfl (by decide) ?_
  refine G_S (pc := 8) f_305_8 rfl rfl rfl ?_
  refine G_si (v := nI 12345) (pc := 9) f_305_9 (by decide) ?_
  refine G_S (pc := 12) f_305_12 rfl rfl rfl ?_
  refine G_pI (pc := 13) f_305_13 rfl (by first | assumption | exact hK.1 _ _ rfl) ?_
  refine G_S (pc := 16) f_305_16 rfl rfl rfl ?_
  refine G_gIv (pc := 17) f_305_17 (by decide) rfl (by decide) (by first | assumption | exact hK.1 _ _ rfl) (mI_s) ?_
  refine G_bi (v := nI 16) (pc := 20) f_305_20 (by decide) ?_
  have hz : ∃ e : Nat, ((sdF s).toUInt32 >>> ((nI 16).toUInt32 &&& Int32.toUInt32 31)).toInt32 = nI e ∧ e < 65536 := by
    obtain ⟨e, he, hh⟩ := i_nat (n := 65536) p1 p2
    exact ⟨e, hh, he⟩
  obtain ⟨e, he, he2⟩ := hz
  refine G_S (pc := 22) f_305_22 rfl rfl rfl ?_
  show G C 305 (23, [some (.ref 98), some (.int (nI c))], [], [.int ((sdF s).toUInt32 >>> ((nI 16).toUInt32 &&& Int32.toUInt32 31)).toInt32], (M.1, up2 M.2.1 98 53 (sdF s), M.2.2.1, M.2.2.2)) _
  rw [he]
  refine G_S (pc := 23) f_305_23 rfl rfl rfl ?_
  refine G_remN (pc := 24) f_305_24 (by omega) (by omega) (by omega) ?_
  refine G_ri (pc := 25) f_305_25 ⟨?_, rfl⟩
  unfold drF
  rw [he, nI_toInt (by omega), nI_zI]
  rfl
theorem n_free (W : TM M l D n S b) : CG C 306 [.ref 98] M (fun w M' => w = some (.int (oI (leastF (fun s => decide (S (30 + s) = -1)) (D 1) 0))) ∧ M' = M) := by
  have hK := W.1.1
  have hH := W.1.2
  obtain ⟨⟨a0, a1, a2, a3⟩, hl8, hD, ao⟩ := W.1.2
  have hn0 : _ ≤ 8 := hD.1
  have hn1 : _ ≤ 6 := hD.2.1.2
  have hn2 : _ ≤ 8 := hD.2.2.1
  obtain ⟨⟨s0, s1, s2, s3⟩, q1, q2, q3, hO⟩ := W.2
  obtain ⟨o0, o1, o2, o3, o4, o5, o6⟩ := hO
  have loop : ∀ d i, i + d = D 1 → G C 306 (2, [some (.ref 98), some (.int (nI i))], [], [], M) (fun w M' => w = some (.int (oI (leastF (fun s => decide (S (30 + s) = -1)) d i))) ∧ M' = M) := by
    intro d
    induction d with
    | zero =>
      intro i hi
      refine G_S (pc := 2) f_306_2 rfl rfl rfl ?_
      refine G_S (pc := 3) f_306_3 rfl rfl rfl ?_
      refine G_gIv (pc := 4) f_306_4 (by decide) rfl (by decide) (by first | assumption | exact hK.1 _ _ rfl) (by first | assumption | exact mI_s | ((refine mI_o (by first | decide | omega) ?_); (repeat (refine mI_o (by first | decide | omega) ?_)); first | exact mI_s | assumption) | rfl) ?_
      refine G_jgeZ (pc := 7) f_306_7 rfl (by first | exact nI_toInt (by omega) | exact zI_toInt (by omega) (by omega) | rfl) (by first | exact nI_toInt (by omega) | exact zI_toInt (by omega) (by omega) | rfl) (fun b1 => ?_) (fun b1 => ?_)
      · refine G_ic (v := zI (-1)) (pc := 28) f_306_28 (by decide) ?_
        refine G_ri (pc := 29) f_306_29 ?_
        exact ⟨rfl, rfl⟩
      · exfalso; omega
    | succ d ih =>
      intro i hi
      have ho := o6 i (by omega)
      have p1 := q3 i (by omega)
      refine G_S (pc := 2) f_306_2 rfl rfl rfl ?_
      refine G_S (pc := 3) f_306_3 rfl rfl rfl ?_
      refine G_gIv (pc := 4) f_306_4 (by decide) rfl (by decide) (by first | assumption | exact hK.1 _ _ rfl) (by first | assumption | exact mI_s | ((refine mI_o (by first | decide | omega) ?_); (repeat (refine mI_o (by first | decide | omega) ?_)); first | exact mI_s | assumption) | rfl) ?_
      refine G_jgeZ (pc := 7) f_306_7 rfl (by first | exact nI_toInt (by omega) | exact zI_toInt (by omega) (by omega) | rfl) (by first | exact nI_toInt (by omega) | exact zI_toInt (by omega) (by omega) | rfl) (fun b1 => ?_) (fun b1 => ?_)
      · exfalso; omega
      · refine G_S (pc := 10) f_306_10 rfl rfl rfl ?_
        refine G_gR (pc := 11) f_306_11 (by decide) rfl (by first | assumption | exact hK.1 _ _ rfl) (by first | assumption | exact hK.2 _ _ _ rfl | (try dsimp only) <;> (repeat (first | exact up2_s | refine up2_o (by first | decide | omega) ?_)) <;> first | assumption | exact hK.2 _ _ _ rfl) ?_
        refine G_S (pc := 14) f_306_14 rfl rfl rfl ?_
        refine G_iaN (pc := 15) f_306_15 (by first | assumption | exact hK.1 _ _ rfl) (by omega) (by omega) (by first | exact p1 | rfl) ?_
        refine G_ic (v := zI (-1)) (pc := 16) f_306_16 (by decide) ?_
        refine G_jneZ (pc := 17) f_306_17 rfl (by first | exact nI_toInt (by omega) | exact zI_toInt (by omega) (by omega) | rfl) (by first | exact nI_toInt (by omega) | exact zI_toInt (by omega) (by omega) | rfl) (fun b2 => ?_) (fun b2 => ?_)
        · first | refine G_inc1 (pc := 22) f_306_22 rfl ?_ | refine G_S (pc := 22) f_306_22 rfl rfl rfl ?_
          refine G_S (pc := 25) f_306_25 rfl rfl rfl ?_
          have e := ih (i + 1) (by omega)
          rw [leastF, if_neg (fun q => b2 (of_decide_eq_true q))]
          exact e
        · refine G_S (pc := 20) f_306_20 rfl rfl rfl ?_
          refine G_ri (pc := 21) f_306_21 ?_
          rw [leastF, if_pos (decide_eq_true b2)]
          exact ⟨rfl, rfl⟩
  refine CG_in (mL := 2) (hl := false) (lv := [some (.ref 98), none]) (ll := []) rfl rfl rfl ?_
  refine G_ic (v := nI 0) (pc := 0) f_306_0 (by decide) ?_
  refine G_S (pc := 1) f_306_1 rfl rfl rfl ?_
  exact loop (D 1) 0 (by omega)
theorem n_step {c : Nat} {lot rr : Int} {u1 u2 : Int32} (W : TM M l D c S b) (hr : 1 ≤ D 2) (hc : c ≤ 1000000) (T1 : CG C 305 [.ref 98, .int (nI 8)] M (fun w M' => w = some (.int (zI lot)) ∧ M' = (M.1, up2 M.2.1 98 53 u1, M.2.2.1, M.2.2.2))) (T2 : CG C 305 [.ref 98, .int (nI (D 2))] (M.1, up2 M.2.1 98 53 u1, M.2.2.1, M.2.2.2) (fun w M' => w = some (.int (zI rr)) ∧ M' = (M.1, up2 (up2 M.2.1 98 53 u1) 98 53 u2, M.2.2.1, M.2.2.2))) (l8 : 0 ≤ lot ∧ lot < 8) (lr : 0 ≤ rr ∧ rr < (D 2 : Int)) : CG C 307 [.ref 98] M (fun w M' => w = none ∧ Fm TO TG M M' ∧ M'.2.1 98 53 = (dyG D lot rr u1 u2 S b).1 ∧ TM M' l D (c + 1) (dyG D lot rr u1 u2 S b).2.1 (dyG D lot rr u1 u2 S b).2.2) := by
  have hK := W.1.1
  have hH := W.1.2
  obtain ⟨⟨a0, a1, a2, a3⟩, hl8, hD, ao⟩ := W.1.2
  have hn0 : _ ≤ 8 := hD.1
  have hn1 : _ ≤ 6 := hD.2.1.2
  have hn2 : _ ≤ 8 := hD.2.2.1
  obtain ⟨⟨s0, s1, s2, s3⟩, q1, q2, q3, hO⟩ := W.2
  obtain ⟨o0, o1, o2, o3, o4, o5, o6⟩ := hO
  have tg_ : ∀ k, k ∈ TFs → k ∈ TG := by decide
  have hFs : Fm TO TG M (M.1, up2 M.2.1 98 53 u1, M.2.2.1, M.2.2.2) := Fm.upf (k := 53) (x := u1) (by decide)
  have hFs2 : Fm TO TG (M.1, up2 M.2.1 98 53 u1, M.2.2.1, M.2.2.2) (M.1, up2 (up2 M.2.1 98 53 u1) 98 53 u2, M.2.2.1, M.2.2.2) := Fm.upf (k := 53) (x := u2) (by decide)
  have Wa : TM (M.1, up2 M.2.1 98 53 u1, M.2.2.1, M.2.2.2) l D c S b := W.sd
  have Wb : TM (M.1, up2 (up2 M.2.1 98 53 u1) 98 53 u2, M.2.2.1, M.2.2.2) l D c S b := Wa.sd
  have ex : (zI rr).toInt = rr := zI_toInt (by omega) (by omega)
  have tb := n_boards (C := C) (x := zI rr) (y := oI (leastF (fun s => decide (S (30 + s) = -1)) (D 1) 0)) Wb
  rw [ex, frI_i hn1] at tb
  have tg := n_getsOff (C := C) (x := zI rr) Wb
  rw [ex] at tg
  have s5 : ∀ {N N' : Mm}, Fm TO TFs N N' → N'.2.1 98 53 = N.2.1 98 53 := fun h => h.2.2 53 (by decide)
  refine CG_in (mL := 3) (hl := false) (lv := [some (.ref 98), none, none]) (ll := []) rfl rfl rfl ?_
  refine G_S (pc := 0) f_307_0 rfl rfl rfl ?_
  refine G_bi (v := nI 8) (pc := 1) f_307_1 (by decide) ?_
  refine G_CV (pc := 3) f_307_3 rfl rfl (by decide) rfl rfl (by first | assumption | exact hK.1 _ _ rfl) (by decide) ⟨Nat.le_of_ble_eq_true rfl, Nat.le_of_ble_eq_true rfl⟩ ?_
  refine CG.mono (T1) ?_
  rintro _ M2 ⟨rfl, rfl⟩
  refine G_S (pc := 6) f_307_6 rfl rfl rfl ?_
  refine G_S (pc := 7) f_307_7 rfl rfl rfl ?_
  refine G_ic (v := nI 4) (pc := 8) f_307_8 (by decide) ?_
  refine G_jgeZ (pc := 9) f_307_9 rfl (by first | exact nI_toInt (by omega) | exact zI_toInt (by omega) (by omega) | rfl) (by first | exact nI_toInt (by omega) | exact zI_toInt (by omega) (by omega) | rfl) (fun b1 => ?_) (fun b1 => ?_)
  · refine G_S (pc := 48) f_307_48 rfl rfl rfl ?_
    refine G_ic (v := nI 4) (pc := 49) f_307_49 (by decide) ?_
    refine G_jneZ (pc := 50) f_307_50 rfl (by first | exact nI_toInt (by omega) | exact zI_toInt (by omega) (by omega) | rfl) (by first | exact nI_toInt (by omega) | exact zI_toInt (by omega) (by omega) | rfl) (fun b3 => ?_) (fun b3 => ?_)
    · refine G_S (pc := 60) f_307_60 rfl rfl rfl ?_
      refine G_CV (pc := 61) f_307_61 rfl rfl (by decide) rfl rfl (by first | assumption | exact hK.1 _ _ rfl) (by decide) ⟨Nat.le_of_ble_eq_true rfl, Nat.le_of_ble_eq_true rfl⟩ ?_
      refine CG.mono (n_goes Wa hc) ?_
      rintro _ M3 ⟨rfl, hF3, W3⟩
      have hK := W3.1.1
      first | refine G_bNe (pc := 64) f_307_64 rfl (fun b4 => ?_) (fun b4 => ?_) | refine G_zneZ (pc := 64) f_307_64 rfl (by first | exact nI_toInt (by omega) | exact zI_toInt (by omega) (by omega) | rfl) (fun b4 => ?_) (fun b4 => ?_)
      · refine G_rv (pc := 72) f_307_72 ?_
        first
          | (rw [show dyG D lot rr u1 u2 S b = (u2, (if bdB D S rr (frI D S) then bdS S rr (frI D S) else S), b) from if_pos (by omega)]
             exact ⟨rfl, (hFs.tr hFs2).tr (hF3.sub (fun _ q => q) tg_), (s5 hF3).trans mI_s, W3.kk (by omega)⟩)
          | (rw [show dyG D lot rr u1 u2 S b = (u2, (if (0 ≤ rr ∧ rr < (D 2 : Int)) ∧ abd S rr.toNat = true then ofS S rr.toNat else S), b) by
               unfold dyG
               rw [if_neg (by omega), if_pos (by omega)]]
             exact ⟨rfl, (hFs.tr hFs2).tr (hF3.sub (fun _ q => q) tg_), (s5 hF3).trans mI_s, W3.kk (by omega)⟩)
          | (rw [show dyG D lot rr u1 u2 S b = (u1, S, shN S b (D 1 - 1)) by
               unfold dyG
               rw [if_neg (by omega), if_neg (by omega), if_pos (by omega)]]
             exact ⟨rfl, hFs.tr (hF3.sub (fun _ q => q) tg_), (s5 hF3).trans mI_s, W3.kk (by omega)⟩)
          | (have e2 : goF D S b = (S, b) := if_neg b4
             rw [show dyG D lot rr u1 u2 S b = (u1, (if S 0 = 0 then S else bkS S), b) by
               unfold dyG
               rw [if_neg (by omega), if_neg (by omega), if_neg (by omega), if_neg b4]]
             rw [e2] at W4
             exact ⟨rfl, (hFs.tr (hF3.sub (fun _ q => q) tg_)).tr (hF4.sub (fun _ q => q) tg_), (s5 hF4).trans ((s5 hF3).trans mI_s), W4⟩)
          | (rw [show dyG D lot rr u1 u2 S b = (u1, goF D S b) by
               unfold dyG
               rw [if_neg (by omega), if_neg (by omega), if_neg (by omega), if_pos b4]]
             exact ⟨rfl, hFs.tr (hF3.sub (fun _ q => q) tg_), (s5 hF3).trans mI_s, W3⟩)
      · refine G_S (pc := 67) f_307_67 rfl rfl rfl ?_
        refine G_CV (pc := 68) f_307_68 rfl rfl (by decide) rfl rfl (by first | assumption | exact hK.1 _ _ rfl) (by decide) ⟨Nat.le_of_ble_eq_true rfl, Nat.le_of_ble_eq_true rfl⟩ ?_
        refine CG.mono (n_back W3) ?_
        rintro _ M4 ⟨rfl, hF4, W4⟩
        refine G_S (pc := 71) f_307_71 rfl rfl rfl ?_
        refine G_rv (pc := 72) f_307_72 ?_
        first
          | (rw [show dyG D lot rr u1 u2 S b = (u2, (if bdB D S rr (frI D S) then bdS S rr (frI D S) else S), b) from if_pos (by omega)]
             exact ⟨rfl, (hFs.tr hFs2).tr (hF3.sub (fun _ q => q) tg_), (s5 hF3).trans mI_s, W3.kk (by omega)⟩)
          | (rw [show dyG D lot rr u1 u2 S b = (u2, (if (0 ≤ rr ∧ rr < (D 2 : Int)) ∧ abd S rr.toNat = true then ofS S rr.toNat else S), b) by
               unfold dyG
               rw [if_neg (by omega), if_pos (by omega)]]
             exact ⟨rfl, (hFs.tr hFs2).tr (hF3.sub (fun _ q => q) tg_), (s5 hF3).trans mI_s, W3.kk (by omega)⟩)
          | (rw [show dyG D lot rr u1 u2 S b = (u1, S, shN S b (D 1 - 1)) by
               unfold dyG
               rw [if_neg (by omega), if_neg (by omega), if_pos (by omega)]]
             exact ⟨rfl, hFs.tr (hF3.sub (fun _ q => q) tg_), (s5 hF3).trans mI_s, W3.kk (by omega)⟩)
          | (have e2 : goF D S b = (S, b) := if_neg b4
             rw [show dyG D lot rr u1 u2 S b = (u1, (if S 0 = 0 then S else bkS S), b) by
               unfold dyG
               rw [if_neg (by omega), if_neg (by omega), if_neg (by omega), if_neg b4]]
             rw [e2] at W4
             exact ⟨rfl, (hFs.tr (hF3.sub (fun _ q => q) tg_)).tr (hF4.sub (fun _ q => q) tg_), (s5 hF4).trans ((s5 hF3).trans mI_s), W4⟩)
          | (rw [show dyG D lot rr u1 u2 S b = (u1, goF D S b) by
               unfold dyG
               rw [if_neg (by omega), if_neg (by omega), if_neg (by omega), if_pos b4]]
             exact ⟨rfl, hFs.tr (hF3.sub (fun _ q => q) tg_), (s5 hF3).trans mI_s, W3⟩)
    · refine G_S (pc := 53) f_307_53 rfl rfl rfl ?_
      refine G_CV (pc := 54) f_307_54 rfl rfl (by decide) rfl rfl (by first | assumption | exact hK.1 _ _ rfl) (by decide) ⟨Nat.le_of_ble_eq_true rfl, Nat.le_of_ble_eq_true rfl⟩ ?_
      refine CG.mono (n_shares Wa) ?_
      rintro _ M3 ⟨rfl, hF3, W3⟩
      refine G_S (pc := 57) f_307_57 rfl rfl rfl ?_
      refine G_rv (pc := 72) f_307_72 ?_
      first
        | (rw [show dyG D lot rr u1 u2 S b = (u2, (if bdB D S rr (frI D S) then bdS S rr (frI D S) else S), b) from if_pos (by omega)]
           exact ⟨rfl, (hFs.tr hFs2).tr (hF3.sub (fun _ q => q) tg_), (s5 hF3).trans mI_s, W3.kk (by omega)⟩)
        | (rw [show dyG D lot rr u1 u2 S b = (u2, (if (0 ≤ rr ∧ rr < (D 2 : Int)) ∧ abd S rr.toNat = true then ofS S rr.toNat else S), b) by
             unfold dyG
             rw [if_neg (by omega), if_pos (by omega)]]
           exact ⟨rfl, (hFs.tr hFs2).tr (hF3.sub (fun _ q => q) tg_), (s5 hF3).trans mI_s, W3.kk (by omega)⟩)
        | (rw [show dyG D lot rr u1 u2 S b = (u1, S, shN S b (D 1 - 1)) by
             unfold dyG
             rw [if_neg (by omega), if_neg (by omega), if_pos (by omega)]]
           exact ⟨rfl, hFs.tr (hF3.sub (fun _ q => q) tg_), (s5 hF3).trans mI_s, W3.kk (by omega)⟩)
        | (have e2 : goF D S b = (S, b) := if_neg b4
           rw [show dyG D lot rr u1 u2 S b = (u1, (if S 0 = 0 then S else bkS S), b) by
             unfold dyG
             rw [if_neg (by omega), if_neg (by omega), if_neg (by omega), if_neg b4]]
           rw [e2] at W4
           exact ⟨rfl, (hFs.tr (hF3.sub (fun _ q => q) tg_)).tr (hF4.sub (fun _ q => q) tg_), (s5 hF4).trans ((s5 hF3).trans mI_s), W4⟩)
        | (rw [show dyG D lot rr u1 u2 S b = (u1, goF D S b) by
             unfold dyG
             rw [if_neg (by omega), if_neg (by omega), if_neg (by omega), if_pos b4]]
           exact ⟨rfl, hFs.tr (hF3.sub (fun _ q => q) tg_), (s5 hF3).trans mI_s, W3⟩)
  · refine G_S (pc := 12) f_307_12 rfl rfl rfl ?_
    refine G_S (pc := 13) f_307_13 rfl rfl rfl ?_
    refine G_gIv (pc := 14) f_307_14 (by decide) rfl (by decide) (by first | assumption | exact hK.1 _ _ rfl) ((mI_o (by omega) a3)) ?_
    refine G_CV (pc := 17) f_307_17 rfl rfl (by decide) rfl rfl (by first | assumption | exact hK.1 _ _ rfl) (by decide) ⟨Nat.le_of_ble_eq_true rfl, Nat.le_of_ble_eq_true rfl⟩ ?_
    refine CG.mono (T2) ?_
    rintro _ M2 ⟨rfl, rfl⟩
    refine G_S (pc := 20) f_307_20 rfl rfl rfl ?_
    refine G_S (pc := 21) f_307_21 rfl rfl rfl ?_
    refine G_ic (v := nI 3) (pc := 22) f_307_22 (by decide) ?_
    refine G_jgeZ (pc := 23) f_307_23 rfl (by first | exact nI_toInt (by omega) | exact zI_toInt (by omega) (by omega) | rfl) (by first | exact nI_toInt (by omega) | exact zI_toInt (by omega) (by omega) | rfl) (fun b2 => ?_) (fun b2 => ?_)
    · refine G_S (pc := 39) f_307_39 rfl rfl rfl ?_
      refine G_S (pc := 40) f_307_40 rfl rfl rfl ?_
      refine G_CV (pc := 41) f_307_41 rfl rfl (by decide) rfl rfl (by first | assumption | exact hK.1 _ _ rfl) (by decide) ⟨Nat.le_of_ble_eq_true rfl, Nat.le_of_ble_eq_true rfl⟩ ?_
      refine CG.mono (tg) ?_
      rintro _ M3 ⟨rfl, hF3, W3⟩
      refine G_S (pc := 44) f_307_44 rfl rfl rfl ?_
      refine G_S (pc := 45) f_307_45 rfl rfl rfl ?_
      refine G_rv (pc := 72) f_307_72 ?_
      first
        | (rw [show dyG D lot rr u1 u2 S b = (u2, (if bdB D S rr (frI D S) then bdS S rr (frI D S) else S), b) from if_pos (by omega)]
           exact ⟨rfl, (hFs.tr hFs2).tr (hF3.sub (fun _ q => q) tg_), (s5 hF3).trans mI_s, W3.kk (by omega)⟩)
        | (rw [show dyG D lot rr u1 u2 S b = (u2, (if (0 ≤ rr ∧ rr < (D 2 : Int)) ∧ abd S rr.toNat = true then ofS S rr.toNat else S), b) by
             unfold dyG
             rw [if_neg (by omega), if_pos (by omega)]]
           exact ⟨rfl, (hFs.tr hFs2).tr (hF3.sub (fun _ q => q) tg_), (s5 hF3).trans mI_s, W3.kk (by omega)⟩)
        | (rw [show dyG D lot rr u1 u2 S b = (u1, S, shN S b (D 1 - 1)) by
             unfold dyG
             rw [if_neg (by omega), if_neg (by omega), if_pos (by omega)]]
           exact ⟨rfl, hFs.tr (hF3.sub (fun _ q => q) tg_), (s5 hF3).trans mI_s, W3.kk (by omega)⟩)
        | (have e2 : goF D S b = (S, b) := if_neg b4
           rw [show dyG D lot rr u1 u2 S b = (u1, (if S 0 = 0 then S else bkS S), b) by
             unfold dyG
             rw [if_neg (by omega), if_neg (by omega), if_neg (by omega), if_neg b4]]
           rw [e2] at W4
           exact ⟨rfl, (hFs.tr (hF3.sub (fun _ q => q) tg_)).tr (hF4.sub (fun _ q => q) tg_), (s5 hF4).trans ((s5 hF3).trans mI_s), W4⟩)
        | (rw [show dyG D lot rr u1 u2 S b = (u1, goF D S b) by
             unfold dyG
             rw [if_neg (by omega), if_neg (by omega), if_neg (by omega), if_pos b4]]
           exact ⟨rfl, hFs.tr (hF3.sub (fun _ q => q) tg_), (s5 hF3).trans mI_s, W3⟩)
    · refine G_S (pc := 26) f_307_26 rfl rfl rfl ?_
      refine G_S (pc := 27) f_307_27 rfl rfl rfl ?_
      refine G_S (pc := 28) f_307_28 rfl rfl rfl ?_
      refine G_CV (pc := 29) f_307_29 rfl rfl (by decide) rfl rfl (by first | assumption | exact hK.1 _ _ rfl) (by decide) ⟨Nat.le_of_ble_eq_true rfl, Nat.le_of_ble_eq_true rfl⟩ ?_
      refine CG.go (n_free Wb) ?_
      refine G_CV (pc := 32) f_307_32 rfl rfl (by decide) rfl rfl (by first | assumption | exact hK.1 _ _ rfl) (by decide) ⟨Nat.le_of_ble_eq_true rfl, Nat.le_of_ble_eq_true rfl⟩ ?_
      refine CG.mono (tb) ?_
      rintro _ M3 ⟨rfl, hF3, W3⟩
      refine G_S (pc := 35) f_307_35 rfl rfl rfl ?_
      refine G_S (pc := 36) f_307_36 rfl rfl rfl ?_
      refine G_S (pc := 45) f_307_45 rfl rfl rfl ?_
      refine G_rv (pc := 72) f_307_72 ?_
      first
        | (rw [show dyG D lot rr u1 u2 S b = (u2, (if bdB D S rr (frI D S) then bdS S rr (frI D S) else S), b) from if_pos (by omega)]
           exact ⟨rfl, (hFs.tr hFs2).tr (hF3.sub (fun _ q => q) tg_), (s5 hF3).trans mI_s, W3.kk (by omega)⟩)
        | (rw [show dyG D lot rr u1 u2 S b = (u2, (if (0 ≤ rr ∧ rr < (D 2 : Int)) ∧ abd S rr.toNat = true then ofS S rr.toNat else S), b) by
             unfold dyG
             rw [if_neg (by omega), if_pos (by omega)]]
           exact ⟨rfl, (hFs.tr hFs2).tr (hF3.sub (fun _ q => q) tg_), (s5 hF3).trans mI_s, W3.kk (by omega)⟩)
        | (rw [show dyG D lot rr u1 u2 S b = (u1, S, shN S b (D 1 - 1)) by
             unfold dyG
             rw [if_neg (by omega), if_neg (by omega), if_pos (by omega)]]
           exact ⟨rfl, hFs.tr (hF3.sub (fun _ q => q) tg_), (s5 hF3).trans mI_s, W3.kk (by omega)⟩)
        | (have e2 : goF D S b = (S, b) := if_neg b4
           rw [show dyG D lot rr u1 u2 S b = (u1, (if S 0 = 0 then S else bkS S), b) by
             unfold dyG
             rw [if_neg (by omega), if_neg (by omega), if_neg (by omega), if_neg b4]]
           rw [e2] at W4
           exact ⟨rfl, (hFs.tr (hF3.sub (fun _ q => q) tg_)).tr (hF4.sub (fun _ q => q) tg_), (s5 hF4).trans ((s5 hF3).trans mI_s), W4⟩)
        | (rw [show dyG D lot rr u1 u2 S b = (u1, goF D S b) by
             unfold dyG
             rw [if_neg (by omega), if_neg (by omega), if_neg (by omega), if_pos b4]]
           exact ⟨rfl, hFs.tr (hF3.sub (fun _ q => q) tg_), (s5 hF3).trans mI_s, W3⟩)
theorem n_drawDeed {c : Nat} {q : Int32 × (Nat → Int) × (Nat → Nat)} (W : TM M l D c q.2.1 q.2.2) (hs5 : M.2.1 98 53 = q.1) (hr : 1 ≤ D 2) (hc : c ≤ 1000000) : CG C 307 [.ref 98] M (fun w M' => w = none ∧ Fm TO TG M M' ∧ M'.2.1 98 53 = (dyQ D q).1 ∧ TM M' l D (c + 1) (dyQ D q).2.1 (dyQ D q).2.2) := by
  have hn2 := W.1.2.2.2.1.2.2.1
  exact n_step W hr hc (n_draw (z := 8) W hs5 (by omega) (by omega) rfl) (n_draw (z := (D 2 : Int)) W.sd mI_s (by omega) (by omega) rfl) (drF_b q.1 (by omega)) (drF_b (sdF q.1) (by omega))
theorem g_drawn (W : MLs M n L) : CG C 308 [.ref 98, .int k, .int s, .int y, .int x] M (fun w M' => w = some (.int (aLin (lin n L k) (zI (-2)) (fun D => drwF D s y x))) ∧ mQ M M') := by
  have hK := W.1
  have tgq : ∀ i, i ∈ TO → i = 98 ∨ (108 ≤ i ∧ i ≤ 129) := by decide
  cases hl : lin n L k with
  | none =>
    refine CG_in (mL := 6) (hl := false) (lv := [some (.ref 98), some (.int k), some (.int s), some (.int y), some (.int x), none]) (ll := []) rfl rfl rfl ?_
    refine G_S (pc := 0) f_308_0 rfl rfl rfl ?_
    refine G_ic (v := nI 0) (pc := 1) f_308_1 (by decide) ?_
    refine G_pI (pc := 2) f_308_2 rfl (by first | assumption | exact hK.1 _ _ rfl) ?_
    refine G_S (pc := 5) f_308_5 rfl rfl rfl ?_
    refine G_ic (v := nI 0) (pc := 6) f_308_6 (by decide) ?_
    refine G_bi (v := nI 60) (pc := 7) f_308_7 (by decide) ?_
    refine G_CS (pc := 9) f_308_9 rfl rfl (by decide) rfl rfl ⟨Nat.le_of_ble_eq_true rfl, Nat.le_of_ble_eq_true rfl⟩ ?_
    refine CG.go (m_inZ (by first | exact nI_toInt (by omega) | exact zI_toInt (by omega) (by omega) | rfl) (by first | exact nI_toInt (by omega) | exact zI_toInt (by omega) (by omega) | rfl) (by first | exact nI_toInt (by omega) | exact zI_toInt (by omega) (by omega) | rfl)) ?_
    first | refine G_bEq (pc := 12) f_308_12 rfl (fun b1 => ?_) (fun b1 => ?_) | refine G_zeqZ (pc := 12) f_308_12 rfl (by first | exact nI_toInt (by omega) | exact zI_toInt (by omega) (by omega) | rfl) (fun b1 => ?_) (fun b1 => ?_)
    · refine G_bi (v := zI (-2)) (pc := 30) f_308_30 (by decide) ?_
      refine G_ri (pc := 32) f_308_32 ?_
      exact ⟨rfl, mQ.cod⟩
    · refine G_S (pc := 15) f_308_15 rfl rfl rfl ?_
      refine G_S (pc := 16) f_308_16 rfl rfl rfl ?_
      refine G_CV (pc := 17) f_308_17 rfl rfl (by decide) rfl rfl (by first | assumption | exact hK.1 _ _ rfl) (by decide) ⟨Nat.le_of_ble_eq_true rfl, Nat.le_of_ble_eq_true rfl⟩ ?_
      refine CG.go (g_handN (W.q mQ.cod) hl) ?_
      first | refine G_bEq (pc := 20) f_308_20 rfl (fun b2 => ?_) (fun b2 => ?_) | refine G_zeqZ (pc := 20) f_308_20 rfl (by first | exact nI_toInt (by omega) | exact zI_toInt (by omega) (by omega) | rfl) (fun b2 => ?_) (fun b2 => ?_)
      · refine G_bi (v := zI (-2)) (pc := 30) f_308_30 (by decide) ?_
        refine G_ri (pc := 32) f_308_32 ?_
        exact ⟨rfl, mQ.cod⟩
      · exact absurd b2 id
  | some D =>
    show CG C 308 [.ref 98, .int k, .int s, .int y, .int x] M (fun w M' => w = some (.int (drwF D s y x)) ∧ mQ M M')
    by_cases hy : 0 ≤ y.toInt ∧ y.toInt ≤ 60
    · obtain ⟨c, hc, rfl⟩ := i_nat (x := y) (n := 61) hy.1 (by omega)
      have hy' := hy
      rw [nI_toInt (by omega)] at hy
      refine CG_in (mL := 6) (hl := false) (lv := [some (.ref 98), some (.int k), some (.int s), some (.int (nI c)), some (.int x), none]) (ll := []) rfl rfl rfl ?_
      refine G_S (pc := 0) f_308_0 rfl rfl rfl ?_
      refine G_ic (v := nI 0) (pc := 1) f_308_1 (by decide) ?_
      refine G_pI (pc := 2) f_308_2 rfl (by first | assumption | exact hK.1 _ _ rfl) ?_
      refine G_S (pc := 5) f_308_5 rfl rfl rfl ?_
      refine G_ic (v := nI 0) (pc := 6) f_308_6 (by decide) ?_
      refine G_bi (v := nI 60) (pc := 7) f_308_7 (by decide) ?_
      refine G_CS (pc := 9) f_308_9 rfl rfl (by decide) rfl rfl ⟨Nat.le_of_ble_eq_true rfl, Nat.le_of_ble_eq_true rfl⟩ ?_
      refine CG.go (m_inZ (by first | exact nI_toInt (by omega) | exact zI_toInt (by omega) (by omega) | rfl) (by first | exact nI_toInt (by omega) | exact zI_toInt (by omega) (by omega) | rfl) (by first | exact nI_toInt (by omega) | exact zI_toInt (by omega) (by omega) | rfl)) ?_
      first | refine G_bEq (pc := 12) f_308_12 rfl (fun b1 => ?_) (fun b1 => ?_) | refine G_zeqZ (pc := 12) f_308_12 rfl (by first | exact nI_toInt (by omega) | exact zI_toInt (by omega) (by omega) | rfl) (fun b1 => ?_) (fun b1 => ?_)
      · exfalso; omega
      · refine G_S (pc := 15) f_308_15 rfl rfl rfl ?_
        refine G_S (pc := 16) f_308_16 rfl rfl rfl ?_
        refine G_CV (pc := 17) f_308_17 rfl rfl (by decide) rfl rfl (by first | assumption | exact hK.1 _ _ rfl) (by decide) ⟨Nat.le_of_ble_eq_true rfl, Nat.le_of_ble_eq_true rfl⟩ ?_
        refine CG.mono (m_handF (W.q mQ.cod) hl) ?_
        rintro _ M1 ⟨rfl, hF, l, W1⟩
        have hK := W1.1
        have hH := W1.2
        obtain ⟨⟨a0, a1, a2, a3⟩, hl8, hD, ao⟩ := W1.2
        have hn0 : _ ≤ 8 := hD.1
        have hn1 : _ ≤ 6 := hD.2.1.2
        have hn2 : _ ≤ 8 := hD.2.2.1
        have hQ := mQ.cod.tr (hF.q (by decide))
        first | refine G_bEq (pc := 20) f_308_20 rfl (fun b2 => ?_) (fun b2 => ?_) | refine G_zeqZ (pc := 20) f_308_20 rfl (by first | exact nI_toInt (by omega) | exact zI_toInt (by omega) (by omega) | rfl) (fun b2 => ?_) (fun b2 => ?_)
        · exact absurd trivial b2
        · refine G_S (pc := 23) f_308_23 rfl rfl rfl ?_
          refine G_gIv (pc := 24) f_308_24 (by decide) rfl (by decide) (by first | assumption | exact hK.1 _ _ rfl) (by first | assumption | exact mI_s | ((refine mI_o (by first | decide | omega) ?_); (repeat (refine mI_o (by first | decide | omega) ?_)); first | exact mI_s | assumption) | rfl) ?_
          first | refine G_bNe (pc := 27) f_308_27 rfl (fun b3 => ?_) (fun b3 => ?_) | refine G_zneZ (pc := 27) f_308_27 rfl (by first | exact nI_toInt (by omega) | exact zI_toInt (by omega) (by omega) | rfl) (fun b3 => ?_) (fun b3 => ?_)
          · refine G_S (pc := 33) f_308_33 rfl rfl rfl ?_
            refine G_S (pc := 34) f_308_34 rfl rfl rfl ?_
            refine G_pI (pc := 35) f_308_35 rfl (by first | assumption | exact hK.1 _ _ rfl) ?_
            refine G_S (pc := 38) f_308_38 rfl rfl rfl ?_
            refine G_CV (pc := 39) f_308_39 rfl rfl (by decide) rfl rfl (by first | assumption | exact hK.1 _ _ rfl) (by decide) ⟨Nat.le_of_ble_eq_true rfl, Nat.le_of_ble_eq_true rfl⟩ ?_
            refine CG.mono (n_begin (W1.fm (os := []) (fs := [53]) (Fm.upf (by decide)) (by decide) (by decide))) ?_
            rintro _ M2 ⟨rfl, hF2, W2⟩
            have hQ2 := (hQ.tr mQ.cod).tr (hF2.q tgq)
            have h5 : M2.2.1 98 53 = s := (hF2.2.2 53 (by decide)).trans mI_s
            refine G_ic (v := nI 0) (pc := 42) f_308_42 (by decide) ?_
            refine G_S (pc := 43) f_308_43 rfl rfl rfl ?_
            have loop : ∀ d i, i + d = c → ∀ M3 q, M3.2.1 98 53 = q.1 → mQ M M3 → TM M3 l D i q.2.1 q.2.2 → G C 308 (45, [some (.ref 98), some (.int k), some (.int s), some (.int (nI c)), some (.int x), some (.int (nI i))], [], [], M3) (fun w M' => w = some (.int (asF D (itN (dyQ D) d q).2.1 (itN (dyQ D) d q).2.2 x)) ∧ mQ M M') := by
              intro d
              induction d with
              | zero =>
                intro i hi M3 q h5 hQ W
                have e : i = c := by omega
                subst e
                have hK := W.1.1
                refine G_S (pc := 45) f_308_45 rfl rfl rfl ?_
                refine G_S (pc := 47) f_308_47 rfl rfl rfl ?_
                refine G_jgeZ (pc := 48) f_308_48 rfl (by first | exact nI_toInt (by omega) | exact zI_toInt (by omega) (by omega) | rfl) (by first | exact nI_toInt (by omega) | exact zI_toInt (by omega) (by omega) | rfl) (fun b4 => ?_) (fun b4 => ?_)
                · refine G_S (pc := 61) f_308_61 rfl rfl rfl ?_
                  refine G_S (pc := 62) f_308_62 rfl rfl rfl ?_
                  refine G_CV (pc := 64) f_308_64 rfl rfl (by decide) rfl rfl (by first | assumption | exact hK.1 _ _ rfl) (by decide) ⟨Nat.le_of_ble_eq_true rfl, Nat.le_of_ble_eq_true rfl⟩ ?_
                  refine CG.go (n_ofState W) ?_
                  refine G_ri (pc := 67) f_308_67 ?_
                  exact ⟨rfl, hQ⟩
                · exfalso; omega
              | succ d ih =>
                intro i hi M3 q h5 hQ W
                have hK := W.1.1
                rw [itN]
                refine G_S (pc := 45) f_308_45 rfl rfl rfl ?_
                refine G_S (pc := 47) f_308_47 rfl rfl rfl ?_
                refine G_jgeZ (pc := 48) f_308_48 rfl (by first | exact nI_toInt (by omega) | exact zI_toInt (by omega) (by omega) | rfl) (by first | exact nI_toInt (by omega) | exact zI_toInt (by omega) (by omega) | rfl) (fun b4 => ?_) (fun b4 => ?_)
                · exfalso; omega
                · refine G_S (pc := 51) f_308_51 rfl rfl rfl ?_
                  refine G_CV (pc := 52) f_308_52 rfl rfl (by decide) rfl rfl (by first | assumption | exact hK.1 _ _ rfl) (by decide) ⟨Nat.le_of_ble_eq_true rfl, Nat.le_of_ble_eq_true rfl⟩ ?_
                  refine CG.mono (n_drawDeed W h5 (by omega) (by omega)) ?_
                  rintro _ M4 ⟨rfl, hF4, h5', W4⟩
                  first | refine G_inc1 (pc := 55) f_308_55 rfl ?_ | refine G_S (pc := 55) f_308_55 rfl rfl rfl ?_
                  refine G_S (pc := 58) f_308_58 rfl rfl rfl ?_
                  exact ih (i + 1) (by omega) M4 (dyQ D q) h5' (hQ.tr (hF4.q tgq)) W4
            refine G.mono (loop c 0 (by omega) M2 (s, S0, fun r => D (19 + r)) h5 hQ2 W2) ?_
            rintro w M9 ⟨g1, g2⟩
            refine ⟨?_, g2⟩
            rw [g1]
            unfold drwF
            rw [if_pos ⟨by omega, hy'⟩, nI_toInt (by omega), Int.toNat_natCast]
            rfl
          · refine G_bi (v := zI (-2)) (pc := 30) f_308_30 (by decide) ?_
            refine G_ri (pc := 32) f_308_32 ?_
            refine ⟨?_, hQ⟩
            unfold drwF
            rw [if_neg (by omega)]
    · refine CG_in (mL := 6) (hl := false) (lv := [some (.ref 98), some (.int k), some (.int s), some (.int y), some (.int x), none]) (ll := []) rfl rfl rfl ?_
      refine G_S (pc := 0) f_308_0 rfl rfl rfl ?_
      refine G_ic (v := nI 0) (pc := 1) f_308_1 (by decide) ?_
      refine G_pI (pc := 2) f_308_2 rfl (by first | assumption | exact hK.1 _ _ rfl) ?_
      refine G_S (pc := 5) f_308_5 rfl rfl rfl ?_
      refine G_ic (v := nI 0) (pc := 6) f_308_6 (by decide) ?_
      refine G_bi (v := nI 60) (pc := 7) f_308_7 (by decide) ?_
      refine G_CS (pc := 9) f_308_9 rfl rfl (by decide) rfl rfl ⟨Nat.le_of_ble_eq_true rfl, Nat.le_of_ble_eq_true rfl⟩ ?_
      refine CG.go (m_inZ (by first | exact nI_toInt (by omega) | exact zI_toInt (by omega) (by omega) | rfl) (by first | exact nI_toInt (by omega) | exact zI_toInt (by omega) (by omega) | rfl) (by first | exact nI_toInt (by omega) | exact zI_toInt (by omega) (by omega) | rfl)) ?_
      first | refine G_bEq (pc := 12) f_308_12 rfl (fun b1 => ?_) (fun b1 => ?_) | refine G_zeqZ (pc := 12) f_308_12 rfl (by first | exact nI_toInt (by omega) | exact zI_toInt (by omega) (by omega) | rfl) (fun b1 => ?_) (fun b1 => ?_)
      · refine G_bi (v := zI (-2)) (pc := 30) f_308_30 (by decide) ?_
        refine G_ri (pc := 32) f_308_32 ?_
        refine ⟨?_, mQ.cod⟩
        unfold drwF
        rw [if_neg (by omega)]
      · exfalso; omega
end MRT
