/-! the reference: images, feed, end, fault, count -/
theorem MQk.cg {M M' N N' : Mm} {k k' : Nat} (q : MQk N N' k k') (e : ∀ i, 99 ≤ i → i ≤ 107 → M.2.1 i = N.2.1 i) (e' : ∀ i, 99 ≤ i → i ≤ 107 → M'.2.1 i = N'.2.1 i) : MQk M M' k k' := by
  unfold MQk at q ⊢
  rw [e 99 (by decide) (by decide), e' 99 (by decide) (by decide), e 100 (by decide) (by decide), e' 100 (by decide) (by decide), e 101 (by decide) (by decide), e' 101 (by decide) (by decide), e 102 (by decide) (by decide), e' 102 (by decide) (by decide), e 103 (by decide) (by decide), e' 103 (by decide) (by decide), e 104 (by decide) (by decide), e' 104 (by decide) (by decide), e 105 (by decide) (by decide), e' 105 (by decide) (by decide), e 106 (by decide) (by decide), e' 106 (by decide) (by decide), e 107 (by decide) (by decide), e' 107 (by decide) (by decide)]
  exact q
section MIM
variable {C : Ct} {M : Mm} {j : Nat} {k : Int32}
theorem m_imageN (hK : KM M.1 M.2.2.2) (hk : ¬ (0 ≤ k.toInt ∧ k.toInt ≤ 2)) : CG C 320 [.ref 98, .int k] M (fun w M' => w = some (.int 0) ∧ mQ M M') := by
  refine CG_in (mL := 2) (hl := false) (lv := [some (.ref 98), some (.int k)]) (ll := []) rfl rfl rfl ?_
  refine G_S (pc := 0) f_320_0 rfl rfl rfl ?_
  refine G_ic (v := nI 0) (pc := 1) f_320_1 (by decide) ?_
  refine G_pI (pc := 2) f_320_2 rfl (by first | assumption | exact hK.1 _ _ rfl) ?_
  refine G_S (pc := 5) f_320_5 rfl rfl rfl ?_
  refine G_ic (v := nI 0) (pc := 6) f_320_6 (by decide) ?_
  refine G_ic (v := nI 2) (pc := 7) f_320_7 (by decide) ?_
  refine G_CS (pc := 8) f_320_8 rfl rfl (by decide) rfl rfl ⟨Nat.le_of_ble_eq_true rfl, Nat.le_of_ble_eq_true rfl⟩ ?_
  refine CG.go (m_inZ (by first | exact nI_toInt (by omega) | exact zI_toInt (by omega) (by omega) | rfl) (by first | exact nI_toInt (by omega) | exact zI_toInt (by omega) (by omega) | rfl) (by first | exact nI_toInt (by omega) | exact zI_toInt (by omega) (by omega) | rfl)) ?_
  first | refine G_bNe (pc := 11) f_320_11 rfl (fun b1 => ?_) (fun b1 => ?_) | refine G_zneZ (pc := 11) f_320_11 rfl (by first | exact nI_toInt (by omega) | exact zI_toInt (by omega) (by omega) | rfl) (fun b1 => ?_) (fun b1 => ?_)
  · exfalso; omega
  · refine G_ic (v := nI 0) (pc := 14) f_320_14 (by decide) ?_
    refine G_rz (pc := 15) f_320_15 (by first | exact Or.inl rfl | exact Or.inr rfl | exact b2i_01 _ | assumption) ?_
    exact ⟨rfl, mQ.cod⟩
def MIo : List Nat := [98, 99, 100, 101, 102, 103, 104, 105, 106, 107, 130]
theorem m_imageY (hK : KM M.1 M.2.2.2) (hj : j < 3) : CG C 320 [.ref 98, .int (nI j)] M (fun w M' => w = some (.int 1) ∧ Fo MIo M M' ∧ MQk M M' (j + 1) 0 ∧ (∀ k, k < 4 → k ≠ j + 1 → MQk M M' k k) ∧ M'.2.1 130 j = nI 1 ∧ ∀ i, i ≠ j → M'.2.1 130 i = M.2.1 130 i) := by
  refine CG_in (mL := 2) (hl := false) (lv := [some (.ref 98), some (.int (nI j))]) (ll := []) rfl rfl rfl ?_
  refine G_S (pc := 0) f_320_0 rfl rfl rfl ?_
  refine G_ic (v := nI 0) (pc := 1) f_320_1 (by decide) ?_
  refine G_pI (pc := 2) f_320_2 rfl (by first | assumption | exact hK.1 _ _ rfl) ?_
  refine G_S (pc := 5) f_320_5 rfl rfl rfl ?_
  refine G_ic (v := nI 0) (pc := 6) f_320_6 (by decide) ?_
  refine G_ic (v := nI 2) (pc := 7) f_320_7 (by decide) ?_
  refine G_CS (pc := 8) f_320_8 rfl rfl (by decide) rfl rfl ⟨Nat.le_of_ble_eq_true rfl, Nat.le_of_ble_eq_true rfl⟩ ?_
  refine CG.go (m_inZ (by first | exact nI_toInt (by omega) | exact zI_toInt (by omega) (by omega) | rfl) (by first | exact nI_toInt (by omega) | exact zI_toInt (by omega) (by omega) | rfl) (by first | exact nI_toInt (by omega) | exact zI_toInt (by omega) (by omega) | rfl)) ?_
  first | refine G_bNe (pc := 11) f_320_11 rfl (fun b1 => ?_) (fun b1 => ?_) | refine G_zneZ (pc := 11) f_320_11 rfl (by first | exact nI_toInt (by omega) | exact zI_toInt (by omega) (by omega) | rfl) (fun b1 => ?_) (fun b1 => ?_)
  · refine G_S (pc := 16) f_320_16 rfl rfl rfl ?_
    refine G_ic (v := nI 0) (pc := 17) f_320_17 (by decide) ?_
    refine G_S (pc := 18) f_320_18 rfl rfl rfl ?_
    refine G_ic (v := nI 1) (pc := 19) f_320_19 (by decide) ?_
    first | refine G_addN (pc := 20) f_320_20 ?_ | refine G_addZ (pc := 20) f_320_20 (by first | rfl | exact nI_zI _) (by first | rfl | exact nI_zI _) ?_ | refine G_S (pc := 20) f_320_20 rfl rfl rfl ?_
    refine G_CV (pc := 21) f_320_21 rfl rfl (by decide) rfl rfl (by first | assumption | exact hK.1 _ _ rfl) (by decide) ⟨Nat.le_of_ble_eq_true rfl, Nat.le_of_ble_eq_true rfl⟩ ?_
    refine CG.mono (m_copyAll (a := 0) (c := j + 1) hK (by decide) (by omega) (by omega)) ?_
    rintro _ M1 ⟨rfl, hF, q1, q2⟩
    have hK := hF.K hK
    refine G_S (pc := 24) f_320_24 rfl rfl rfl ?_
    refine G_gR (pc := 25) f_320_25 (by decide) rfl (by first | assumption | exact hK.1 _ _ rfl) (by first | assumption | exact hK.2 _ _ _ rfl | (try dsimp only) <;> (repeat (first | exact up2_s | refine up2_o (by first | decide | omega) ?_)) <;> first | assumption | exact hK.2 _ _ _ rfl) ?_
    refine G_S (pc := 28) f_320_28 rfl rfl rfl ?_
    refine G_ic (v := nI 1) (pc := 29) f_320_29 (by decide) ?_
    refine G_zsN (pc := 30) f_320_30 (by first | assumption | exact hK.1 _ _ rfl) (by omega) (by omega) (Or.inr rfl) ?_
    refine G_ic (v := nI 1) (pc := 31) f_320_31 (by decide) ?_
    refine G_rz (pc := 32) f_320_32 (by first | exact Or.inl rfl | exact Or.inr rfl | exact b2i_01 _ | assumption) ?_
    refine ⟨rfl, ⟨hF.1, fun i hi => ?_⟩, q1.cg (fun i h1 h2 => (up2_ne (by omega)).symm) (fun i h1 h2 => up2_ne (by omega)), fun k h1 h2 => (q2 k h1 h2).cg (fun i h1 h2 => (up2_ne (by omega)).symm) (fun i h1 h2 => up2_ne (by omega)), (by dsimp only; exact up2_s), fun i hi => ?_⟩
    · simp only [MIo, List.mem_cons, List.not_mem_nil, or_false, not_or] at hi
      have e := hF.2 i (by simp; omega)
      exact ⟨(up2_ne (by omega)).trans (e.1.trans (up2_ne (by omega))), e.2⟩
    · dsimp only
      refine up2_o (fun z => hi z.2) ?_
      rw [(hF.2 130 (by decide)).1]
      dsimp only
      rw [up2_ne (by decide)]
  · exfalso; omega
theorem m_againN (hK : KM M.1 M.2.2.2) (hk : ¬ (0 ≤ k.toInt ∧ k.toInt ≤ 2)) : CG C 321 [.ref 98, .int k] M (fun w M' => w = some (.int 0) ∧ mQ M M') := by
  refine CG_in (mL := 2) (hl := false) (lv := [some (.ref 98), some (.int k)]) (ll := []) rfl rfl rfl ?_
  refine G_S (pc := 0) f_321_0 rfl rfl rfl ?_
  refine G_ic (v := nI 0) (pc := 1) f_321_1 (by decide) ?_
  refine G_pI (pc := 2) f_321_2 rfl (by first | assumption | exact hK.1 _ _ rfl) ?_
  refine G_S (pc := 5) f_321_5 rfl rfl rfl ?_
  refine G_ic (v := nI 0) (pc := 6) f_321_6 (by decide) ?_
  refine G_ic (v := nI 2) (pc := 7) f_321_7 (by decide) ?_
  refine G_CS (pc := 8) f_321_8 rfl rfl (by decide) rfl rfl ⟨Nat.le_of_ble_eq_true rfl, Nat.le_of_ble_eq_true rfl⟩ ?_
  refine CG.go (m_inZ (by first | exact nI_toInt (by omega) | exact zI_toInt (by omega) (by omega) | rfl) (by first | exact nI_toInt (by omega) | exact zI_toInt (by omega) (by omega) | rfl) (by first | exact nI_toInt (by omega) | exact zI_toInt (by omega) (by omega) | rfl)) ?_
  first | refine G_bEq (pc := 11) f_321_11 rfl (fun b1 => ?_) (fun b1 => ?_) | refine G_zeqZ (pc := 11) f_321_11 rfl (by first | exact nI_toInt (by omega) | exact zI_toInt (by omega) (by omega) | rfl) (fun b1 => ?_) (fun b1 => ?_)
  · refine G_ic (v := nI 0) (pc := 23) f_321_23 (by decide) ?_
    refine G_rz (pc := 24) f_321_24 (by first | exact Or.inl rfl | exact Or.inr rfl | exact b2i_01 _ | assumption) ?_
    exact ⟨rfl, mQ.cod⟩
  · exfalso; omega
theorem m_again0 (hK : KM M.1 M.2.2.2) (hj : j < 3) (h0 : M.2.1 130 j = nI 0) : CG C 321 [.ref 98, .int (nI j)] M (fun w M' => w = some (.int 0) ∧ mQ M M') := by
  refine CG_in (mL := 2) (hl := false) (lv := [some (.ref 98), some (.int (nI j))]) (ll := []) rfl rfl rfl ?_
  refine G_S (pc := 0) f_321_0 rfl rfl rfl ?_
  refine G_ic (v := nI 0) (pc := 1) f_321_1 (by decide) ?_
  refine G_pI (pc := 2) f_321_2 rfl (by first | assumption | exact hK.1 _ _ rfl) ?_
  refine G_S (pc := 5) f_321_5 rfl rfl rfl ?_
  refine G_ic (v := nI 0) (pc := 6) f_321_6 (by decide) ?_
  refine G_ic (v := nI 2) (pc := 7) f_321_7 (by decide) ?_
  refine G_CS (pc := 8) f_321_8 rfl rfl (by decide) rfl rfl ⟨Nat.le_of_ble_eq_true rfl, Nat.le_of_ble_eq_true rfl⟩ ?_
  refine CG.go (m_inZ (by first | exact nI_toInt (by omega) | exact zI_toInt (by omega) (by omega) | rfl) (by first | exact nI_toInt (by omega) | exact zI_toInt (by omega) (by omega) | rfl) (by first | exact nI_toInt (by omega) | exact zI_toInt (by omega) (by omega) | rfl)) ?_
  first | refine G_bEq (pc := 11) f_321_11 rfl (fun b1 => ?_) (fun b1 => ?_) | refine G_zeqZ (pc := 11) f_321_11 rfl (by first | exact nI_toInt (by omega) | exact zI_toInt (by omega) (by omega) | rfl) (fun b1 => ?_) (fun b1 => ?_)
  · exfalso; omega
  · refine G_S (pc := 14) f_321_14 rfl rfl rfl ?_
    refine G_gR (pc := 15) f_321_15 (by decide) rfl (by first | assumption | exact hK.1 _ _ rfl) (by first | assumption | exact hK.2 _ _ _ rfl | (try dsimp only) <;> (repeat (first | exact up2_s | refine up2_o (by first | decide | omega) ?_)) <;> first | assumption | exact hK.2 _ _ _ rfl) ?_
    refine G_S (pc := 18) f_321_18 rfl rfl rfl ?_
    refine G_baN (pc := 19) f_321_19 (by first | assumption | exact hK.1 _ _ rfl) (by decide) (by omega) (by omega) (by first | exact h0 | rfl) ?_
    first | refine G_bNe (pc := 20) f_321_20 rfl (fun b2 => ?_) (fun b2 => ?_) | refine G_zneZ (pc := 20) f_321_20 rfl (by first | exact nI_toInt (by omega) | exact zI_toInt (by omega) (by omega) | rfl) (fun b2 => ?_) (fun b2 => ?_)
    · exfalso; omega
    · refine G_ic (v := nI 0) (pc := 23) f_321_23 (by decide) ?_
      refine G_rz (pc := 24) f_321_24 (by first | exact Or.inl rfl | exact Or.inr rfl | exact b2i_01 _ | assumption) ?_
      exact ⟨rfl, mQ.cod⟩
theorem m_again1 (hK : KM M.1 M.2.2.2) (hj : j < 3) (h0 : M.2.1 130 j = nI 1) : CG C 321 [.ref 98, .int (nI j)] M (fun w M' => w = some (.int 1) ∧ Fo MIo M M' ∧ MQk M M' 0 (j + 1) ∧ (∀ k, k < 4 → k ≠ 0 → MQk M M' k k) ∧ ∀ i, M'.2.1 130 i = M.2.1 130 i) := by
  refine CG_in (mL := 2) (hl := false) (lv := [some (.ref 98), some (.int (nI j))]) (ll := []) rfl rfl rfl ?_
  refine G_S (pc := 0) f_321_0 rfl rfl rfl ?_
  refine G_ic (v := nI 0) (pc := 1) f_321_1 (by decide) ?_
  refine G_pI (pc := 2) f_321_2 rfl (by first | assumption | exact hK.1 _ _ rfl) ?_
  refine G_S (pc := 5) f_321_5 rfl rfl rfl ?_
  refine G_ic (v := nI 0) (pc := 6) f_321_6 (by decide) ?_
  refine G_ic (v := nI 2) (pc := 7) f_321_7 (by decide) ?_
  refine G_CS (pc := 8) f_321_8 rfl rfl (by decide) rfl rfl ⟨Nat.le_of_ble_eq_true rfl, Nat.le_of_ble_eq_true rfl⟩ ?_
  refine CG.go (m_inZ (by first | exact nI_toInt (by omega) | exact zI_toInt (by omega) (by omega) | rfl) (by first | exact nI_toInt (by omega) | exact zI_toInt (by omega) (by omega) | rfl) (by first | exact nI_toInt (by omega) | exact zI_toInt (by omega) (by omega) | rfl)) ?_
  first | refine G_bEq (pc := 11) f_321_11 rfl (fun b1 => ?_) (fun b1 => ?_) | refine G_zeqZ (pc := 11) f_321_11 rfl (by first | exact nI_toInt (by omega) | exact zI_toInt (by omega) (by omega) | rfl) (fun b1 => ?_) (fun b1 => ?_)
  · exfalso; omega
  · refine G_S (pc := 14) f_321_14 rfl rfl rfl ?_
    refine G_gR (pc := 15) f_321_15 (by decide) rfl (by first | assumption | exact hK.1 _ _ rfl) (by first | assumption | exact hK.2 _ _ _ rfl | (try dsimp only) <;> (repeat (first | exact up2_s | refine up2_o (by first | decide | omega) ?_)) <;> first | assumption | exact hK.2 _ _ _ rfl) ?_
    refine G_S (pc := 18) f_321_18 rfl rfl rfl ?_
    refine G_baN (pc := 19) f_321_19 (by first | assumption | exact hK.1 _ _ rfl) (by decide) (by omega) (by omega) (by first | exact h0 | rfl) ?_
    first | refine G_bNe (pc := 20) f_321_20 rfl (fun b2 => ?_) (fun b2 => ?_) | refine G_zneZ (pc := 20) f_321_20 rfl (by first | exact nI_toInt (by omega) | exact zI_toInt (by omega) (by omega) | rfl) (fun b2 => ?_) (fun b2 => ?_)
    · refine G_S (pc := 25) f_321_25 rfl rfl rfl ?_
      refine G_S (pc := 26) f_321_26 rfl rfl rfl ?_
      refine G_ic (v := nI 1) (pc := 27) f_321_27 (by decide) ?_
      first | refine G_addN (pc := 28) f_321_28 ?_ | refine G_addZ (pc := 28) f_321_28 (by first | rfl | exact nI_zI _) (by first | rfl | exact nI_zI _) ?_ | refine G_S (pc := 28) f_321_28 rfl rfl rfl ?_
      refine G_ic (v := nI 0) (pc := 29) f_321_29 (by decide) ?_
      refine G_CV (pc := 30) f_321_30 rfl rfl (by decide) rfl rfl (by first | assumption | exact hK.1 _ _ rfl) (by decide) ⟨Nat.le_of_ble_eq_true rfl, Nat.le_of_ble_eq_true rfl⟩ ?_
      refine CG.mono (m_copyAll (a := j + 1) (c := 0) hK (by omega) (by decide) (by omega)) ?_
      rintro _ M1 ⟨rfl, hF, q1, q2⟩
      refine G_ic (v := nI 1) (pc := 33) f_321_33 (by decide) ?_
      refine G_rz (pc := 34) f_321_34 (by first | exact Or.inl rfl | exact Or.inr rfl | exact b2i_01 _ | assumption) ?_
      refine ⟨rfl, ⟨hF.1, fun i hi => ?_⟩, q1.cg (fun i h1 h2 => (up2_ne (by omega)).symm) (fun i h1 h2 => rfl), fun k h1 h2 => (q2 k h1 h2).cg (fun i h1 h2 => (up2_ne (by omega)).symm) (fun i h1 h2 => rfl), fun i => ?_⟩
      · simp only [MIo, List.mem_cons, List.not_mem_nil, or_false, not_or] at hi
        have e := hF.2 i (by simp; omega)
        exact ⟨e.1.trans (up2_ne (by omega)), e.2⟩
      · rw [(hF.2 130 (by decide)).1]
        dsimp only
        rw [up2_ne (by decide)]
    · exfalso; omega
end MIM
