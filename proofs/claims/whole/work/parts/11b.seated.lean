/-! the reference: a line and a seated set -/
section OS
variable {C : Ct} {M : Mm}
theorem m_laySeated0 {k x : Int32} (hK : KM M.1 M.2.2.2) (hk : ¬ (0 ≤ k ∧ k ≤ M.2.1 103 0 - 1)) : CG C 266 [.ref 98, .int k, .int x] M (fun w M' => w = some (.int 0) ∧ M' = M) := by
  refine CG_in (mL := 3) (hl := false) (lv := [some (.ref 98), some (.int k), some (.int x)]) (ll := []) rfl rfl rfl ?_
  refine G_S (pc := 0) f_266_0 rfl rfl rfl ?_
  refine G_S (pc := 1) f_266_1 rfl rfl rfl ?_
  refine G_CV (pc := 2) f_266_2 rfl rfl (by decide) rfl rfl (by first | assumption | exact hK.1 _ _ rfl) (by decide) ⟨Nat.le_of_ble_eq_true rfl, Nat.le_of_ble_eq_true rfl⟩ ?_
  refine CG.go (m_hand0 hK hk) ?_
  first | refine G_bEq (pc := 5) f_266_5 rfl (fun h5 => ?_) (fun h5 => ?_) | refine G_zeq (pc := 5) f_266_5 rfl (fun h5 => ?_) (fun h5 => ?_)
  · refine G_ic (v := 0) (pc := 28) f_266_28 rfl ?_
    exact G_rz (pc := 29) f_266_29 (by first | exact Or.inl rfl | exact Or.inr rfl | exact b2i_01 _) ⟨rfl, rfl⟩
  · exact absurd rfl h5
/-- laySeated(l, set), there is such a line -/
theorem m_laySeated1 {x : Int32} {l n : Nat} {D : Nat → Nat} (hK : KM M.1 M.2.2.2) (hn : M.2.1 103 0 = nI n) (hn2 : n ≤ 2) (hl : l < n) (hD : RowD M l D) : CG C 266 [.ref 98, .int (nI l), .int x] M (fun w M' => (∃ v : Int32, w = some (.int v) ∧ (v = 0 ∨ v = 1) ∧ (v = 1 ↔ ∃ S, S < 2 ^ D 2 ∧ x = nI S ∧ pc8 S ≤ D 1)) ∧ Fo [98] M M' ∧ HA M' l D) := by
  refine CG_in (mL := 3) (hl := false) (lv := [some (.ref 98), some (.int (nI l)), some (.int x)]) (ll := []) rfl rfl rfl ?_
  have hnr : D 2 ≤ 8 := hD.2.1.2.2.1
  have hp2 := pw_le (D 2) (by omega)
  have hp1 : 0 < 2 ^ D 2 := Nat.two_pow_pos _
  refine G_S (pc := 0) f_266_0 rfl rfl rfl ?_
  refine G_S (pc := 1) f_266_1 rfl rfl rfl ?_
  refine G_CV (pc := 2) f_266_2 rfl rfl (by decide) rfl rfl (by first | assumption | exact hK.1 _ _ rfl) (by decide) ⟨Nat.le_of_ble_eq_true rfl, Nat.le_of_ble_eq_true rfl⟩ ?_
  refine CG.mono (m_handD (n := n) (D := D) hK hn hn2 hl hD) ?_
  rintro _ M2 ⟨rfl, hF, hH⟩
  have hK := hF.K hK
  first | refine G_bEq (pc := 5) f_266_5 rfl (fun h5 => ?_) (fun h5 => ?_) | refine G_zeq (pc := 5) f_266_5 rfl (fun h5 => ?_) (fun h5 => ?_)
  · first
      | exact absurd h5 (by decide)
      | (refine G_ic (v := 0) (pc := 28) f_266_28 rfl (G_rz (pc := 29) f_266_29 (Or.inl rfl) ⟨⟨0, rfl, Or.inl rfl, fun q => absurd q (by decide), fun q => ?_⟩, hF, hH⟩)
         obtain ⟨S, q1, q2, q3⟩ := q
         subst q2
         exact absurd ⟨nI_pos' (by omega), nI_le (by omega) (by omega)⟩ h13)
  · refine G_S (pc := 8) f_266_8 rfl rfl rfl ?_
    refine G_S (pc := 9) f_266_9 rfl rfl rfl ?_
    refine G_CV (pc := 10) f_266_10 rfl rfl (by decide) rfl rfl (by first | assumption | exact hK.1 _ _ rfl) (by decide) ⟨Nat.le_of_ble_eq_true rfl, Nat.le_of_ble_eq_true rfl⟩ ?_
    refine CG.go (m_isSet hK hH) ?_
    first | refine G_bEq (pc := 13) f_266_13 rfl (fun h13 => ?_) (fun h13 => ?_) | refine G_zeq (pc := 13) f_266_13 rfl (fun h13 => ?_) (fun h13 => ?_)
    · first
        | exact absurd h5 (by decide)
        | (refine G_ic (v := 0) (pc := 28) f_266_28 rfl (G_rz (pc := 29) f_266_29 (Or.inl rfl) ⟨⟨0, rfl, Or.inl rfl, fun q => absurd q (by decide), fun q => ?_⟩, hF, hH⟩)
           obtain ⟨S, q1, q2, q3⟩ := q
           subst q2
           exact absurd ⟨nI_pos' (by omega), nI_le (by omega) (by omega)⟩ h13)
    · obtain ⟨S, hS, rfl⟩ := set_of hnr h13
      refine G_S (pc := 16) f_266_16 rfl rfl rfl ?_
      refine G_S (pc := 17) f_266_17 rfl rfl rfl ?_
      refine G_CV (pc := 18) f_266_18 rfl rfl (by decide) rfl rfl (hK.1 98 (12, 58) rfl) (by decide) ⟨Nat.le_of_ble_eq_true rfl, Nat.le_of_ble_eq_true rfl⟩ ?_
      refine CG.go (m_isSeated hK hH (by omega)) ?_
      refine G_bEq (pc := 21) f_266_21 rfl (fun h21 => ?_) (fun h21 => ?_)
      · refine G_ic (v := 0) (pc := 28) f_266_28 rfl (G_rz (pc := 29) f_266_29 (Or.inl rfl) ⟨⟨0, rfl, Or.inl rfl, fun q => absurd q (by decide), fun q => ?_⟩, hF, hH⟩)
        obtain ⟨S', q1, q2, q3⟩ := q
        have a1 := g_inj (by omega) (by omega) q2
        subst a1
        exact absurd q3 h21
      · refine G_ic (v := 1) (pc := 24) f_266_24 rfl ?_
        refine G_S (pc := 25) f_266_25 rfl rfl rfl ?_
        exact G_rz (pc := 29) f_266_29 (Or.inr rfl) ⟨⟨1, rfl, Or.inr rfl, fun _ => ⟨S, hS, rfl, h21⟩, fun _ => rfl⟩, hF, hH⟩
end OS
