/-! comes, the reference's side -/
/-- a set that is there, by its number -/
theorem set_of {x : Int32} {n : Nat} (hn : n ≤ 8) (h : 0 ≤ x ∧ x ≤ nI (2 ^ n - 1)) : ∃ S, S < 2 ^ n ∧ x = nI S := by
  have hp := pw_le n (by omega)
  have hp1 : 0 < 2 ^ n := Nat.two_pow_pos n
  obtain ⟨S, h1, rfl⟩ := g_of h.1
  refine ⟨S, ?_, rfl⟩
  have := (nI_leI h1 (by omega)).mp h.2
  omega
theorem num_of {x : Int32} {n : Nat} (hn : n < 2 ^ 31) (h : 0 ≤ x ∧ x ≤ nI n) : ∃ k, k ≤ n ∧ x = nI k := by
  obtain ⟨k, h1, rfl⟩ := g_of h.1
  exact ⟨k, (nI_leI h1 hn).mp h.2, rfl⟩
theorem Fo.cod {M : Mm} {x : Int32} : Fo [98, 110] M (M.1, up2 M.2.1 98 0 x, M.2.2.1, M.2.2.2) := Fo.up (by decide)
section OC
variable {C : Ct} {M : Mm}
/-- no such line -/
theorem m_comes0 {k x f : Int32} (hK : KM M.1 M.2.2.2) (hk : ¬ (0 ≤ k ∧ k ≤ M.2.1 103 0 - 1)) : CG C 257 [.ref 98, .int k, .int x, .int f] M (fun w M' => w = some (.int (-1)) ∧ Fo [98, 110] M M') := by
  refine CG_in (mL := 4) (hl := false) (lv := [some (.ref 98), some (.int k), some (.int x), some (.int f)]) (ll := []) rfl rfl rfl ?_
  refine G_S (pc := 0) f_257_0 rfl rfl rfl ?_
  refine G_ic (v := 0) (pc := 1) f_257_1 rfl ?_
  refine G_pI (pc := 2) f_257_2 rfl (by first | assumption | exact hK.1 _ _ rfl) ?_
  refine G_S (pc := 5) f_257_5 rfl rfl rfl ?_
  refine G_S (pc := 6) f_257_6 rfl rfl rfl ?_
  refine G_CV (pc := 7) f_257_7 rfl rfl (by decide) rfl rfl (by first | assumption | exact hK.1 _ _ rfl) (by decide) ⟨Nat.le_of_ble_eq_true rfl, Nat.le_of_ble_eq_true rfl⟩ ?_
  refine CG.go (m_hand0 hK (by dsimp only; rw [up2_ne (by decide)]; exact hk)) ?_
  first | refine G_bEq (pc := 10) f_257_10 rfl (fun h10 => ?_) (fun h10 => ?_) | refine G_zeq (pc := 10) f_257_10 rfl (fun h10 => ?_) (fun h10 => ?_)
  · refine G_ic (v := (-1)) (pc := 33) f_257_33 rfl ?_
    exact G_ri (pc := 34) f_257_34 ⟨rfl, Fo.cod⟩
  · exact absurd rfl h10
/-- there is such a line -/
theorem m_comes1 {x f : Int32} {l n : Nat} {D : Nat → Nat} (hK : KM M.1 M.2.2.2) (hn : M.2.1 103 0 = nI n) (hn2 : n ≤ 2) (hl : l < n) (hD : RowD M l D) : CG C 257 [.ref 98, .int (nI l), .int x, .int f] M (fun w M' => (∃ v : Int32, w = some (.int v) ∧ (∀ S k, S < 2 ^ D 2 → k ≤ D 0 → x = nI S → f = nI k → v = nI (cmF D S (D 0 - k) k (fun r => D (19 + r))).1) ∧ (¬ ((0 ≤ x ∧ x ≤ nI (2 ^ D 2 - 1)) ∧ (0 ≤ f ∧ f ≤ nI (D 0))) → v = -1)) ∧ Fo [98, 110] M M') := by
  refine CG_in (mL := 4) (hl := false) (lv := [some (.ref 98), some (.int (nI l)), some (.int x), some (.int f)]) (ll := []) rfl rfl rfl ?_
  have hnr : D 2 ≤ 8 := hD.2.1.2.2.1
  have hnh : D 0 ≤ 8 := hD.2.1.1
  have hp2 := pw_le (D 2) (by omega)
  have hp1 : 0 < 2 ^ D 2 := Nat.two_pow_pos _
  have hF0 : Fo [98, 110] M (M.1, up2 M.2.1 98 0 0, M.2.2.1, M.2.2.2) := Fo.cod
  have bad : ¬ ((0 ≤ x ∧ x ≤ nI (2 ^ D 2 - 1)) ∧ (0 ≤ f ∧ f ≤ nI (D 0))) → ∃ v : Int32, some (Value.int (-1)) = some (Value.int v) ∧ (∀ S k, S < 2 ^ D 2 → k ≤ D 0 → x = nI S → f = nI k → v = nI (cmF D S (D 0 - k) k (fun r => D (19 + r))).1) ∧ (¬ ((0 ≤ x ∧ x ≤ nI (2 ^ D 2 - 1)) ∧ (0 ≤ f ∧ f ≤ nI (D 0))) → v = -1) := by
    intro hb
    refine ⟨-1, rfl, fun S k hS hk e1 e2 => absurd ?_ hb, fun _ => rfl⟩
    subst e1 e2
    exact ⟨⟨nI_pos' (by omega), nI_le (by omega) (by omega)⟩, nI_pos' (by omega), nI_le hk (by omega)⟩
  refine G_S (pc := 0) f_257_0 rfl rfl rfl ?_
  refine G_ic (v := 0) (pc := 1) f_257_1 rfl ?_
  refine G_pI (pc := 2) f_257_2 rfl (by first | assumption | exact hK.1 _ _ rfl) ?_
  refine G_S (pc := 5) f_257_5 rfl rfl rfl ?_
  refine G_S (pc := 6) f_257_6 rfl rfl rfl ?_
  refine G_CV (pc := 7) f_257_7 rfl rfl (by decide) rfl rfl (by first | assumption | exact hK.1 _ _ rfl) (by decide) ⟨Nat.le_of_ble_eq_true rfl, Nat.le_of_ble_eq_true rfl⟩ ?_
  refine CG.mono (m_handD (n := n) (D := D) hK (by dsimp only; rw [up2_ne (by decide)]; exact hn) hn2 hl (hD.fo hF0 (by decide))) ?_
  rintro _ M7 ⟨rfl, hF, hH⟩
  have hFa : Fo [98, 110] M M7 := hF0.tr (hF.sub (by decide))
  have hK := hFa.K hK
  first | refine G_bEq (pc := 10) f_257_10 rfl (fun h10 => ?_) (fun h10 => ?_) | refine G_zeq (pc := 10) f_257_10 rfl (fun h10 => ?_) (fun h10 => ?_)
  · have hb : ¬ ((0 ≤ x ∧ x ≤ nI (2 ^ D 2 - 1)) ∧ (0 ≤ f ∧ f ≤ nI (D 0))) := by
      first | exact absurd h10 (by decide) | exact fun q => h30 q.2 | exact fun q => h18 q.1
    refine G_ic (v := -1) (pc := 33) f_257_33 rfl ?_
    exact G_ri (pc := 34) f_257_34 ⟨bad hb, hFa⟩
  · refine G_S (pc := 13) f_257_13 rfl rfl rfl ?_
    refine G_S (pc := 14) f_257_14 rfl rfl rfl ?_
    refine G_CV (pc := 15) f_257_15 rfl rfl (by decide) rfl rfl (by first | assumption | exact hK.1 _ _ rfl) (by decide) ⟨Nat.le_of_ble_eq_true rfl, Nat.le_of_ble_eq_true rfl⟩ ?_
    refine CG.go (m_isSet hK hH) ?_
    first | refine G_bEq (pc := 18) f_257_18 rfl (fun h18 => ?_) (fun h18 => ?_) | refine G_zeq (pc := 18) f_257_18 rfl (fun h18 => ?_) (fun h18 => ?_)
    · have hb : ¬ ((0 ≤ x ∧ x ≤ nI (2 ^ D 2 - 1)) ∧ (0 ≤ f ∧ f ≤ nI (D 0))) := by
        first | exact absurd h10 (by decide) | exact fun q => h30 q.2 | exact fun q => h18 q.1
      refine G_ic (v := -1) (pc := 33) f_257_33 rfl ?_
      exact G_ri (pc := 34) f_257_34 ⟨bad hb, hFa⟩
    · refine G_S (pc := 21) f_257_21 rfl rfl rfl ?_
      refine G_ic (v := 0) (pc := 22) f_257_22 rfl ?_
      refine G_S (pc := 23) f_257_23 rfl rfl rfl ?_
      refine G_gI (pc := 24) f_257_24 (by decide) rfl (by decide) (by first | assumption | exact hK.1 _ _ rfl) ?_
      rw [hH.1.2.1]
      refine G_CS (pc := 27) f_257_27 rfl rfl (by decide) rfl rfl ⟨Nat.le_of_ble_eq_true rfl, Nat.le_of_ble_eq_true rfl⟩ ?_
      refine CG.go (m_in) ?_
      first | refine G_bNe (pc := 30) f_257_30 rfl (fun h30 => ?_) (fun h30 => ?_) | refine G_zne (pc := 30) f_257_30 rfl (fun h30 => ?_) (fun h30 => ?_)
      · obtain ⟨S, hS, rfl⟩ := set_of hnr h18
        obtain ⟨k, hk, rfl⟩ := num_of (by omega) h30
        have hS8 : S < 256 := by omega
        refine G_S (pc := 35) f_257_35 rfl rfl rfl ?_
        refine G_ic (v := 0) (pc := 36) f_257_36 rfl ?_
        refine G_CV (pc := 37) f_257_37 rfl rfl (by decide) rfl rfl (hK.1 98 (12, 58) rfl) (by decide) ⟨Nat.le_of_ble_eq_true rfl, Nat.le_of_ble_eq_true rfl⟩ ?_
        refine CG.mono (m_laySet (x := 0) hK hH (by decide) (by decide)) ?_
        rintro _ M8 ⟨rfl, hF3, hb⟩
        have hK := hF3.K hK
        have hH := hH.fo hF3 (by decide) (by decide)
        refine G_S (pc := 40) f_257_40 rfl rfl rfl ?_
        refine G_S (pc := 41) f_257_41 rfl rfl rfl ?_
        refine G_S (pc := 42) f_257_42 rfl rfl rfl ?_
        refine G_CV (pc := 43) f_257_43 rfl rfl (by decide) rfl rfl (hK.1 98 (12, 58) rfl) (by decide) ⟨Nat.le_of_ble_eq_true rfl, Nat.le_of_ble_eq_true rfl⟩ ?_
        refine CG.mono (m_comes (b := fun r => D (19 + r)) hK hH hS8 (fun r hr => ⟨?_, by have := hD.2.1.2.2.2.2.2.1 r (by omega); omega⟩) hk) ?_
        · rw [hb r hr]
          exact congrArg nI (layN_0 hD.2.1 (by omega))
        · rintro _ M9 ⟨rfl, hF4, hb4⟩
          refine G_ri (pc := 46) f_257_46 ⟨⟨_, rfl, fun S' k' hS' hk' e1 e2 => ?_, fun q => absurd ⟨h18, h30⟩ q⟩, hFa.tr ((hF3.tr hF4).sub (by decide))⟩
          have a1 := g_inj (by omega) (by omega) e1
          have a2 := g_inj (by omega) (by omega) e2
          subst a1 a2
          rfl
      · have hb : ¬ ((0 ≤ x ∧ x ≤ nI (2 ^ D 2 - 1)) ∧ (0 ≤ f ∧ f ≤ nI (D 0))) := by
          first | exact absurd h10 (by decide) | exact fun q => h30 q.2 | exact fun q => h18 q.1
        refine G_ic (v := -1) (pc := 33) f_257_33 rfl ?_
        exact G_ri (pc := 34) f_257_34 ⟨bad hb, hFa⟩
end OC
