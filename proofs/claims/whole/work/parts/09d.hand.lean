/-! the reference: a line at hand, pulls and wear -/
def pullF (kd o : Int32) : Int32 := if kd = 0 then o else if kd = 1 then 2 * o else if kd = 2 then o / 2 else 0
section RH
variable {C : Ct} {M : Mm}
/-- hand(k) where there is no such line -/
theorem m_hand0 {k : Int32} (hK : KM M.1 M.2.2.2) (hk : ¬ (0 ≤ k ∧ k ≤ M.2.1 103 0 - 1)) : CG C 226 [.ref 98, .int k] M (fun w M' => w = some (.int 0) ∧ M' = M) := by
  refine CG_in (mL := 2) (hl := false) (lv := [some (.ref 98), some (.int k)]) (ll := []) rfl rfl rfl ?_
  refine G_S (pc := 0) f_226_0 rfl rfl rfl ?_
  refine G_ic (v := 0) (pc := 1) f_226_1 rfl ?_
  refine G_S (pc := 2) f_226_2 rfl rfl rfl ?_
  refine G_CV (pc := 3) f_226_3 rfl rfl (by decide) rfl rfl (by first | assumption | exact hK.1 _ _ rfl) (by decide) ⟨Nat.le_of_ble_eq_true rfl, Nat.le_of_ble_eq_true rfl⟩ ?_
  refine CG.go (m_is (so := 0) hK (by decide)) ?_
  first | refine G_bNe (pc := 6) f_226_6 rfl (fun h6 => ?_) (fun h6 => ?_) | refine G_zne (pc := 6) f_226_6 rfl (fun h6 => ?_) (fun h6 => ?_)
  · exact absurd h6 hk
  · refine G_ic (v := 0) (pc := 9) f_226_9 rfl ?_
    exact G_rz (pc := 10) f_226_10 (by first | exact Or.inl rfl | exact Or.inr rfl | exact b2i_01 _) ⟨rfl, rfl⟩
/-- hand(k) where there is one -/
theorem m_hand1 {l : Nat} (hK : KM M.1 M.2.2.2) (hk : 0 ≤ nI l ∧ nI l ≤ M.2.1 103 0 - 1) (hl : l < 8) : CG C 226 [.ref 98, .int (nI l)] M (fun w M' => w = some (.int 1) ∧ M' = (M.1, up2 (up2 (up2 (up2 M.2.1 98 23 (nI l)) 98 24 (M.2.1 104 (39 * l))) 98 25 (M.2.1 104 (39 * l + 1))) 98 26 (M.2.1 104 (39 * l + 2)), M.2.2.1, M.2.2.2)) := by
  refine CG_in (mL := 2) (hl := false) (lv := [some (.ref 98), some (.int (nI l))]) (ll := []) rfl rfl rfl ?_
  refine G_S (pc := 0) f_226_0 rfl rfl rfl ?_
  refine G_ic (v := 0) (pc := 1) f_226_1 rfl ?_
  refine G_S (pc := 2) f_226_2 rfl rfl rfl ?_
  refine G_CV (pc := 3) f_226_3 rfl rfl (by decide) rfl rfl (by first | assumption | exact hK.1 _ _ rfl) (by decide) ⟨Nat.le_of_ble_eq_true rfl, Nat.le_of_ble_eq_true rfl⟩ ?_
  refine CG.go (m_is (so := 0) hK (by decide)) ?_
  first | refine G_bNe (pc := 6) f_226_6 rfl (fun h6 => ?_) (fun h6 => ?_) | refine G_zne (pc := 6) f_226_6 rfl (fun h6 => ?_) (fun h6 => ?_)
  · refine G_S (pc := 11) f_226_11 rfl rfl rfl ?_
    refine G_S (pc := 12) f_226_12 rfl rfl rfl ?_
    refine G_pI (pc := 13) f_226_13 rfl (by first | assumption | exact hK.1 _ _ rfl) ?_
    refine G_S (pc := 16) f_226_16 rfl rfl rfl ?_
    refine G_S (pc := 17) f_226_17 rfl rfl rfl ?_
    refine G_ic (v := 0) (pc := 18) f_226_18 rfl ?_
    refine G_CV (pc := 19) f_226_19 rfl rfl (by decide) rfl rfl (by first | assumption | exact hK.1 _ _ rfl) (by decide) ⟨Nat.le_of_ble_eq_true rfl, Nat.le_of_ble_eq_true rfl⟩ ?_
    refine CG.go (m_of (l := l) (a := 0) hK (by simp [up2]) (by omega)) ?_
    refine G_pI (pc := 22) f_226_22 rfl (by first | assumption | exact hK.1 _ _ rfl) ?_
    refine G_S (pc := 25) f_226_25 rfl rfl rfl ?_
    refine G_S (pc := 26) f_226_26 rfl rfl rfl ?_
    refine G_ic (v := 1) (pc := 27) f_226_27 rfl ?_
    refine G_CV (pc := 28) f_226_28 rfl rfl (by decide) rfl rfl (by first | assumption | exact hK.1 _ _ rfl) (by decide) ⟨Nat.le_of_ble_eq_true rfl, Nat.le_of_ble_eq_true rfl⟩ ?_
    refine CG.go (m_of (l := l) (a := 1) hK (by simp [up2]) (by omega)) ?_
    refine G_pI (pc := 31) f_226_31 rfl (by first | assumption | exact hK.1 _ _ rfl) ?_
    refine G_S (pc := 34) f_226_34 rfl rfl rfl ?_
    refine G_S (pc := 35) f_226_35 rfl rfl rfl ?_
    refine G_ic (v := 2) (pc := 36) f_226_36 rfl ?_
    refine G_CV (pc := 37) f_226_37 rfl rfl (by decide) rfl rfl (by first | assumption | exact hK.1 _ _ rfl) (by decide) ⟨Nat.le_of_ble_eq_true rfl, Nat.le_of_ble_eq_true rfl⟩ ?_
    refine CG.go (m_of (l := l) (a := 2) hK (by simp [up2]) (by omega)) ?_
    refine G_pI (pc := 40) f_226_40 rfl (by first | assumption | exact hK.1 _ _ rfl) ?_
    refine G_ic (v := 1) (pc := 43) f_226_43 rfl ?_
    exact G_rz (pc := 44) f_226_44 (by first | exact Or.inl rfl | exact Or.inr rfl | exact b2i_01 _) ⟨rfl, by simp [up2]⟩
  · exact absurd hk h6
/-- pull(r, ounces) -/
theorem m_pull {l i : Nat} {x : Int32} (hK : KM M.1 M.2.2.2) (hl : M.2.1 98 23 = nI l) (hb : l < 8) (hi : i < 8) : CG C 227 [.ref 98, .int (nI i), .int x] M (fun w M' => w = some (.int (pullF (M.2.1 104 (39 * l + (11 + i))) x)) ∧ M' = M) := by
  refine CG_in (mL := 4) (hl := false) (lv := [some (.ref 98), some (.int (nI i)), some (.int x), none]) (ll := []) rfl rfl rfl ?_
  have e : (11 : Int32) + nI i = nI (11 + i) := nI_add 11 i
  refine G_S (pc := 0) f_227_0 rfl rfl rfl ?_
  refine G_bi (v := 11) (pc := 1) f_227_1 (by decide) ?_
  refine G_S (pc := 3) f_227_3 rfl rfl rfl ?_
  refine G_S (pc := 4) f_227_4 rfl rfl rfl ?_
  rw [e]
  refine G_CV (pc := 5) f_227_5 rfl rfl (by decide) rfl rfl (by first | assumption | exact hK.1 _ _ rfl) (by decide) ⟨Nat.le_of_ble_eq_true rfl, Nat.le_of_ble_eq_true rfl⟩ ?_
  refine CG.go (m_of (l := l) (a := 11 + i) hK hl (by omega)) ?_
  refine G_S (pc := 8) f_227_8 rfl rfl rfl ?_
  refine G_S (pc := 9) f_227_9 rfl rfl rfl ?_
  first | refine G_bNe (pc := 10) f_227_10 rfl (fun h10 => ?_) (fun h10 => ?_) | refine G_zne (pc := 10) f_227_10 rfl (fun h10 => ?_) (fun h10 => ?_)
  · refine G_S (pc := 17) f_227_17 rfl rfl rfl ?_
    refine G_ic (v := 1) (pc := 18) f_227_18 rfl ?_
    refine G_jne (pc := 19) f_227_19 rfl (fun h19 => ?_) (fun h19 => ?_)
    · refine G_S (pc := 28) f_227_28 rfl rfl rfl ?_
      refine G_ic (v := 2) (pc := 29) f_227_29 rfl ?_
      refine G_jne (pc := 30) f_227_30 rfl (fun h30 => ?_) (fun h30 => ?_)
      · refine G_ic (v := 0) (pc := 39) f_227_39 rfl ?_
        exact G_ri (pc := 40) f_227_40 ⟨by first | (rw [pullF, if_pos h10]; done) | (rw [pullF, if_neg h10, if_pos h19]; done) | (rw [pullF, if_neg h10, if_neg h19, if_pos h30]; done) | (rw [pullF, if_neg h10, if_neg h19, if_neg h30]; done), rfl⟩
      · refine G_S (pc := 33) f_227_33 rfl rfl rfl ?_
        refine G_ic (v := 2) (pc := 34) f_227_34 rfl ?_
        refine G_div (pc := 35) f_227_35 (by decide) ?_
        refine G_S (pc := 36) f_227_36 rfl rfl rfl ?_
        exact G_ri (pc := 40) f_227_40 ⟨by first | (rw [pullF, if_pos h10]; done) | (rw [pullF, if_neg h10, if_pos h19]; done) | (rw [pullF, if_neg h10, if_neg h19, if_pos h30]; done) | (rw [pullF, if_neg h10, if_neg h19, if_neg h30]; done), rfl⟩
    · refine G_ic (v := 2) (pc := 22) f_227_22 rfl ?_
      refine G_S (pc := 23) f_227_23 rfl rfl rfl ?_
      refine G_S (pc := 24) f_227_24 rfl rfl rfl ?_
      refine G_S (pc := 25) f_227_25 rfl rfl rfl ?_
      exact G_ri (pc := 40) f_227_40 ⟨by first | (rw [pullF, if_pos h10]; done) | (rw [pullF, if_neg h10, if_pos h19]; done) | (rw [pullF, if_neg h10, if_neg h19, if_pos h30]; done) | (rw [pullF, if_neg h10, if_neg h19, if_neg h30]; done), rfl⟩
  · refine G_S (pc := 13) f_227_13 rfl rfl rfl ?_
    refine G_S (pc := 14) f_227_14 rfl rfl rfl ?_
    exact G_ri (pc := 40) f_227_40 ⟨by first | (rw [pullF, if_pos h10]; done) | (rw [pullF, if_neg h10, if_pos h19]; done) | (rw [pullF, if_neg h10, if_neg h19, if_pos h30]; done) | (rw [pullF, if_neg h10, if_neg h19, if_neg h30]; done), rfl⟩
/-- wear(r) -/
theorem m_wear {l i kd : Nat} (hK : KM M.1 M.2.2.2) (hl : M.2.1 98 23 = nI l) (hb : l < 8) (hi : i < 8) (hk : M.2.1 104 (39 * l + (11 + i)) = nI kd) (hkd : kd < 4) : CG C 228 [.ref 98, .int (nI i)] M (fun w M' => w = some (.int (M.2.1 104 (39 * l + (27 + kd)))) ∧ M' = M) := by
  refine CG_in (mL := 2) (hl := false) (lv := [some (.ref 98), some (.int (nI i))]) (ll := []) rfl rfl rfl ?_
  have e : (11 : Int32) + nI i = nI (11 + i) := nI_add 11 i
  have e2 : (27 : Int32) + M.2.1 104 (39 * l + (11 + i)) = nI (27 + kd) := by
    rw [hk]
    exact nI_add 27 kd
  refine G_S (pc := 0) f_228_0 rfl rfl rfl ?_
  refine G_bi (v := 27) (pc := 1) f_228_1 (by decide) ?_
  refine G_S (pc := 3) f_228_3 rfl rfl rfl ?_
  refine G_bi (v := 11) (pc := 4) f_228_4 (by decide) ?_
  refine G_S (pc := 6) f_228_6 rfl rfl rfl ?_
  refine G_S (pc := 7) f_228_7 rfl rfl rfl ?_
  rw [e]
  refine G_CV (pc := 8) f_228_8 rfl rfl (by decide) rfl rfl (by first | assumption | exact hK.1 _ _ rfl) (by decide) ⟨Nat.le_of_ble_eq_true rfl, Nat.le_of_ble_eq_true rfl⟩ ?_
  refine CG.go (m_of (l := l) (a := 11 + i) hK hl (by omega)) ?_
  refine G_S (pc := 11) f_228_11 rfl rfl rfl ?_
  rw [e2]
  refine G_CV (pc := 12) f_228_12 rfl rfl (by decide) rfl rfl (by first | assumption | exact hK.1 _ _ rfl) (by decide) ⟨Nat.le_of_ble_eq_true rfl, Nat.le_of_ble_eq_true rfl⟩ ?_
  refine CG.go (m_of (l := l) (a := 27 + kd) hK hl (by omega)) ?_
  exact G_ri (pc := 15) f_228_15 ⟨rfl, rfl⟩
end RH
