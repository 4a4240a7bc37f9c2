/-! the class: a line by its number -/
section CA
variable {C : Ct} {M : Mm}
/-- lineAt(k), there is such a line -/
theorem c_lineAt1 {l n : Nat} (hK : KM M.1 M.2.2.2) (hn : M.2.1 3 0 = nI n) (hn2 : n ≤ 2) (hl : l < n) : CG C 178 [.ref 0, .int (nI l)] M (fun w M' => w = some (.ref (8 + 22 * l)) ∧ M' = M) := by
  refine CG_in (mL := 2) (hl := false) (lv := [some (.ref 0), some (.int (nI l))]) (ll := []) rfl rfl rfl ?_
  have e : (nI l).toNatClampNeg = l := nI_clamp (by omega)
  have z : (0 : Int32).toNatClampNeg = 0 := by decide
  have hr : M.2.2.2 4 (nI l).toNatClampNeg = some (8 + 22 * l) := by
    rw [e]
    rcases (show l = 0 ∨ l = 1 by omega) with rfl | rfl
    · exact hK.2 4 0 8 rfl
    · exact hK.2 4 1 30 rfl
  refine G_S (pc := 0) f_178_0 rfl rfl rfl ?_
  refine G_zlt (pc := 1) f_178_1 rfl (fun h1 => ?_) (fun h1 => ?_)
  · first | exact absurd h1 (nI_pos (by omega)) | exact absurd h14 (nI_ge hl (by omega))
  · refine G_S (pc := 4) f_178_4 rfl rfl rfl ?_
    refine G_S (pc := 5) f_178_5 rfl rfl rfl ?_
    refine G_gR (pc := 6) f_178_6 (by decide) rfl (by first | assumption | exact hK.1 _ _ rfl) (by first | assumption | exact hK.2 _ _ _ rfl) ?_
    refine G_gR (pc := 9) f_178_9 (by decide) rfl (by first | assumption | exact hK.1 _ _ rfl) (by first | assumption | exact hK.2 _ _ _ rfl) ?_
    refine G_ic (v := 0) (pc := 12) f_178_12 rfl ?_
    refine G_ia (pc := 13) f_178_13 (by first | assumption | exact hK.1 _ _ rfl) (inn_nI (i := 0) (by decide) (by decide)) ?_
    rw [z, hn]
    refine G_jge (pc := 14) f_178_14 rfl (fun h14 => ?_) (fun h14 => ?_)
    · first | exact absurd h1 (nI_pos (by omega)) | exact absurd h14 (nI_ge hl (by omega))
    · refine G_S (pc := 17) f_178_17 rfl rfl rfl ?_
      refine G_gR (pc := 18) f_178_18 (by decide) rfl (by first | assumption | exact hK.1 _ _ rfl) (by first | assumption | exact hK.2 _ _ _ rfl) ?_
      refine G_gR (pc := 21) f_178_21 (by decide) rfl (by first | assumption | exact hK.1 _ _ rfl) (by first | assumption | exact hK.2 _ _ _ rfl) ?_
      refine G_S (pc := 24) f_178_24 rfl rfl rfl ?_
      refine G_aa (pc := 25) f_178_25 (by first | assumption | exact hK.1 _ _ rfl) (by decide) (by first | assumption | exact inn_nI (by omega) (by omega)) (by first | assumption | exact hK.2 _ _ _ rfl) ?_
      refine G_S (pc := 26) f_178_26 rfl rfl rfl ?_
      exact G_ra (pc := 30) f_178_30 ⟨rfl, rfl⟩
/-- lineAt(k), there is none -/
theorem c_lineAt0 {k : Int32} {n : Nat} (hK : KM M.1 M.2.2.2) (hn : M.2.1 3 0 = nI n) (hk : ¬ (0 ≤ k ∧ k < nI n)) : CG C 178 [.ref 0, .int k] M (fun w M' => w = some .null ∧ M' = M) := by
  refine CG_in (mL := 2) (hl := false) (lv := [some (.ref 0), some (.int k)]) (ll := []) rfl rfl rfl ?_
  have z : (0 : Int32).toNatClampNeg = 0 := by decide
  refine G_S (pc := 0) f_178_0 rfl rfl rfl ?_
  refine G_zlt (pc := 1) f_178_1 rfl (fun h1 => ?_) (fun h1 => ?_)
  · refine G_S (pc := 29) f_178_29 rfl rfl rfl ?_
    exact G_rnl (pc := 30) f_178_30 ⟨rfl, rfl⟩
  · refine G_S (pc := 4) f_178_4 rfl rfl rfl ?_
    refine G_S (pc := 5) f_178_5 rfl rfl rfl ?_
    refine G_gR (pc := 6) f_178_6 (by decide) rfl (by first | assumption | exact hK.1 _ _ rfl) (by first | assumption | exact hK.2 _ _ _ rfl) ?_
    refine G_gR (pc := 9) f_178_9 (by decide) rfl (by first | assumption | exact hK.1 _ _ rfl) (by first | assumption | exact hK.2 _ _ _ rfl) ?_
    refine G_ic (v := 0) (pc := 12) f_178_12 rfl ?_
    refine G_ia (pc := 13) f_178_13 (by first | assumption | exact hK.1 _ _ rfl) (inn_nI (i := 0) (by decide) (by decide)) ?_
    rw [z, hn]
    refine G_jge (pc := 14) f_178_14 rfl (fun h14 => ?_) (fun h14 => ?_)
    · refine G_S (pc := 29) f_178_29 rfl rfl rfl ?_
      exact G_rnl (pc := 30) f_178_30 ⟨rfl, rfl⟩
    · exact absurd ⟨Int32.not_lt.mp h1, Int32.not_le.mp h14⟩ hk
end CA
section CM
variable {C : Ct} {M : Mm}
theorem cmF_cong {D : Nat → Nat} {S : Nat} : ∀ (f k : Nat) {b c : Nat → Nat}, (∀ r, r < D 2 → b r = c r) → (cmF D S f k b).1 = (cmF D S f k c).1 ∧ ∀ r, r < D 2 → (cmF D S f k b).2 r = (cmF D S f k c).2 r
  | 0, k, b, c, h => ⟨rfl, h⟩
  | f + 1, k, b, c, h => by
    have e : plS D b S (D 2) = plS D c S (D 2) := sN_cong _ (fun i hi => by rw [h i hi])
    unfold cmF
    rw [e]
    split
    · refine cmF_cong f (k + 1) (fun r hr => ?_)
      unfold wn
      rw [h r hr]
    · exact ⟨rfl, h⟩
theorem layN_0 {D : Nat → Nat} (hD : DOK D) {r : Nat} (hr : r < 8) : layN D 0 r = D (19 + r) := by
  have := hD.2.2.2.2.2.1 r hr
  unfold layN
  rw [Int.add_zero, Int.min_eq_right (by omega), Int.max_eq_right (by omega)]
  rfl
/-- the class's comes(line, set, from) where all is there -/
theorem c_comes1 {l n S k : Nat} {D : Nat → Nat} (hK : KM M.1 M.2.2.2) (hn : M.2.1 3 0 = nI n) (hn2 : n ≤ 2) (hl : l < n) (hT : LnT M (8 + 22 * l)) (hV : LnV M (8 + 22 * l) D) (hS : S < 2 ^ D 2) (hk : k ≤ D 0) : CG C 159 [.ref 0, .int (nI l), .int (nI S), .int (nI k)] M (fun w M' => w = some (.int (nI (cmF D S (D 0 - k) k (fun r => D (19 + r))).1)) ∧ Fc [82, 83] M M') := by
  refine CG_in (mL := 5) (hl := false) (lv := [some (.ref 0), some (.int (nI l)), some (.int (nI S)), some (.int (nI k)), none]) (ll := []) rfl rfl rfl ?_
  have hnr : D 2 ≤ 8 := hV.1.2.2.1
  have hnh : D 0 ≤ 8 := hV.1.1
  have hp2 := pw_le (D 2) (by omega)
  have hS8 : S < 256 := by omega
  have hs : Lsep (8 + 22 * l) := Or.inl (by omega)
  have sep : ∀ j, j < 6 → 8 + 22 * l + j ∉ [82, 83] := by
    intro j hj q
    rcases List.mem_cons.mp q with q | q
    · omega
    · have := List.mem_singleton.mp q
      omega
  have t0 := hT.1.1
  have t82 : M.1[82]? = some (1, 3) := hK.1 82 (1, 3) rfl
  have t00 : M.1[0]? = some (11, 8) := hK.1 0 (11, 8) rfl
  refine G_S (pc := 0) f_159_0 rfl rfl rfl ?_
  refine G_S (pc := 1) f_159_1 rfl rfl rfl ?_
  refine G_CV (pc := 2) f_159_2 rfl rfl (by decide) rfl rfl (by first | assumption | exact hK.1 _ _ rfl) (by decide) ⟨Nat.le_of_ble_eq_true rfl, Nat.le_of_ble_eq_true rfl⟩ ?_
  refine CG.go (c_lineAt1 hK hn hn2 hl) ?_
  refine G_S (pc := 5) f_159_5 rfl rfl rfl ?_
  refine G_S (pc := 7) f_159_7 rfl rfl rfl ?_
  refine G_S (pc := 9) f_159_9 rfl rfl (if_pos (show 8 + 22 * l < 1000000 by omega)) ?_
  refine G_S (pc := 12) f_159_12 rfl rfl rfl ?_
  refine G_S (pc := 14) f_159_14 rfl rfl rfl ?_
  refine G_CV (pc := 15) f_159_15 rfl rfl (by decide) rfl rfl (by first | assumption | exact hK.1 _ _ rfl) (by decide) ⟨Nat.le_of_ble_eq_true rfl, Nat.le_of_ble_eq_true rfl⟩ ?_
  refine CG.go (c_has hT hV) ?_
  first | refine G_bEq (pc := 18) f_159_18 rfl (fun h18 => ?_) (fun h18 => ?_) | refine G_zeq (pc := 18) f_159_18 rfl (fun h18 => ?_) (fun h18 => ?_)
  · first
      | exact absurd ⟨nI_pos (by omega), nI_lt hS (by omega)⟩ h18
      | exact absurd h22 (nI_pos (by omega))
      | exact absurd (nI_le hk (by omega)) h31
  · refine G_S (pc := 21) f_159_21 rfl rfl rfl ?_
    refine G_zlt (pc := 22) f_159_22 rfl (fun h22 => ?_) (fun h22 => ?_)
    · first
        | exact absurd ⟨nI_pos (by omega), nI_lt hS (by omega)⟩ h18
        | exact absurd h22 (nI_pos (by omega))
        | exact absurd (nI_le hk (by omega)) h31
    · refine G_S (pc := 25) f_159_25 rfl rfl rfl ?_
      refine G_S (pc := 26) f_159_26 rfl rfl rfl ?_
      refine G_gI (pc := 28) f_159_28 (by decide) rfl (by decide) (by first | assumption | exact hK.1 _ _ rfl) ?_
      rw [hV.2.1.1]
      refine G_jle (pc := 31) f_159_31 rfl (fun h31 => ?_) (fun h31 => ?_)
      · refine G_S (pc := 36) f_159_36 rfl rfl rfl ?_
        refine G_gR (pc := 37) f_159_37 (by decide) rfl (by first | assumption | exact hK.1 _ _ rfl) (by first | assumption | exact hK.2 _ _ _ rfl) ?_
        refine G_S (pc := 40) f_159_40 rfl rfl rfl ?_
        refine G_CV (pc := 42) f_159_42 rfl rfl (by decide) rfl rfl (by first | assumption | exact hK.1 _ _ rfl) (by decide) ⟨Nat.le_of_ble_eq_true rfl, Nat.le_of_ble_eq_true rfl⟩ ?_
        refine CG.mono (c_begin hK hT hs (by omega)) ?_
        rintro _ M42 ⟨rfl, hF, hL, hw⟩
        have hK := hF.K hK
        have hT := hT.fc hF (sep 0 (by decide))
        have hV2 := hV.fc hF sep
        have t00 : M42.1[0]? = some (11, 8) := hK.1 0 (11, 8) rfl
        have t82 : M42.1[82]? = some (1, 3) := hK.1 82 (1, 3) rfl
        have hb : ∀ r, r < D 2 → M42.2.1 83 r = nI (D (19 + r)) ∧ D (19 + r) < 256 := fun r hr => ⟨by rw [hw r (by omega)]; exact (hV.2.2.2.1 r hr).2, by have := hV.1.2.2.2.2.2.1 r (by omega); omega⟩
        refine G_S (pc := 45) f_159_45 rfl rfl rfl ?_
        refine G_gR (pc := 46) f_159_46 (by decide) rfl (by first | assumption | exact hK.1 _ _ rfl) (by first | assumption | exact hK.2 _ _ _ rfl) ?_
        refine G_S (pc := 49) f_159_49 rfl rfl rfl ?_
        refine G_S (pc := 50) f_159_50 rfl rfl rfl ?_
        refine G_CV (pc := 51) f_159_51 rfl rfl (by decide) rfl rfl (by first | assumption | exact hK.1 _ _ rfl) (by decide) ⟨Nat.le_of_ble_eq_true rfl, Nat.le_of_ble_eq_true rfl⟩ ?_
        refine CG.mono (c_climb (b := fun r => D (19 + r)) hK hL hT hV2 hs hS8 hb hk) ?_
        rintro _ M51 ⟨rfl, hF2, hw2⟩
        exact G_ri (pc := 54) f_159_54 ⟨rfl, hF.tr (hF2.sub (by decide))⟩
      · first
          | exact absurd ⟨nI_pos (by omega), nI_lt hS (by omega)⟩ h18
          | exact absurd h22 (nI_pos (by omega))
          | exact absurd (nI_le hk (by omega)) h31
end CM
