/-! the class: small functions -/
/-- bitCount, as the JDK computes it -/
def bcF (x : Int32) : Int32 :=
  let a := x - ((x.toUInt32 >>> ((1 : Int32).toUInt32 &&& Int32.toUInt32 31)).toInt32 &&& 1431655765)
  let b := (a &&& 858993459) + ((a.toUInt32 >>> ((2 : Int32).toUInt32 &&& Int32.toUInt32 31)).toInt32 &&& 858993459)
  let c := (b + (b.toUInt32 >>> ((4 : Int32).toUInt32 &&& Int32.toUInt32 31)).toInt32) &&& 252645135
  let d := c + (c.toUInt32 >>> ((8 : Int32).toUInt32 &&& Int32.toUInt32 31)).toInt32
  let e := d + (d.toUInt32 >>> ((16 : Int32).toUInt32 &&& Int32.toUInt32 31)).toInt32
  e &&& 63
theorem bc_at : ∀ S, S < 256 → bcF (nI S) = nI (pc8 S) := by decide +kernel
section CS
variable {C : Ct} {M : Mm}
theorem j_bitCount {S : Nat} (hS : S < 256) : CG C 323 [.int (nI S)] M (fun w M' => w = some (.int (nI (pc8 S))) ∧ M' = M) := by
  refine CG_in (mL := 1) (hl := false) (lv := [some (.int (nI S))]) (ll := []) rfl rfl rfl ?_
  rw [← bc_at S hS]
  refine G_S (pc := 0) f_323_0 rfl rfl rfl ?_
  refine G_S (pc := 1) f_323_1 rfl rfl rfl ?_
  refine G_ic (v := 1) (pc := 2) f_323_2 rfl ?_
  refine G_S (pc := 3) f_323_3 rfl rfl rfl ?_
  refine G_S (pc := 4) f_323_4 rfl rfl rfl ?_
  refine G_S (pc := 7) f_323_7 rfl rfl rfl ?_
  refine G_S (pc := 8) f_323_8 rfl rfl rfl ?_
  refine G_S (pc := 9) f_323_9 rfl rfl rfl ?_
  refine G_S (pc := 10) f_323_10 rfl rfl rfl ?_
  refine G_S (pc := 11) f_323_11 rfl rfl rfl ?_
  refine G_S (pc := 14) f_323_14 rfl rfl rfl ?_
  refine G_S (pc := 15) f_323_15 rfl rfl rfl ?_
  refine G_ic (v := 2) (pc := 16) f_323_16 rfl ?_
  refine G_S (pc := 17) f_323_17 rfl rfl rfl ?_
  refine G_S (pc := 18) f_323_18 rfl rfl rfl ?_
  refine G_S (pc := 21) f_323_21 rfl rfl rfl ?_
  refine G_S (pc := 22) f_323_22 rfl rfl rfl ?_
  refine G_S (pc := 23) f_323_23 rfl rfl rfl ?_
  refine G_S (pc := 24) f_323_24 rfl rfl rfl ?_
  refine G_S (pc := 25) f_323_25 rfl rfl rfl ?_
  refine G_ic (v := 4) (pc := 26) f_323_26 rfl ?_
  refine G_S (pc := 27) f_323_27 rfl rfl rfl ?_
  refine G_S (pc := 28) f_323_28 rfl rfl rfl ?_
  refine G_S (pc := 29) f_323_29 rfl rfl rfl ?_
  refine G_S (pc := 32) f_323_32 rfl rfl rfl ?_
  refine G_S (pc := 33) f_323_33 rfl rfl rfl ?_
  refine G_S (pc := 34) f_323_34 rfl rfl rfl ?_
  refine G_S (pc := 35) f_323_35 rfl rfl rfl ?_
  refine G_bi (v := 8) (pc := 36) f_323_36 (by decide) ?_
  refine G_S (pc := 38) f_323_38 rfl rfl rfl ?_
  refine G_S (pc := 39) f_323_39 rfl rfl rfl ?_
  refine G_S (pc := 40) f_323_40 rfl rfl rfl ?_
  refine G_S (pc := 41) f_323_41 rfl rfl rfl ?_
  refine G_S (pc := 42) f_323_42 rfl rfl rfl ?_
  refine G_bi (v := 16) (pc := 43) f_323_43 (by decide) ?_
  refine G_S (pc := 45) f_323_45 rfl rfl rfl ?_
  refine G_S (pc := 46) f_323_46 rfl rfl rfl ?_
  refine G_S (pc := 47) f_323_47 rfl rfl rfl ?_
  refine G_S (pc := 48) f_323_48 rfl rfl rfl ?_
  refine G_bi (v := 63) (pc := 49) f_323_49 (by decide) ?_
  refine G_S (pc := 51) f_323_51 rfl rfl rfl ?_
  exact G_ri (pc := 52) f_323_52 ⟨rfl, rfl⟩
/-- holds(set, member) -/
theorem c_holds {S k : Nat} (hS : S < 256) (hk : k < 8) : CG C 183 [.int (nI S), .int (nI k)] M (fun w M' => w = some (.int (b2i (S.testBit k = true))) ∧ M' = M) := by
  refine CG_in (mL := 2) (hl := false) (lv := [some (.int (nI S)), some (.int (nI k))]) (ll := []) rfl rfl rfl ?_
  refine G_S (pc := 0) f_183_0 rfl rfl rfl ?_
  refine G_S (pc := 1) f_183_1 rfl rfl rfl ?_
  refine G_S (pc := 2) f_183_2 rfl rfl rfl ?_
  refine G_ic (v := 1) (pc := 3) f_183_3 rfl ?_
  refine G_S (pc := 4) f_183_4 rfl rfl rfl ?_
  first | refine G_bEq (pc := 5) f_183_5 rfl (fun h5 => ?_) (fun h5 => ?_) | refine G_zeq (pc := 5) f_183_5 rfl (fun h5 => ?_) (fun h5 => ?_)
  · refine G_ic (v := 0) (pc := 12) f_183_12 rfl ?_
    exact G_rz (pc := 13) f_183_13 (Or.inl rfl) ⟨by rw [b2i_neg (fun q => (bit_nz S hS k hk).mpr q h5)], rfl⟩
  · refine G_ic (v := 1) (pc := 8) f_183_8 rfl ?_
    refine G_S (pc := 9) f_183_9 rfl rfl rfl ?_
    exact G_rz (pc := 13) f_183_13 (by first | exact Or.inl rfl | exact Or.inr rfl | exact b2i_01 _) ⟨by rw [b2i_pos ((bit_nz S hS k hk).mp h5)], rfl⟩
theorem min_nI {a b : Nat} (ha : a < 2 ^ 31) (hb : b < 2 ^ 31) : (if nI b < nI a then nI b else nI a) = nI (min a b) := by
  by_cases h : b < a
  · rw [if_pos (nI_lt h ha), Nat.min_eq_right (by omega)]
  · rw [if_neg (nI_nlt (by omega) (by omega)), Nat.min_eq_left (by omega)]
/-- copyRow(from, to) -/
theorem c_copyRow {s d n0 n1 : Nat} (h0 : M.1[s]? = some (50, n0)) (h1 : M.1[d]? = some (50, n1)) (hn0 : n0 < 2 ^ 31) (hn1 : n1 < 2 ^ 31) : CG C 186 [.ref s, .ref d] M (fun w M' => w = none ∧ M' = (M.1, up1 M.2.1 d (va_cpy (M.2.1 s) (M.2.1 d) 0 0 (min n0 n1)), M.2.2.1, M.2.2.2)) := by
  refine CG_in (mL := 2) (hl := false) (lv := [some (.ref s), some (.ref d)]) (ll := []) rfl rfl rfl ?_
  have e : (nI (min n0 n1)).toNatClampNeg = min n0 n1 := nI_clamp (by omega)
  have z : (0 : Int32).toNatClampNeg = 0 := by decide
  refine G_S (pc := 0) f_186_0 rfl rfl rfl ?_
  refine G_ic (v := 0) (pc := 1) f_186_1 rfl ?_
  refine G_S (pc := 2) f_186_2 rfl rfl rfl ?_
  refine G_ic (v := 0) (pc := 3) f_186_3 rfl ?_
  refine G_S (pc := 4) f_186_4 rfl rfl rfl ?_
  refine G_len (pc := 5) f_186_5 (by first | assumption | exact hK.1 _ _ rfl) (by decide) ?_
  refine G_S (pc := 6) f_186_6 rfl rfl rfl ?_
  refine G_len (pc := 7) f_186_7 (by first | assumption | exact hK.1 _ _ rfl) (by decide) ?_
  refine G_S (pc := 8) f_186_8 rfl rfl rfl ?_
  rw [min_nI hn0 hn1]
  refine G_cp (pc := 11) f_186_11 rfl (by first | assumption | exact hK.1 _ _ rfl) (by first | assumption | exact hK.1 _ _ rfl) (by decide) ⟨by decide, by decide, nI_pos (by omega)⟩ (by rw [e, z]; omega) (by rw [e, z]; omega) ?_
  exact G_rv (pc := 14) f_186_14 ⟨rfl, by rw [e, z]⟩
end CS
section CH
variable {C : Ct} {M : Mm} {h : Nat} {D : Nat → Nat}
theorem shl1_at : ∀ n, n < 9 → (1 : Int32) <<< (nI n &&& 31) = nI (2 ^ n) := by decide +kernel
theorem pw_le : ∀ n, n < 9 → 2 ^ n ≤ 256 := by decide
/-- Line.has(set) -/
theorem c_has {x : Int32} (hT : LnT M h) (hV : LnV M h D) : CG C 58 [.ref h, .int x] M (fun w M' => w = some (.int (b2i (¬ x < 0 ∧ x < nI (2 ^ D 2)))) ∧ M' = M) := by
  refine CG_in (mL := 2) (hl := false) (lv := [some (.ref h), some (.int x)]) (ll := []) rfl rfl rfl ?_
  obtain ⟨⟨t0, t1, t2, t3, t4, t5, t6⟩, r0, r3, r4, r6, r7, r8⟩ := hT
  have hnr : D 2 ≤ 8 := hV.1.2.2.1
  refine G_S (pc := 0) f_58_0 rfl rfl rfl ?_
  refine G_zlt (pc := 1) f_58_1 rfl (fun h1 => ?_) (fun h1 => ?_)
  · have hb : ¬ (¬ x < 0 ∧ x < nI (2 ^ D 2)) := by first | exact fun q => q.1 h1 | exact fun q => Int32.not_le.mpr q.2 h11
    exact G_ic (v := 0) (pc := 18) f_58_18 rfl (G_rz (pc := 19) f_58_19 (Or.inl rfl) ⟨by rw [b2i_neg hb], rfl⟩)
  · refine G_S (pc := 4) f_58_4 rfl rfl rfl ?_
    refine G_ic (v := 1) (pc := 5) f_58_5 rfl ?_
    refine G_S (pc := 6) f_58_6 rfl rfl rfl ?_
    refine G_gI (pc := 7) f_58_7 (by decide) rfl (by decide) (by first | assumption | exact hK.1 _ _ rfl) ?_
    refine G_S (pc := 10) f_58_10 rfl rfl rfl ?_
    rw [hV.2.1.2.2, shl1_at _ (by omega)]
    refine G_jge (pc := 11) f_58_11 rfl (fun h11 => ?_) (fun h11 => ?_)
    · have hb : ¬ (¬ x < 0 ∧ x < nI (2 ^ D 2)) := by first | exact fun q => q.1 h1 | exact fun q => Int32.not_le.mpr q.2 h11
      exact G_ic (v := 0) (pc := 18) f_58_18 rfl (G_rz (pc := 19) f_58_19 (Or.inl rfl) ⟨by rw [b2i_neg hb], rfl⟩)
    · refine G_ic (v := 1) (pc := 14) f_58_14 rfl ?_
      refine G_S (pc := 15) f_58_15 rfl rfl rfl ?_
      exact G_rz (pc := 19) f_58_19 (by first | exact Or.inl rfl | exact Or.inr rfl | exact b2i_01 _) ⟨by rw [b2i_pos ⟨h1, Int32.not_le.mp h11⟩], rfl⟩
/-- Line.seatsAll(set), the set being there -/
theorem c_seatsAll1 {S : Nat} (hT : LnT M h) (hV : LnV M h D) (hS : S < 2 ^ D 2) : CG C 59 [.ref h, .int (nI S)] M (fun w M' => w = some (.int (b2i (pc8 S ≤ D 1))) ∧ M' = M) := by
  refine CG_in (mL := 2) (hl := false) (lv := [some (.ref h), some (.int (nI S))]) (ll := []) rfl rfl rfl ?_
  have hT' := hT
  obtain ⟨⟨t0, t1, t2, t3, t4, t5, t6⟩, r0, r3, r4, r6, r7, r8⟩ := hT
  have hnr : D 2 ≤ 8 := hV.1.2.2.1
  have hp2 := pw_le (D 2) (by omega)
  have hS8 : S < 256 := by omega
  have hp := pc8_le S hS8
  have hs : D 1 ≤ 6 := hV.1.2.1.2
  refine G_S (pc := 0) f_59_0 rfl rfl rfl ?_
  refine G_S (pc := 1) f_59_1 rfl rfl rfl ?_
  refine G_CV (pc := 2) f_59_2 rfl rfl (by decide) rfl rfl (by first | assumption | exact hK.1 _ _ rfl) (by decide) ⟨Nat.le_of_ble_eq_true rfl, Nat.le_of_ble_eq_true rfl⟩ ?_
  refine CG.go (c_has hT' hV) ?_
  first | refine G_bEq (pc := 5) f_59_5 rfl (fun h5 => ?_) (fun h5 => ?_) | refine G_zeq (pc := 5) f_59_5 rfl (fun h5 => ?_) (fun h5 => ?_)
  · first
      | exact absurd ⟨nI_pos (by omega), nI_lt hS (by omega)⟩ h5
      | exact G_ic (v := 0) (pc := 23) f_59_23 rfl (G_rz (pc := 24) f_59_24 (Or.inl rfl) ⟨by rw [b2i_neg (fun q => absurd h16 (nI_nlt q (by omega)))], rfl⟩)
  · refine G_S (pc := 8) f_59_8 rfl rfl rfl ?_
    refine G_CS (pc := 9) f_59_9 rfl rfl (by decide) rfl rfl ⟨Nat.le_of_ble_eq_true rfl, Nat.le_of_ble_eq_true rfl⟩ ?_
    refine CG.go (j_bitCount hS8) ?_
    refine G_S (pc := 12) f_59_12 rfl rfl rfl ?_
    refine G_gI (pc := 13) f_59_13 (by decide) rfl (by decide) (by first | assumption | exact hK.1 _ _ rfl) ?_
    rw [hV.2.1.2.1]
    refine G_jgt (pc := 16) f_59_16 rfl (fun h16 => ?_) (fun h16 => ?_)
    · first
        | exact absurd ⟨nI_pos (by omega), nI_lt hS (by omega)⟩ h5
        | exact G_ic (v := 0) (pc := 23) f_59_23 rfl (G_rz (pc := 24) f_59_24 (Or.inl rfl) ⟨by rw [b2i_neg (fun q => absurd h16 (nI_nlt q (by omega)))], rfl⟩)
    · refine G_ic (v := 1) (pc := 19) f_59_19 rfl ?_
      refine G_S (pc := 20) f_59_20 rfl rfl rfl ?_
      exact G_rz (pc := 24) f_59_24 (by first | exact Or.inl rfl | exact Or.inr rfl | exact b2i_01 _) ⟨by rw [b2i_pos (show pc8 S ≤ D 1 from by rcases Nat.lt_or_ge (D 1) (pc8 S) with q | q; exact absurd (nI_lt q (by omega)) h16; exact q)], rfl⟩
end CH
