/-! the class: a crew begins, gets there, gets up -/
section CE
variable {C : Ct} {M : Mm} {h S : Nat} {D b : Nat → Nat}
/-- Crew.begin(on) -/
theorem c_begin (hK : KM M.1 M.2.2.2) (hT : LnT M h) (hs : Lsep h) (hh : h < 1000000) : CG C 15 [.ref 82, .ref h] M (fun w M' => w = none ∧ Fc [82, 83] M M' ∧ M'.2.2.2 82 0 = some h ∧ ∀ r, r < 8 → M'.2.1 83 r = M.2.1 (h + 3) r) := by
  refine CG_in (mL := 2) (hl := false) (lv := [some (.ref 82), some (.ref h)]) (ll := []) rfl rfl rfl ?_
  have hT' := hT
  obtain ⟨⟨t0, t1, t2, t3, t4, t5, t6⟩, r0, r3, r4, r6, r7, r8⟩ := hT
  have hne : h ≠ 82 := by
    unfold Lsep at hs
    omega
  have q4 : up2 M.2.2.2 82 0 (some h) h 4 = some (h + 3) := by
    rw [up2_ne hne]
    exact r4
  have q1 : up2 M.2.2.2 82 0 (some h) 82 1 = some 83 := by
    rw [up2_at, if_neg (by decide)]
    exact hK.2 82 1 83 rfl
  have t83 : M.1[83]? = some (50, 8) := hK.1 83 (50, 8) rfl
  have t82 : M.1[82]? = some (1, 3) := hK.1 82 (1, 3) rfl
  refine G_S (pc := 0) f_15_0 rfl rfl rfl ?_
  refine G_S (pc := 1) f_15_1 rfl rfl rfl ?_
  refine G_pR (pc := 2) f_15_2 rfl (by first | assumption | exact hK.1 _ _ rfl) (by omega) ?_
  refine G_S (pc := 5) f_15_5 rfl rfl rfl ?_
  refine G_gR (pc := 6) f_15_6 (by decide) rfl (by first | assumption | exact hK.1 _ _ rfl) (by first | assumption | exact hK.2 _ _ _ rfl) ?_
  refine G_S (pc := 9) f_15_9 rfl rfl rfl ?_
  refine G_gR (pc := 10) f_15_10 (by decide) rfl (by first | assumption | exact hK.1 _ _ rfl) (by first | assumption | exact hK.2 _ _ _ rfl) ?_
  refine G_CS (pc := 13) f_15_13 rfl rfl (by decide) rfl rfl ⟨Nat.le_of_ble_eq_true rfl, Nat.le_of_ble_eq_true rfl⟩ ?_
  refine CG.mono (c_copyRow (s := h + 3) (d := 83) (n0 := 8) (n1 := 8) t3 t83 (by decide) (by decide)) ?_
  rintro _ M13 ⟨rfl, rfl⟩
  refine G_rv (pc := 16) f_15_16 ⟨rfl, ⟨rfl, fun i k hi => ?_, fun i hi => ⟨?_, rfl⟩⟩, ?_, fun r hr => ?_⟩
  · show up2 M.2.2.2 82 0 (some h) i k = _
    by_cases hi2 : i = 82
    · subst hi2
      rw [up2_at]
      by_cases hk : k = 0
      · subst hk
        rcases hi with q | q
        · exact absurd (by decide) q
        · exact absurd q (by decide)
      · rw [if_neg hk]
    · rw [up2_ne hi2]
  · show up1 M.2.1 83 _ i = _
    have : i ≠ 83 := fun q => hi (by rw [q]; decide)
    simp [up1, this]
  · show up2 M.2.2.2 82 0 (some h) 82 0 = some h
    rw [up2_at, if_pos rfl]
  · show up1 M.2.1 83 (va_cpy (M.2.1 (h + 3)) (M.2.1 83) 0 0 (min 8 8)) 83 r = _
    have e : up1 M.2.1 83 (va_cpy (M.2.1 (h + 3)) (M.2.1 83) 0 0 (min 8 8)) 83 = va_cpy (M.2.1 (h + 3)) (M.2.1 83) 0 0 (min 8 8) := by simp [up1]
    rw [e, pk_cpy_in (Nat.zero_le r) (by omega)]
    rw [Nat.sub_zero, Nat.zero_add]
/-- Crew.getsThere(set) -/
theorem c_getsThere (hK : KM M.1 M.2.2.2) (hL : M.2.2.2 82 0 = some h) (hT : LnT M h) (hV : LnV M h D) (hs : Lsep h) (hS : S < 256) (hb : ∀ r, r < D 2 → M.2.1 83 r = nI (b r) ∧ b r < 256) : CG C 20 [.ref 82, .int (nI S)] M (fun w M' => w = some (.int (b2i ((cmF D S (D 0) 0 b).1 = D 0))) ∧ Fc [83] M M' ∧ ∀ r, r < D 2 → M'.2.1 83 r = nI ((cmF D S (D 0) 0 b).2 r)) := by
  refine CG_in (mL := 2) (hl := false) (lv := [some (.ref 82), some (.int (nI S))]) (ll := []) rfl rfl rfl ?_
  have hnh : D 0 ≤ 8 := hV.1.1
  have hle := (cmF_le D S (D 0) 0 b).2.1
  refine G_S (pc := 0) f_20_0 rfl rfl rfl ?_
  refine G_S (pc := 1) f_20_1 rfl rfl rfl ?_
  refine G_ic (v := 0) (pc := 2) f_20_2 rfl ?_
  refine G_CV (pc := 3) f_20_3 rfl rfl (by decide) rfl rfl (by first | assumption | exact hK.1 _ _ rfl) (by decide) ⟨Nat.le_of_ble_eq_true rfl, Nat.le_of_ble_eq_true rfl⟩ ?_
  refine CG.mono (c_climb (k := 0) hK hL hT hV hs hS hb (Nat.zero_le _)) ?_
  rintro _ M3 ⟨rfl, hF, hw⟩
  rw [Nat.sub_zero] at hw ⊢
  have hK := hF.K hK
  have hL : M3.2.2.2 82 0 = some h := (hF.2.1 82 0 (Or.inl (by decide))).trans hL
  have hT := hT.fc hF (sep83' hs)
  have hV := hV.fc hF (sep83 hs)
  obtain ⟨⟨t0, t1, t2, t3, t4, t5, t6⟩, r0, r3, r4, r6, r7, r8⟩ := hT
  refine G_S (pc := 6) f_20_6 rfl rfl rfl ?_
  refine G_gR (pc := 7) f_20_7 (by decide) rfl (by first | assumption | exact hK.1 _ _ rfl) (by first | assumption | exact hK.2 _ _ _ rfl) ?_
  refine G_gI (pc := 10) f_20_10 (by decide) rfl (by decide) (by first | assumption | exact hK.1 _ _ rfl) ?_
  rw [hV.2.1.1]
  refine G_jne (pc := 13) f_20_13 rfl (fun h13 => ?_) (fun h13 => ?_)
  · refine G_ic (v := 0) (pc := 20) f_20_20 rfl ?_
    exact G_rz (pc := 21) f_20_21 (Or.inl rfl) ⟨by rw [b2i_neg (fun q => h13 (congrArg nI q))], hF, hw⟩
  · refine G_ic (v := 1) (pc := 16) f_20_16 rfl ?_
    refine G_S (pc := 17) f_20_17 rfl rfl rfl ?_
    exact G_rz (pc := 21) f_20_21 (by first | exact Or.inl rfl | exact Or.inr rfl | exact b2i_01 _) ⟨by rw [b2i_pos (g_inj (by omega) (by omega) h13)], hF, hw⟩
/-- Crew.getsUp(on, set), the set being there -/
theorem c_getsUp (hK : KM M.1 M.2.2.2) (hT : LnT M h) (hV : LnV M h D) (hs : Lsep h) (hh : h < 1000000) (hS : S < 2 ^ D 2) : CG C 21 [.ref 82, .ref h, .int (nI S)] M (fun w M' => (∃ v : Int32, w = some (.int v) ∧ (v = 0 ∨ v = 1) ∧ (v = 1 ↔ pc8 S ≤ D 1 ∧ (cmF D S (D 0) 0 (fun r => D (19 + r))).1 = D 0)) ∧ Fc [82, 83] M M') := by
  refine CG_in (mL := 3) (hl := false) (lv := [some (.ref 82), some (.ref h), some (.int (nI S))]) (ll := []) rfl rfl rfl ?_
  have hnr : D 2 ≤ 8 := hV.1.2.2.1
  have hp2 := pw_le (D 2) (by omega)
  have hS8 : S < 256 := by omega
  have sep : ∀ j, j < 6 → h + j ∉ [82, 83] := by
    intro j hj q
    unfold Lsep at hs
    rcases List.mem_cons.mp q with q | q
    · omega
    · have := List.mem_singleton.mp q
      omega
  have t0 := hT.1.1
  have t82 : M.1[82]? = some (1, 3) := hK.1 82 (1, 3) rfl
  refine G_S (pc := 0) f_21_0 rfl rfl rfl ?_
  refine G_S (pc := 1) f_21_1 rfl rfl rfl ?_
  refine G_CV (pc := 2) f_21_2 rfl rfl (by decide) rfl rfl (by first | assumption | exact hK.1 _ _ rfl) (by decide) ⟨Nat.le_of_ble_eq_true rfl, Nat.le_of_ble_eq_true rfl⟩ ?_
  refine CG.mono (c_begin hK hT hs hh) ?_
  rintro _ M2 ⟨rfl, hF, hL, hw⟩
  have hK := hF.K hK
  have hT := hT.fc hF (sep 0 (by decide))
  have hV2 := hV.fc hF sep
  have t0 := hT.1.1
  have hb : ∀ r, r < D 2 → M2.2.1 83 r = nI (D (19 + r)) ∧ D (19 + r) < 256 := fun r hr => ⟨by rw [hw r (by omega)]; exact (hV.2.2.2.1 r hr).2, by have := hV.1.2.2.2.2.2.1 r (by omega); omega⟩
  refine G_S (pc := 5) f_21_5 rfl rfl rfl ?_
  refine G_S (pc := 6) f_21_6 rfl rfl rfl ?_
  refine G_CV (pc := 7) f_21_7 rfl rfl (by decide) rfl rfl (by first | assumption | exact hK.1 _ _ rfl) (by decide) ⟨Nat.le_of_ble_eq_true rfl, Nat.le_of_ble_eq_true rfl⟩ ?_
  refine CG.go (c_seatsAll1 hT hV2 hS) ?_
  first | refine G_bEq (pc := 10) f_21_10 rfl (fun h10 => ?_) (fun h10 => ?_) | refine G_zeq (pc := 10) f_21_10 rfl (fun h10 => ?_) (fun h10 => ?_)
  · have hf : ∃ v : Int32, some (Value.int 0) = some (Value.int v) ∧ (v = 0 ∨ v = 1) ∧ (v = 1 ↔ pc8 S ≤ D 1 ∧ (cmF D S (D 0) 0 (fun r => D (19 + r))).1 = D 0) := by
      refine ⟨0, rfl, Or.inl rfl, fun q => absurd q (by decide), fun q => ?_⟩
      first | exact absurd q.2 h18 | exact absurd q.1 h10
    refine G_ic (v := 0) (pc := 25) f_21_25 rfl ?_
    refine G_rz (pc := 26) f_21_26 (Or.inl rfl) ⟨hf, ?_⟩
    first | exact hF.tr (hF2.sub (by decide)) | exact hF
  · refine G_S (pc := 13) f_21_13 rfl rfl rfl ?_
    refine G_S (pc := 14) f_21_14 rfl rfl rfl ?_
    refine G_CV (pc := 15) f_21_15 rfl rfl (by decide) rfl rfl (by first | assumption | exact hK.1 _ _ rfl) (by decide) ⟨Nat.le_of_ble_eq_true rfl, Nat.le_of_ble_eq_true rfl⟩ ?_
    refine CG.mono (c_getsThere (b := fun r => D (19 + r)) hK hL hT hV2 hs hS8 hb) ?_
    rintro _ M15 ⟨rfl, hF2, hw2⟩
    first | refine G_bEq (pc := 18) f_21_18 rfl (fun h18 => ?_) (fun h18 => ?_) | refine G_zeq (pc := 18) f_21_18 rfl (fun h18 => ?_) (fun h18 => ?_)
    · have hf : ∃ v : Int32, some (Value.int 0) = some (Value.int v) ∧ (v = 0 ∨ v = 1) ∧ (v = 1 ↔ pc8 S ≤ D 1 ∧ (cmF D S (D 0) 0 (fun r => D (19 + r))).1 = D 0) := by
        refine ⟨0, rfl, Or.inl rfl, fun q => absurd q (by decide), fun q => ?_⟩
        first | exact absurd q.2 h18 | exact absurd q.1 h10
      refine G_ic (v := 0) (pc := 25) f_21_25 rfl ?_
      refine G_rz (pc := 26) f_21_26 (Or.inl rfl) ⟨hf, ?_⟩
      first | exact hF.tr (hF2.sub (by decide)) | exact hF
    · refine G_ic (v := 1) (pc := 21) f_21_21 rfl ?_
      refine G_S (pc := 22) f_21_22 rfl rfl rfl ?_
      exact G_rz (pc := 26) f_21_26 (by first | exact Or.inl rfl | exact Or.inr rfl | exact b2i_01 _) ⟨⟨1, rfl, Or.inr rfl, ⟨fun _ => ⟨h10, h18⟩, fun _ => rfl⟩⟩, hF.tr (hF2.sub (by decide))⟩
end CE
