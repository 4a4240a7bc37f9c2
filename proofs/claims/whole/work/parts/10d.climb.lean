/-! the class: a crew climbs -/
section CB
variable {C : Ct} {M : Mm} {h S : Nat} {D b : Nat → Nat}
theorem sep83 (hs : Lsep h) : ∀ j, j < 6 → h + j ∉ [83] := by
  intro j hj q
  have q := List.mem_singleton.mp q
  unfold Lsep at hs
  omega
theorem sep83' (hs : Lsep h) : h ∉ [83] := sep83 hs 0 (by decide)
theorem c_wearOff_loop (hK : KM M.1 M.2.2.2) (hL : M.2.2.2 82 0 = some h) (hT : LnT M h) (hV : LnV M h D) (hs : Lsep h) (hS : S < 256) (hb : ∀ r, r < D 2 → M.2.1 83 r = nI (b r) ∧ b r < 256) : ∀ (d i : Nat), i + d = D 2 → ∀ M1 : Mm, Fc [83] M M1 → (∀ r, r < i → M1.2.1 83 r = nI (wn D b S r)) → (∀ r, i ≤ r → M1.2.1 83 r = M.2.1 83 r) → G C 18 (2, [some (.ref 82), some (.int (nI S)), some (.int (nI i))], [], [], M1) (fun w M' => w = none ∧ Fc [83] M M' ∧ ∀ r, r < D 2 → M'.2.1 83 r = nI (wn D b S r)) := by
  have hnr : D 2 ≤ 8 := hV.1.2.2.1
  intro d
  induction d with
  | zero =>
    intro i hi M1 hF h1 h2
    have hi : i = D 2 := by omega
    subst hi
    have hK := hF.K hK
    have hL : M1.2.2.2 82 0 = some h := (hF.2.1 82 0 (Or.inl (by decide))).trans hL
    have hT := hT.fc hF (sep83' hs)
    have hV := hV.fc hF (sep83 hs)
    obtain ⟨⟨t0, t1, t2, t3, t4, t5, t6⟩, r0, r3, r4, r6, r7, r8⟩ := hT
    refine G_S (pc := 2) f_18_2 rfl rfl rfl ?_
    refine G_S (pc := 3) f_18_3 rfl rfl rfl ?_
    refine G_gR (pc := 4) f_18_4 (by decide) rfl (by first | assumption | exact hK.1 _ _ rfl) (by first | assumption | exact hK.2 _ _ _ rfl) ?_
    refine G_gI (pc := 7) f_18_7 (by decide) rfl (by decide) (by first | assumption | exact hK.1 _ _ rfl) ?_
    rw [hV.2.1.2.2]
    refine G_jge (pc := 10) f_18_10 rfl (fun h10 => ?_) (fun h10 => ?_)
    · exact G_rv (pc := 47) f_18_47 ⟨rfl, hF, h1⟩
    · exact absurd (nI_le (Nat.le_refl (D 2)) (by omega)) h10
  | succ d ih =>
    intro i hi M1 hF h1 h2
    have hi8 : i < 8 := by omega
    have e : (nI i).toNatClampNeg = i := nI_clamp (by omega)
    obtain ⟨b1, b2⟩ := hb i (by omega)
    have b3 : M1.2.1 83 i = nI (b i) := (h2 i (Nat.le_refl i)).trans b1
    have hK := hF.K hK
    have hL : M1.2.2.2 82 0 = some h := (hF.2.1 82 0 (Or.inl (by decide))).trans hL
    have hT := hT.fc hF (sep83' hs)
    have hV := hV.fc hF (sep83 hs)
    have hT' := hT
    obtain ⟨⟨t0, t1, t2, t3, t4, t5, t6⟩, r0, r3, r4, r6, r7, r8⟩ := hT
    refine G_S (pc := 2) f_18_2 rfl rfl rfl ?_
    refine G_S (pc := 3) f_18_3 rfl rfl rfl ?_
    refine G_gR (pc := 4) f_18_4 (by decide) rfl (by first | assumption | exact hK.1 _ _ rfl) (by first | assumption | exact hK.2 _ _ _ rfl) ?_
    refine G_gI (pc := 7) f_18_7 (by decide) rfl (by decide) (by first | assumption | exact hK.1 _ _ rfl) ?_
    rw [hV.2.1.2.2]
    refine G_jge (pc := 10) f_18_10 rfl (fun h10 => ?_) (fun h10 => ?_)
    · exact absurd h10 (nI_ge (by omega) (by omega))
    · refine G_S (pc := 13) f_18_13 rfl rfl rfl ?_
      refine G_S (pc := 14) f_18_14 rfl rfl rfl ?_
      refine G_CS (pc := 15) f_18_15 rfl rfl (by decide) rfl rfl ⟨Nat.le_of_ble_eq_true rfl, Nat.le_of_ble_eq_true rfl⟩ ?_
      refine CG.go (c_holds hS hi8) ?_
      first | refine G_bEq (pc := 18) f_18_18 rfl (fun h18 => ?_) (fun h18 => ?_) | refine G_zeq (pc := 18) f_18_18 rfl (fun h18 => ?_) (fun h18 => ?_)
      · refine G_inc1 (pc := 41) f_18_41 rfl ?_
        refine G_S (pc := 44) f_18_44 rfl rfl rfl ?_
        first
          | (refine ih (i + 1) (by omega) _ hF (fun r hr => ?_) (fun r hr => h2 r (by omega))
             by_cases hri : r = i
             · rw [hri, b3, wn, if_neg h18]
             · exact h1 r (by omega))
          | (rw [e]
             refine ih (i + 1) (by omega) _ (hF.tr (Fc.up (by decide))) (fun r hr => ?_) (fun r hr => ?_)
             · show up2 M1.2.1 83 i _ 83 r = _
               rw [up2_at]
               by_cases hri : r = i
               · rw [if_pos hri, hri, wn, if_pos h18]
               · rw [if_neg hri]
                 exact h1 r (by omega)
             · show up2 M1.2.1 83 i _ 83 r = _
               rw [up2_at, if_neg (by omega)]
               exact h2 r (by omega))
      · refine G_S (pc := 21) f_18_21 rfl rfl rfl ?_
        refine G_gR (pc := 22) f_18_22 (by decide) rfl (by first | assumption | exact hK.1 _ _ rfl) (by first | assumption | exact hK.2 _ _ _ rfl) ?_
        refine G_S (pc := 25) f_18_25 rfl rfl rfl ?_
        refine G_S (pc := 26) f_18_26 rfl rfl rfl ?_
        refine G_gR (pc := 27) f_18_27 (by decide) rfl (by first | assumption | exact hK.1 _ _ rfl) (by first | assumption | exact hK.2 _ _ _ rfl) ?_
        refine G_S (pc := 30) f_18_30 rfl rfl rfl ?_
        refine G_S (pc := 31) f_18_31 rfl rfl rfl ?_
        refine G_gR (pc := 32) f_18_32 (by decide) rfl (by first | assumption | exact hK.1 _ _ rfl) (by first | assumption | exact hK.2 _ _ _ rfl) ?_
        refine G_S (pc := 35) f_18_35 rfl rfl rfl ?_
        refine G_ia (pc := 36) f_18_36 (by first | assumption | exact hK.1 _ _ rfl) (by first | assumption | exact inn_nI (by omega) (by omega)) ?_
        rw [e, b3]
        refine G_CV (pc := 37) f_18_37 rfl rfl (by decide) rfl rfl (by first | assumption | exact hK.1 _ _ rfl) (by decide) ⟨Nat.le_of_ble_eq_true rfl, Nat.le_of_ble_eq_true rfl⟩ ?_
        refine CG.go (c_wornOf hT' hV (by omega) b2) ?_
        refine G_is (pc := 40) f_18_40 (by first | assumption | exact hK.1 _ _ rfl) (by first | assumption | exact inn_nI (by omega) (by omega)) ?_
        refine G_inc1 (pc := 41) f_18_41 rfl ?_
        refine G_S (pc := 44) f_18_44 rfl rfl rfl ?_
        first
          | (refine ih (i + 1) (by omega) _ hF (fun r hr => ?_) (fun r hr => h2 r (by omega))
             by_cases hri : r = i
             · rw [hri, b3, wn, if_neg h18]
             · exact h1 r (by omega))
          | (rw [e]
             refine ih (i + 1) (by omega) _ (hF.tr (Fc.up (by decide))) (fun r hr => ?_) (fun r hr => ?_)
             · show up2 M1.2.1 83 i _ 83 r = _
               rw [up2_at]
               by_cases hri : r = i
               · rw [if_pos hri, hri, wn, if_pos h18]
               · rw [if_neg hri]
                 exact h1 r (by omega)
             · show up2 M1.2.1 83 i _ 83 r = _
               rw [up2_at, if_neg (by omega)]
               exact h2 r (by omega))
/-- Crew.wearOff(set) -/
theorem c_wearOff (hK : KM M.1 M.2.2.2) (hL : M.2.2.2 82 0 = some h) (hT : LnT M h) (hV : LnV M h D) (hs : Lsep h) (hS : S < 256) (hb : ∀ r, r < D 2 → M.2.1 83 r = nI (b r) ∧ b r < 256) : CG C 18 [.ref 82, .int (nI S)] M (fun w M' => w = none ∧ Fc [83] M M' ∧ ∀ r, r < D 2 → M'.2.1 83 r = nI (wn D b S r)) := by
  refine CG_in (mL := 3) (hl := false) (lv := [some (.ref 82), some (.int (nI S)), none]) (ll := []) rfl rfl rfl ?_
  refine G_ic (v := 0) (pc := 0) f_18_0 rfl ?_
  refine G_S (pc := 1) f_18_1 rfl rfl rfl ?_
  exact c_wearOff_loop hK hL hT hV hs hS hb (D 2) 0 (by omega) M Fc.rf (fun r hr => absurd hr (Nat.not_lt_zero r)) (fun _ _ => rfl)
theorem c_climb_loop (hs : Lsep h) (hS : S < 256) {f0 : Int32} (hnh : D 0 ≤ 8) : ∀ (d k : Nat), k + d = D 0 → ∀ (M : Mm) (b : Nat → Nat), KM M.1 M.2.2.2 → M.2.2.2 82 0 = some h → LnT M h → LnV M h D → (∀ r, r < D 2 → M.2.1 83 r = nI (b r) ∧ b r < 256) → G C 19 (2, [some (.ref 82), some (.int (nI S)), some (.int f0), some (.int (nI k))], [], [], M) (fun w M' => w = some (.int (nI (cmF D S d k b).1)) ∧ Fc [83] M M' ∧ ∀ r, r < D 2 → M'.2.1 83 r = nI ((cmF D S d k b).2 r)) := by
  intro d
  induction d with
  | zero =>
    intro k hk M b hK hL hT hV hb
    have hk : k = D 0 := by omega
    subst hk
    obtain ⟨⟨t0, t1, t2, t3, t4, t5, t6⟩, r0, r3, r4, r6, r7, r8⟩ := hT
    refine G_S (pc := 2) f_19_2 rfl rfl rfl ?_
    refine G_S (pc := 3) f_19_3 rfl rfl rfl ?_
    refine G_gR (pc := 4) f_19_4 (by decide) rfl (by first | assumption | exact hK.1 _ _ rfl) (by first | assumption | exact hK.2 _ _ _ rfl) ?_
    refine G_gI (pc := 7) f_19_7 (by decide) rfl (by decide) (by first | assumption | exact hK.1 _ _ rfl) ?_
    rw [hV.2.1.1]
    refine G_jge (pc := 10) f_19_10 rfl (fun h10 => ?_) (fun h10 => ?_)
    · refine G_S (pc := 47) f_19_47 rfl rfl rfl ?_
      refine G_gR (pc := 48) f_19_48 (by decide) rfl (by first | assumption | exact hK.1 _ _ rfl) (by first | assumption | exact hK.2 _ _ _ rfl) ?_
      refine G_gI (pc := 51) f_19_51 (by decide) rfl (by decide) (by first | assumption | exact hK.1 _ _ rfl) ?_
      rw [hV.2.1.1]
      exact G_ri (pc := 54) f_19_54 ⟨rfl, Fc.rf, fun r hr => (hb r hr).1⟩
    · exact absurd (nI_le (Nat.le_refl (D 0)) (by omega)) h10
  | succ d ih =>
    intro k hk M b hK hL hT hV hb
    have hnr : D 2 ≤ 8 := hV.1.2.2.1
    have hp := plS_le D (S := S) (n := D 2) (fun r hr => (hb r hr).2)
    have hh : D (3 + k) ≤ 99 := hV.1.2.2.2.1 k (by omega)
    have hp2 : plS D b S (D 2) < 2 ^ 31 := by omega
    have e : (nI k).toNatClampNeg = k := nI_clamp (by omega)
    have eh := hV.2.2.1 k (by omega)
    have hT' := hT
    obtain ⟨⟨t0, t1, t2, t3, t4, t5, t6⟩, r0, r3, r4, r6, r7, r8⟩ := hT
    refine G_S (pc := 2) f_19_2 rfl rfl rfl ?_
    refine G_S (pc := 3) f_19_3 rfl rfl rfl ?_
    refine G_gR (pc := 4) f_19_4 (by decide) rfl (by first | assumption | exact hK.1 _ _ rfl) (by first | assumption | exact hK.2 _ _ _ rfl) ?_
    refine G_gI (pc := 7) f_19_7 (by decide) rfl (by decide) (by first | assumption | exact hK.1 _ _ rfl) ?_
    rw [hV.2.1.1]
    refine G_jge (pc := 10) f_19_10 rfl (fun h10 => ?_) (fun h10 => ?_)
    · exact absurd h10 (nI_ge (by omega) (by omega))
    · refine G_S (pc := 13) f_19_13 rfl rfl rfl ?_
      refine G_zlt (pc := 14) f_19_14 rfl (fun h14 => ?_) (fun h14 => ?_)
      · first
          | exact absurd h14 (nI_pos (by omega))
          | exact G_S (pc := 34) f_19_34 rfl rfl rfl (G_ri (pc := 35) f_19_35 (by rw [cmF, if_neg (fun q => absurd (nI_le q hp2) h31)]; exact ⟨rfl, Fc.rf, fun r hr => (hb r hr).1⟩))
      · refine G_S (pc := 17) f_19_17 rfl rfl rfl ?_
        refine G_S (pc := 18) f_19_18 rfl rfl rfl ?_
        refine G_CV (pc := 19) f_19_19 rfl rfl (by decide) rfl rfl (by first | assumption | exact hK.1 _ _ rfl) (by decide) ⟨Nat.le_of_ble_eq_true rfl, Nat.le_of_ble_eq_true rfl⟩ ?_
        refine CG.go (c_pulls hK hL hT' hV hS hb) ?_
        refine G_S (pc := 22) f_19_22 rfl rfl rfl ?_
        refine G_gR (pc := 23) f_19_23 (by decide) rfl (by first | assumption | exact hK.1 _ _ rfl) (by first | assumption | exact hK.2 _ _ _ rfl) ?_
        refine G_gR (pc := 26) f_19_26 (by decide) rfl (by first | assumption | exact hK.1 _ _ rfl) (by first | assumption | exact hK.2 _ _ _ rfl) ?_
        refine G_S (pc := 29) f_19_29 rfl rfl rfl ?_
        refine G_ia (pc := 30) f_19_30 (by first | assumption | exact hK.1 _ _ rfl) (by first | assumption | exact inn_nI (by omega) (by omega)) ?_
        rw [e, eh]
        refine G_jge (pc := 31) f_19_31 rfl (fun h31 => ?_) (fun h31 => ?_)
        · refine G_S (pc := 36) f_19_36 rfl rfl rfl ?_
          refine G_S (pc := 37) f_19_37 rfl rfl rfl ?_
          refine G_CV (pc := 38) f_19_38 rfl rfl (by decide) rfl rfl (by first | assumption | exact hK.1 _ _ rfl) (by decide) ⟨Nat.le_of_ble_eq_true rfl, Nat.le_of_ble_eq_true rfl⟩ ?_
          refine CG.mono (c_wearOff hK hL hT' hV hs hS hb) ?_
          rintro _ M38 ⟨rfl, hF, hw⟩
          first | refine G_inc1 (pc := 41) f_19_41 rfl ?_ | refine G_S (pc := 41) f_19_41 rfl rfl rfl ?_
          refine G_S (pc := 44) f_19_44 rfl rfl rfl ?_
          have hy : D (3 + k) ≤ plS D b S (D 2) := by
            rcases Nat.lt_or_ge (plS D b S (D 2)) (D (3 + k)) with q | q
            · exact absurd h31 (nI_ge q (by omega))
            · exact q
          refine G.mono (ih (k + 1) (by omega) _ (wn D b S) (hF.K hK) ((hF.2.1 82 0 (Or.inl (by decide))).trans hL) (hT'.fc hF (sep83' hs)) (hV.fc hF (sep83 hs)) (fun r hr => ⟨hw r hr, ?_⟩)) ?_
          · have := (hb r hr).2
            unfold wn
            split <;> omega
          · rintro w M2 ⟨h1, h2, h3⟩
            rw [cmF, if_pos hy]
            exact ⟨h1, hF.tr h2, h3⟩
        · first
            | exact absurd h14 (nI_pos (by omega))
            | exact G_S (pc := 34) f_19_34 rfl rfl rfl (G_ri (pc := 35) f_19_35 (by rw [cmF, if_neg (fun q => absurd (nI_le q hp2) h31)]; exact ⟨rfl, Fc.rf, fun r hr => (hb r hr).1⟩))
/-- Crew.climb(set, from) -/
theorem c_climb {k : Nat} (hK : KM M.1 M.2.2.2) (hL : M.2.2.2 82 0 = some h) (hT : LnT M h) (hV : LnV M h D) (hs : Lsep h) (hS : S < 256) (hb : ∀ r, r < D 2 → M.2.1 83 r = nI (b r) ∧ b r < 256) (hk : k ≤ D 0) : CG C 19 [.ref 82, .int (nI S), .int (nI k)] M (fun w M' => w = some (.int (nI (cmF D S (D 0 - k) k b).1)) ∧ Fc [83] M M' ∧ ∀ r, r < D 2 → M'.2.1 83 r = nI ((cmF D S (D 0 - k) k b).2 r)) := by
  refine CG_in (mL := 4) (hl := false) (lv := [some (.ref 82), some (.int (nI S)), some (.int (nI k)), none]) (ll := []) rfl rfl rfl ?_
  refine G_S (pc := 0) f_19_0 rfl rfl rfl ?_
  refine G_S (pc := 1) f_19_1 rfl rfl rfl ?_
  exact c_climb_loop hs hS hV.1.1 (D 0 - k) k (by omega) M b hK hL hT hV hb
end CB
