/-! the reference: rounds, byTurns, comes, bears, slack -/
section MD
variable {C : Ct} {M : Mm} {n l S : Nat} {L : Nat → Nat → Nat} {k x y f : Int32} {D b : Nat → Nat}
theorem g_comes0 (W : MB M l D b) (hS : S < 256) : CG C 256 [.ref 98, .int (nI S), .int (nI 0)] M (fun w M' => w = some (.int (nI (cmF D S (D 0) 0 b).1)) ∧ Fo [110] M M' ∧ MB M' l D (cmF D S (D 0) 0 b).2) := g_comes (k := 0) W hS (Nat.zero_le _)
theorem g_rounds (W : MLs M n L) : CG C 267 [.ref 98, .int k, .int x] M (fun w M' => w = some (.int (aFor (slin n L k x) (fun D S => nI (tnF D S S 100 0 (layN D 0))))) ∧ mQ M M') := by
  have hK := W.1
  cases hx : slin n L k x with
  | none =>
    refine CG_in (mL := 4) (hl := false) (lv := [some (.ref 98), some (.int k), some (.int x), none]) (ll := []) rfl rfl rfl ?_
    refine G_S (pc := 0) f_267_0 rfl rfl rfl ?_
    refine G_ic (v := nI 0) (pc := 1) f_267_1 (by decide) ?_
    refine G_pI (pc := 2) f_267_2 rfl (by first | assumption | exact hK.1 _ _ rfl) ?_
    refine G_S (pc := 5) f_267_5 rfl rfl rfl ?_
    refine G_S (pc := 6) f_267_6 rfl rfl rfl ?_
    refine G_S (pc := 7) f_267_7 rfl rfl rfl ?_
    refine G_CV (pc := 8) f_267_8 rfl rfl (by decide) rfl rfl (by first | assumption | exact hK.1 _ _ rfl) (by decide) ⟨Nat.le_of_ble_eq_true rfl, Nat.le_of_ble_eq_true rfl⟩ ?_
    refine CG.mono (g_for0 (W.q mQ.cod) hx) ?_
    rintro _ M1 ⟨rfl, hQ⟩
    first | refine G_bNe (pc := 11) f_267_11 rfl (fun b1 => ?_) (fun b1 => ?_) | refine G_zneZ (pc := 11) f_267_11 rfl (by first | exact nI_toInt (by omega) | exact zI_toInt (by omega) (by omega) | rfl) (fun b1 => ?_) (fun b1 => ?_)
    · exact absurd b1 id
    · refine G_ic (v := zI (-1)) (pc := 14) f_267_14 (by decide) ?_
      refine G_ri (pc := 15) f_267_15 ?_
      exact ⟨rfl, mQ.cod.tr hQ⟩
  | some q =>
    obtain ⟨D, S⟩ := q
    obtain ⟨hS, rfl, hse⟩ := sea_some (slin_some hx).2
    have loop : ∀ l d n, n + d = 100 → ∀ M b, MB M l D b → G C 267 (23, [some (.ref 98), some (.int k), some (.int (nI S)), some (.int (nI n))], [], [], M) (fun w M' => w = some (.int (nI (tnF D S S d n b))) ∧ mQ M M') := by
      intro l d
      induction d with
      | zero =>
        intro n hn M b W
        have e : n = 100 := by omega
        subst e
        refine G_S (pc := 23) f_267_23 rfl rfl rfl ?_
        refine G_bi (v := nI 100) (pc := 24) f_267_24 (by decide) ?_
        refine G_jgeZ (pc := 26) f_267_26 rfl (by first | exact nI_toInt (by omega) | exact zI_toInt (by omega) (by omega) | rfl) (by first | exact nI_toInt (by omega) | exact zI_toInt (by omega) (by omega) | rfl) (fun b2 => ?_) (fun b2 => ?_)
        · refine G_S (pc := 48) f_267_48 rfl rfl rfl ?_
          refine G_ri (pc := 49) f_267_49 ?_
          exact ⟨rfl, mQ.rf⟩
        · exfalso; omega
      | succ d ih =>
        intro n hn M b W
        have W0 := W.1
        have hK := W0.1
        have hH := W0.2
        obtain ⟨⟨a0, a1, a2, a3⟩, hl8, hD, ao⟩ := W0.2
        have hn0 : _ ≤ 8 := hD.1
        have hn1 : _ ≤ 6 := hD.2.1.2
        have hn2 : _ ≤ 8 := hD.2.2.1
        have hS8 := pw2 hn2 hS
        have e : (if n % 2 = 0 then S else S) = S := by split <;> rfl
        have hle := (cmF_le D S (D 0) 0 b).2.1
        refine G_S (pc := 23) f_267_23 rfl rfl rfl ?_
        refine G_bi (v := nI 100) (pc := 24) f_267_24 (by decide) ?_
        refine G_jgeZ (pc := 26) f_267_26 rfl (by first | exact nI_toInt (by omega) | exact zI_toInt (by omega) (by omega) | rfl) (by first | exact nI_toInt (by omega) | exact zI_toInt (by omega) (by omega) | rfl) (fun b2 => ?_) (fun b2 => ?_)
        · exfalso; omega
        · refine G_S (pc := 29) f_267_29 rfl rfl rfl ?_
          refine G_S (pc := 30) f_267_30 rfl rfl rfl ?_
          refine G_ic (v := nI 0) (pc := 31) f_267_31 (by decide) ?_
          refine G_CV (pc := 32) f_267_32 rfl rfl (by decide) rfl rfl (by first | assumption | exact hK.1 _ _ rfl) (by decide) ⟨Nat.le_of_ble_eq_true rfl, Nat.le_of_ble_eq_true rfl⟩ ?_
          refine CG.mono (g_comes0 W hS8) ?_
          rintro _ M1 ⟨rfl, hF, W1⟩
          have W0 := W1.1
          have hK := W0.1
          have hH := W0.2
          obtain ⟨⟨a0, a1, a2, a3⟩, hl8, hD, ao⟩ := W0.2
          have hn0 : _ ≤ 8 := hD.1
          have hn1 : _ ≤ 6 := hD.2.1.2
          have hn2 : _ ≤ 8 := hD.2.2.1
          refine G_S (pc := 35) f_267_35 rfl rfl rfl ?_
          refine G_gIv (pc := 36) f_267_36 (by decide) rfl (by decide) (by first | assumption | exact hK.1 _ _ rfl) (by first | assumption | (repeat (first | exact up2_s | refine up2_o (by first | decide | omega) ?_)) <;> first | assumption | rfl) ?_
          refine G_jneZ (pc := 39) f_267_39 rfl (by first | exact nI_toInt (by omega) | exact zI_toInt (by omega) (by omega) | rfl) (by first | exact nI_toInt (by omega) | exact zI_toInt (by omega) (by omega) | rfl) (fun b3 => ?_) (fun b3 => ?_)
          · refine G_S (pc := 48) f_267_48 rfl rfl rfl ?_
            refine G_ri (pc := 49) f_267_49 ?_
            rw [tnF, e, if_neg (by omega)]
            exact ⟨rfl, hF.q (by decide)⟩
          · first | refine G_inc1 (pc := 42) f_267_42 rfl ?_ | refine G_S (pc := 42) f_267_42 rfl rfl rfl ?_
            refine G_S (pc := 45) f_267_45 rfl rfl rfl ?_
            refine G.mono (ih (n + 1) (by omega) _ _ W1) ?_
            rintro w M9 ⟨g1, g2⟩
            rw [tnF, e, if_pos (by omega)]
            exact ⟨g1, (hF.q (by decide)).tr g2⟩
    refine CG_in (mL := 4) (hl := false) (lv := [some (.ref 98), some (.int k), some (.int (nI S)), none]) (ll := []) rfl rfl rfl ?_
    refine G_S (pc := 0) f_267_0 rfl rfl rfl ?_
    refine G_ic (v := nI 0) (pc := 1) f_267_1 (by decide) ?_
    refine G_pI (pc := 2) f_267_2 rfl (by first | assumption | exact hK.1 _ _ rfl) ?_
    refine G_S (pc := 5) f_267_5 rfl rfl rfl ?_
    refine G_S (pc := 6) f_267_6 rfl rfl rfl ?_
    refine G_S (pc := 7) f_267_7 rfl rfl rfl ?_
    refine G_CV (pc := 8) f_267_8 rfl rfl (by decide) rfl rfl (by first | assumption | exact hK.1 _ _ rfl) (by decide) ⟨Nat.le_of_ble_eq_true rfl, Nat.le_of_ble_eq_true rfl⟩ ?_
    refine CG.mono (g_for1 (W.q mQ.cod) hx) ?_
    rintro _ M1 ⟨rfl, hQ, l, W1⟩
    have hK := W1.1
    have hH := W1.2
    obtain ⟨⟨a0, a1, a2, a3⟩, hl8, hD, ao⟩ := W1.2
    have hn0 : _ ≤ 8 := hD.1
    have hn1 : _ ≤ 6 := hD.2.1.2
    have hn2 : _ ≤ 8 := hD.2.2.1
    first | refine G_bNe (pc := 11) f_267_11 rfl (fun b1 => ?_) (fun b1 => ?_) | refine G_zneZ (pc := 11) f_267_11 rfl (by first | exact nI_toInt (by omega) | exact zI_toInt (by omega) (by omega) | rfl) (fun b1 => ?_) (fun b1 => ?_)
    · refine G_S (pc := 16) f_267_16 rfl rfl rfl ?_
      refine G_ic (v := nI 0) (pc := 17) f_267_17 (by decide) ?_
      refine G_CV (pc := 18) f_267_18 rfl rfl (by decide) rfl rfl (by first | assumption | exact hK.1 _ _ rfl) (by decide) ⟨Nat.le_of_ble_eq_true rfl, Nat.le_of_ble_eq_true rfl⟩ ?_
      refine CG.mono (g_lay W1 nI_z0 (by omega) (by omega)) ?_
      rintro _ M2 ⟨rfl, hF, W2⟩
      refine G_ic (v := nI 0) (pc := 21) f_267_21 (by decide) ?_
      refine G_S (pc := 22) f_267_22 rfl rfl rfl ?_
      refine G.mono (loop l 100 0 rfl M2 _ W2) ?_
      rintro w M9 ⟨g1, g2⟩
      exact ⟨g1, ((mQ.cod.tr hQ).tr (hF.q (by decide))).tr g2⟩
    · exact absurd trivial b1
theorem g_byTurns (W : MLs M n L) : CG C 314 [.ref 98, .int k, .int x, .int y] M (fun w M' => w = some (.int (aTurns (slin n L k x) y)) ∧ mQ M M') := by
  have hK := W.1
  cases hx : slin n L k x with
  | none =>
    refine CG_in (mL := 5) (hl := false) (lv := [some (.ref 98), some (.int k), some (.int x), some (.int y), none]) (ll := []) rfl rfl rfl ?_
    refine G_S (pc := 0) f_314_0 rfl rfl rfl ?_
    refine G_ic (v := nI 0) (pc := 1) f_314_1 (by decide) ?_
    refine G_pI (pc := 2) f_314_2 rfl (by first | assumption | exact hK.1 _ _ rfl) ?_
    refine G_S (pc := 5) f_314_5 rfl rfl rfl ?_
    refine G_S (pc := 6) f_314_6 rfl rfl rfl ?_
    refine G_S (pc := 7) f_314_7 rfl rfl rfl ?_
    refine G_CV (pc := 8) f_314_8 rfl rfl (by decide) rfl rfl (by first | assumption | exact hK.1 _ _ rfl) (by decide) ⟨Nat.le_of_ble_eq_true rfl, Nat.le_of_ble_eq_true rfl⟩ ?_
    refine CG.mono (g_for0 (W.q mQ.cod) hx) ?_
    rintro _ M1 ⟨rfl, hQ⟩
    first | refine G_bEq (pc := 11) f_314_11 rfl (fun b1 => ?_) (fun b1 => ?_) | refine G_zeqZ (pc := 11) f_314_11 rfl (by first | exact nI_toInt (by omega) | exact zI_toInt (by omega) (by omega) | rfl) (fun b1 => ?_) (fun b1 => ?_)
    · refine G_ic (v := zI (-1)) (pc := 29) f_314_29 (by decide) ?_
      refine G_ri (pc := 30) f_314_30 ?_
      exact ⟨rfl, mQ.cod.tr hQ⟩
    · exact absurd b1 id
  | some q =>
    obtain ⟨D, S⟩ := q
    obtain ⟨hl, hx2⟩ := slin_some hx
    obtain ⟨hS, rfl, hse⟩ := sea_some hx2
    cases hy : sea D y with
    | none =>
      refine CG_in (mL := 5) (hl := false) (lv := [some (.ref 98), some (.int k), some (.int (nI S)), some (.int y), none]) (ll := []) rfl rfl rfl ?_
      refine G_S (pc := 0) f_314_0 rfl rfl rfl ?_
      refine G_ic (v := nI 0) (pc := 1) f_314_1 (by decide) ?_
      refine G_pI (pc := 2) f_314_2 rfl (by first | assumption | exact hK.1 _ _ rfl) ?_
      refine G_S (pc := 5) f_314_5 rfl rfl rfl ?_
      refine G_S (pc := 6) f_314_6 rfl rfl rfl ?_
      refine G_S (pc := 7) f_314_7 rfl rfl rfl ?_
      refine G_CV (pc := 8) f_314_8 rfl rfl (by decide) rfl rfl (by first | assumption | exact hK.1 _ _ rfl) (by decide) ⟨Nat.le_of_ble_eq_true rfl, Nat.le_of_ble_eq_true rfl⟩ ?_
      refine CG.mono (g_for1 (W.q mQ.cod) hx) ?_
      rintro _ M1 ⟨rfl, hQ, l, W1⟩
      have hK := W1.1
      have hH := W1.2
      obtain ⟨⟨a0, a1, a2, a3⟩, hl8, hD, ao⟩ := W1.2
      have hn0 : _ ≤ 8 := hD.1
      have hn1 : _ ≤ 6 := hD.2.1.2
      have hn2 : _ ≤ 8 := hD.2.2.1
      first | refine G_bEq (pc := 11) f_314_11 rfl (fun b1 => ?_) (fun b1 => ?_) | refine G_zeqZ (pc := 11) f_314_11 rfl (by first | exact nI_toInt (by omega) | exact zI_toInt (by omega) (by omega) | rfl) (fun b1 => ?_) (fun b1 => ?_)
      · exact absurd trivial b1
      · refine G_S (pc := 14) f_314_14 rfl rfl rfl ?_
        refine G_S (pc := 15) f_314_15 rfl rfl rfl ?_
        refine G_S (pc := 16) f_314_16 rfl rfl rfl ?_
        refine G_CV (pc := 17) f_314_17 rfl rfl (by decide) rfl rfl (by first | assumption | exact hK.1 _ _ rfl) (by decide) ⟨Nat.le_of_ble_eq_true rfl, Nat.le_of_ble_eq_true rfl⟩ ?_
        refine CG.mono (g_seatedN (W.q (mQ.cod.tr hQ)) hl hy) ?_
        rintro _ M2 ⟨rfl, hQ2⟩
        first | refine G_bEq (pc := 20) f_314_20 rfl (fun b2 => ?_) (fun b2 => ?_) | refine G_zeqZ (pc := 20) f_314_20 rfl (by first | exact nI_toInt (by omega) | exact zI_toInt (by omega) (by omega) | rfl) (fun b2 => ?_) (fun b2 => ?_)
        · refine G_ic (v := zI (-1)) (pc := 29) f_314_29 (by decide) ?_
          refine G_ri (pc := 30) f_314_30 ?_
          unfold aTurns
          dsimp only
          rw [hy]
          exact ⟨rfl, (mQ.cod.tr hQ).tr hQ2⟩
        · exact absurd b2 id
    | some T =>
      obtain ⟨hT, rfl, hse2⟩ := sea_some hy
      have loop : ∀ l d n, n + d = 100 → ∀ M b, MB M l D b → G C 314 (39, [some (.ref 98), some (.int k), some (.int (nI S)), some (.int (nI T)), some (.int (nI n))], [], [], M) (fun w M' => w = some (.int (nI (tnF D S T d n b))) ∧ mQ M M') := by
        intro l d
        induction d with
        | zero =>
          intro n hn M b W
          have e : n = 100 := by omega
          subst e
          refine G_S (pc := 39) f_314_39 rfl rfl rfl ?_
          refine G_bi (v := nI 100) (pc := 41) f_314_41 (by decide) ?_
          refine G_jgeZ (pc := 43) f_314_43 rfl (by first | exact nI_toInt (by omega) | exact zI_toInt (by omega) (by omega) | rfl) (by first | exact nI_toInt (by omega) | exact zI_toInt (by omega) (by omega) | rfl) (fun b4 => ?_) (fun b4 => ?_)
          · refine G_S (pc := 76) f_314_76 rfl rfl rfl ?_
            refine G_ri (pc := 78) f_314_78 ?_
            exact ⟨rfl, mQ.rf⟩
          · exfalso; omega
        | succ d ih =>
          intro n hn M b W
          have W0 := W.1
          have hK := W0.1
          have hH := W0.2
          obtain ⟨⟨a0, a1, a2, a3⟩, hl8, hD, ao⟩ := W0.2
          have hn0 : _ ≤ 8 := hD.1
          have hn1 : _ ≤ 6 := hD.2.1.2
          have hn2 : _ ≤ 8 := hD.2.2.1
          have hS8 := pw2 hn2 hS
          have hT8 := pw2 hn2 hT
          refine G_S (pc := 39) f_314_39 rfl rfl rfl ?_
          refine G_bi (v := nI 100) (pc := 41) f_314_41 (by decide) ?_
          refine G_jgeZ (pc := 43) f_314_43 rfl (by first | exact nI_toInt (by omega) | exact zI_toInt (by omega) (by omega) | rfl) (by first | exact nI_toInt (by omega) | exact zI_toInt (by omega) (by omega) | rfl) (fun b4 => ?_) (fun b4 => ?_)
          · exfalso; omega
          · refine G_S (pc := 46) f_314_46 rfl rfl rfl ?_
            refine G_S (pc := 47) f_314_47 rfl rfl rfl ?_
            refine G_ic (v := nI 2) (pc := 49) f_314_49 (by decide) ?_
            refine G_remN (pc := 50) f_314_50 (by omega) (by omega) (by omega) ?_
            first | refine G_bNe (pc := 51) f_314_51 rfl (fun b5 => ?_) (fun b5 => ?_) | refine G_zneZ (pc := 51) f_314_51 rfl (by first | exact nI_toInt (by omega) | exact zI_toInt (by omega) (by omega) | rfl) (fun b5 => ?_) (fun b5 => ?_)
            · have e : (if n % 2 = 0 then S else T) = T := if_neg (by omega)
              have hle := (cmF_le D T (D 0) 0 b).2.1
              refine G_S (pc := 58) f_314_58 rfl rfl rfl ?_
              refine G_ic (v := nI 0) (pc := 59) f_314_59 (by decide) ?_
              refine G_CV (pc := 60) f_314_60 rfl rfl (by decide) rfl rfl (by first | assumption | exact hK.1 _ _ rfl) (by decide) ⟨Nat.le_of_ble_eq_true rfl, Nat.le_of_ble_eq_true rfl⟩ ?_
              refine CG.mono ((by first | exact g_comes0 W hS8 | exact g_comes0 W hT8)) ?_
              rintro _ M1 ⟨rfl, hF, W1⟩
              have W0 := W1.1
              have hK := W0.1
              have hH := W0.2
              obtain ⟨⟨a0, a1, a2, a3⟩, hl8, hD, ao⟩ := W0.2
              have hn0 : _ ≤ 8 := hD.1
              have hn1 : _ ≤ 6 := hD.2.1.2
              have hn2 : _ ≤ 8 := hD.2.2.1
              refine G_S (pc := 63) f_314_63 rfl rfl rfl ?_
              refine G_gIv (pc := 64) f_314_64 (by decide) rfl (by decide) (by first | assumption | exact hK.1 _ _ rfl) (by first | assumption | (repeat (first | exact up2_s | refine up2_o (by first | decide | omega) ?_)) <;> first | assumption | rfl) ?_
              refine G_jneZ (pc := 67) f_314_67 rfl (by first | exact nI_toInt (by omega) | exact zI_toInt (by omega) (by omega) | rfl) (by first | exact nI_toInt (by omega) | exact zI_toInt (by omega) (by omega) | rfl) (fun b6 => ?_) (fun b6 => ?_)
              · refine G_S (pc := 76) f_314_76 rfl rfl rfl ?_
                refine G_ri (pc := 78) f_314_78 ?_
                rw [tnF, e, if_neg (by omega)]
                exact ⟨rfl, hF.q (by decide)⟩
              · first | refine G_inc1 (pc := 70) f_314_70 rfl ?_ | refine G_S (pc := 70) f_314_70 rfl rfl rfl ?_
                refine G_S (pc := 73) f_314_73 rfl rfl rfl ?_
                refine G.mono (ih (n + 1) (by omega) _ _ W1) ?_
                rintro w M9 ⟨g1, g2⟩
                rw [tnF, e, if_pos (by omega)]
                exact ⟨g1, (hF.q (by decide)).tr g2⟩
            · have e : (if n % 2 = 0 then S else T) = S := if_pos (by omega)
              have hle := (cmF_le D S (D 0) 0 b).2.1
              refine G_S (pc := 54) f_314_54 rfl rfl rfl ?_
              refine G_S (pc := 55) f_314_55 rfl rfl rfl ?_
              refine G_ic (v := nI 0) (pc := 59) f_314_59 (by decide) ?_
              refine G_CV (pc := 60) f_314_60 rfl rfl (by decide) rfl rfl (by first | assumption | exact hK.1 _ _ rfl) (by decide) ⟨Nat.le_of_ble_eq_true rfl, Nat.le_of_ble_eq_true rfl⟩ ?_
              refine CG.mono ((by first | exact g_comes0 W hS8 | exact g_comes0 W hT8)) ?_
              rintro _ M1 ⟨rfl, hF, W1⟩
              have W0 := W1.1
              have hK := W0.1
              have hH := W0.2
              obtain ⟨⟨a0, a1, a2, a3⟩, hl8, hD, ao⟩ := W0.2
              have hn0 : _ ≤ 8 := hD.1
              have hn1 : _ ≤ 6 := hD.2.1.2
              have hn2 : _ ≤ 8 := hD.2.2.1
              refine G_S (pc := 63) f_314_63 rfl rfl rfl ?_
              refine G_gIv (pc := 64) f_314_64 (by decide) rfl (by decide) (by first | assumption | exact hK.1 _ _ rfl) (by first | assumption | (repeat (first | exact up2_s | refine up2_o (by first | decide | omega) ?_)) <;> first | assumption | rfl) ?_
              refine G_jneZ (pc := 67) f_314_67 rfl (by first | exact nI_toInt (by omega) | exact zI_toInt (by omega) (by omega) | rfl) (by first | exact nI_toInt (by omega) | exact zI_toInt (by omega) (by omega) | rfl) (fun b6 => ?_) (fun b6 => ?_)
              · refine G_S (pc := 76) f_314_76 rfl rfl rfl ?_
                refine G_ri (pc := 78) f_314_78 ?_
                rw [tnF, e, if_neg (by omega)]
                exact ⟨rfl, hF.q (by decide)⟩
              · first | refine G_inc1 (pc := 70) f_314_70 rfl ?_ | refine G_S (pc := 70) f_314_70 rfl rfl rfl ?_
                refine G_S (pc := 73) f_314_73 rfl rfl rfl ?_
                refine G.mono (ih (n + 1) (by omega) _ _ W1) ?_
                rintro w M9 ⟨g1, g2⟩
                rw [tnF, e, if_pos (by omega)]
                exact ⟨g1, (hF.q (by decide)).tr g2⟩
      refine CG_in (mL := 5) (hl := false) (lv := [some (.ref 98), some (.int k), some (.int (nI S)), some (.int (nI T)), none]) (ll := []) rfl rfl rfl ?_
      refine G_S (pc := 0) f_314_0 rfl rfl rfl ?_
      refine G_ic (v := nI 0) (pc := 1) f_314_1 (by decide) ?_
      refine G_pI (pc := 2) f_314_2 rfl (by first | assumption | exact hK.1 _ _ rfl) ?_
      refine G_S (pc := 5) f_314_5 rfl rfl rfl ?_
      refine G_S (pc := 6) f_314_6 rfl rfl rfl ?_
      refine G_S (pc := 7) f_314_7 rfl rfl rfl ?_
      refine G_CV (pc := 8) f_314_8 rfl rfl (by decide) rfl rfl (by first | assumption | exact hK.1 _ _ rfl) (by decide) ⟨Nat.le_of_ble_eq_true rfl, Nat.le_of_ble_eq_true rfl⟩ ?_
      refine CG.mono (g_for1 (W.q mQ.cod) hx) ?_
      rintro _ M1 ⟨rfl, hQ, l, W1⟩
      have hK := W1.1
      have hH := W1.2
      obtain ⟨⟨a0, a1, a2, a3⟩, hl8, hD, ao⟩ := W1.2
      have hn0 : _ ≤ 8 := hD.1
      have hn1 : _ ≤ 6 := hD.2.1.2
      have hn2 : _ ≤ 8 := hD.2.2.1
      first | refine G_bEq (pc := 11) f_314_11 rfl (fun b1 => ?_) (fun b1 => ?_) | refine G_zeqZ (pc := 11) f_314_11 rfl (by first | exact nI_toInt (by omega) | exact zI_toInt (by omega) (by omega) | rfl) (fun b1 => ?_) (fun b1 => ?_)
      · exact absurd trivial b1
      · refine G_S (pc := 14) f_314_14 rfl rfl rfl ?_
        refine G_S (pc := 15) f_314_15 rfl rfl rfl ?_
        refine G_S (pc := 16) f_314_16 rfl rfl rfl ?_
        refine G_CV (pc := 17) f_314_17 rfl rfl (by decide) rfl rfl (by first | assumption | exact hK.1 _ _ rfl) (by decide) ⟨Nat.le_of_ble_eq_true rfl, Nat.le_of_ble_eq_true rfl⟩ ?_
        refine CG.mono (g_seatedS (W.q (mQ.cod.tr hQ)) hl hy) ?_
        rintro _ M2 ⟨rfl, hQ2, l2, W2⟩
        have hK := W2.1
        have hH := W2.2
        obtain ⟨⟨a0, a1, a2, a3⟩, hl8, hD, ao⟩ := W2.2
        have hn0 : _ ≤ 8 := hD.1
        have hn1 : _ ≤ 6 := hD.2.1.2
        have hn2 : _ ≤ 8 := hD.2.2.1
        first | refine G_bEq (pc := 20) f_314_20 rfl (fun b2 => ?_) (fun b2 => ?_) | refine G_zeqZ (pc := 20) f_314_20 rfl (by first | exact nI_toInt (by omega) | exact zI_toInt (by omega) (by omega) | rfl) (fun b2 => ?_) (fun b2 => ?_)
        · exact absurd trivial b2
        · refine G_S (pc := 23) f_314_23 rfl rfl rfl ?_
          refine G_S (pc := 24) f_314_24 rfl rfl rfl ?_
          refine G_S (pc := 25) f_314_25 rfl rfl rfl ?_
          first | refine G_bEq (pc := 26) f_314_26 rfl (fun b3 => ?_) (fun b3 => ?_) | refine G_zeqZ (pc := 26) f_314_26 rfl (by first | exact nI_toInt (by omega) | exact zI_toInt (by omega) (by omega) | rfl) (fun b3 => ?_) (fun b3 => ?_)
          · refine G_S (pc := 31) f_314_31 rfl rfl rfl ?_
            refine G_ic (v := nI 0) (pc := 32) f_314_32 (by decide) ?_
            refine G_CV (pc := 33) f_314_33 rfl rfl (by decide) rfl rfl (by first | assumption | exact hK.1 _ _ rfl) (by decide) ⟨Nat.le_of_ble_eq_true rfl, Nat.le_of_ble_eq_true rfl⟩ ?_
            refine CG.mono (g_lay W2 nI_z0 (by omega) (by omega)) ?_
            rintro _ M3 ⟨rfl, hF, W3⟩
            refine G_ic (v := nI 0) (pc := 36) f_314_36 (by decide) ?_
            refine G_S (pc := 37) f_314_37 rfl rfl rfl ?_
            refine G.mono (loop l2 100 0 rfl M3 _ W3) ?_
            rintro w M9 ⟨g1, g2⟩
            unfold aTurns
            dsimp only
            rw [hy]
            refine ⟨?_, (((mQ.cod.tr hQ).tr hQ2).tr (hF.q (by decide))).tr g2⟩
            rw [g1]
            exact congrArg (fun z => some (Value.int z)) (if_pos b3).symm
          · refine G_ic (v := zI (-1)) (pc := 29) f_314_29 (by decide) ?_
            refine G_ri (pc := 30) f_314_30 ?_
            unfold aTurns
            dsimp only
            rw [hy]
            exact ⟨congrArg (fun z => some (Value.int z)) (if_neg b3).symm, (mQ.cod.tr hQ).tr hQ2⟩
theorem g_comesT (W : MLs M n L) : CG C 257 [.ref 98, .int k, .int x, .int f] M (fun w M' => w = some (.int (aComes (lin n L k) x f)) ∧ mQ M M') := by
  have hK := W.1
  cases hl : lin n L k with
  | none =>
    refine CG_in (mL := 4) (hl := false) (lv := [some (.ref 98), some (.int k), some (.int x), some (.int f)]) (ll := []) rfl rfl rfl ?_
    refine G_S (pc := 0) f_257_0 rfl rfl rfl ?_
    refine G_ic (v := nI 0) (pc := 1) f_257_1 (by decide) ?_
    refine G_pI (pc := 2) f_257_2 rfl (by first | assumption | exact hK.1 _ _ rfl) ?_
    refine G_S (pc := 5) f_257_5 rfl rfl rfl ?_
    refine G_S (pc := 6) f_257_6 rfl rfl rfl ?_
    refine G_CV (pc := 7) f_257_7 rfl rfl (by decide) rfl rfl (by first | assumption | exact hK.1 _ _ rfl) (by decide) ⟨Nat.le_of_ble_eq_true rfl, Nat.le_of_ble_eq_true rfl⟩ ?_
    refine CG.go (g_handN (W.q mQ.cod) hl) ?_
    first | refine G_bEq (pc := 10) f_257_10 rfl (fun b1 => ?_) (fun b1 => ?_) | refine G_zeqZ (pc := 10) f_257_10 rfl (by first | exact nI_toInt (by omega) | exact zI_toInt (by omega) (by omega) | rfl) (fun b1 => ?_) (fun b1 => ?_)
    · refine G_ic (v := zI (-1)) (pc := 33) f_257_33 (by decide) ?_
      refine G_ri (pc := 34) f_257_34 ?_
      exact ⟨rfl, mQ.cod⟩
    · exact absurd b1 id
  | some D =>
    refine CG_in (mL := 4) (hl := false) (lv := [some (.ref 98), some (.int k), some (.int x), some (.int f)]) (ll := []) rfl rfl rfl ?_
    refine G_S (pc := 0) f_257_0 rfl rfl rfl ?_
    refine G_ic (v := nI 0) (pc := 1) f_257_1 (by decide) ?_
    refine G_pI (pc := 2) f_257_2 rfl (by first | assumption | exact hK.1 _ _ rfl) ?_
    refine G_S (pc := 5) f_257_5 rfl rfl rfl ?_
    refine G_S (pc := 6) f_257_6 rfl rfl rfl ?_
    refine G_CV (pc := 7) f_257_7 rfl rfl (by decide) rfl rfl (by first | assumption | exact hK.1 _ _ rfl) (by decide) ⟨Nat.le_of_ble_eq_true rfl, Nat.le_of_ble_eq_true rfl⟩ ?_
    refine CG.mono (g_handS (W.q mQ.cod) hl) ?_
    rintro _ M1 ⟨rfl, hQ, l, W1⟩
    have hK := W1.1
    have hH := W1.2
    obtain ⟨⟨a0, a1, a2, a3⟩, hl8, hD, ao⟩ := W1.2
    have hn0 : _ ≤ 8 := hD.1
    have hn1 : _ ≤ 6 := hD.2.1.2
    have hn2 : _ ≤ 8 := hD.2.2.1
    have hQ := mQ.cod.tr hQ
    first | refine G_bEq (pc := 10) f_257_10 rfl (fun b1 => ?_) (fun b1 => ?_) | refine G_zeqZ (pc := 10) f_257_10 rfl (by first | exact nI_toInt (by omega) | exact zI_toInt (by omega) (by omega) | rfl) (fun b1 => ?_) (fun b1 => ?_)
    · exact absurd trivial b1
    · refine G_S (pc := 13) f_257_13 rfl rfl rfl ?_
      refine G_S (pc := 14) f_257_14 rfl rfl rfl ?_
      refine G_CV (pc := 15) f_257_15 rfl rfl (by decide) rfl rfl (by first | assumption | exact hK.1 _ _ rfl) (by decide) ⟨Nat.le_of_ble_eq_true rfl, Nat.le_of_ble_eq_true rfl⟩ ?_
      refine CG.go (g_isSet W1) ?_
      first | refine G_bEq (pc := 18) f_257_18 rfl (fun b2 => ?_) (fun b2 => ?_) | refine G_zeqZ (pc := 18) f_257_18 rfl (by first | exact nI_toInt (by omega) | exact zI_toInt (by omega) (by omega) | rfl) (fun b2 => ?_) (fun b2 => ?_)
      · refine G_ic (v := zI (-1)) (pc := 33) f_257_33 (by decide) ?_
        refine G_ri (pc := 34) f_257_34 ?_
        unfold aComes
        dsimp only
        first
          | (rw [isN b2]; exact ⟨rfl, hQ⟩)
          | (rw [hS]; exact ⟨congrArg (fun z => some (Value.int z)) (if_neg (by omega)).symm, hQ⟩)
          | (rw [hS]
             refine ⟨?_, (hQ.tr (hF.q (by decide))).tr (hF2.q (by decide))⟩
             rw [nI_toInt (by omega), Int.toNat_natCast]
             exact congrArg (fun z => some (Value.int z)) (if_pos (by omega)).symm)
      · obtain ⟨S, hS⟩ := isY b2
        obtain ⟨hS1, rfl⟩ := isS_some hS
        refine G_S (pc := 21) f_257_21 rfl rfl rfl ?_
        refine G_ic (v := nI 0) (pc := 22) f_257_22 (by decide) ?_
        refine G_S (pc := 23) f_257_23 rfl rfl rfl ?_
        refine G_gIv (pc := 24) f_257_24 (by decide) rfl (by decide) (by first | assumption | exact hK.1 _ _ rfl) (by first | assumption | (repeat (first | exact up2_s | refine up2_o (by first | decide | omega) ?_)) <;> first | assumption | rfl) ?_
        refine G_CS (pc := 27) f_257_27 rfl rfl (by decide) rfl rfl ⟨Nat.le_of_ble_eq_true rfl, Nat.le_of_ble_eq_true rfl⟩ ?_
        refine CG.go (m_inZ (by first | exact nI_toInt (by omega) | exact zI_toInt (by omega) (by omega) | rfl) (by first | exact nI_toInt (by omega) | exact zI_toInt (by omega) (by omega) | rfl) (by first | exact nI_toInt (by omega) | exact zI_toInt (by omega) (by omega) | rfl)) ?_
        first | refine G_bNe (pc := 30) f_257_30 rfl (fun b3 => ?_) (fun b3 => ?_) | refine G_zneZ (pc := 30) f_257_30 rfl (by first | exact nI_toInt (by omega) | exact zI_toInt (by omega) (by omega) | rfl) (fun b3 => ?_) (fun b3 => ?_)
        · obtain ⟨c, hc, rfl⟩ := i_nat (n := D 0 + 1) b3.1 (by omega)
          refine G_S (pc := 35) f_257_35 rfl rfl rfl ?_
          refine G_ic (v := nI 0) (pc := 36) f_257_36 (by decide) ?_
          refine G_CV (pc := 37) f_257_37 rfl rfl (by decide) rfl rfl (by first | assumption | exact hK.1 _ _ rfl) (by decide) ⟨Nat.le_of_ble_eq_true rfl, Nat.le_of_ble_eq_true rfl⟩ ?_
          refine CG.mono (g_lay W1 nI_z0 (by omega) (by omega)) ?_
          rintro _ M2 ⟨rfl, hF, W2⟩
          have hK := W2.1.1
          refine G_S (pc := 40) f_257_40 rfl rfl rfl ?_
          refine G_S (pc := 41) f_257_41 rfl rfl rfl ?_
          refine G_S (pc := 42) f_257_42 rfl rfl rfl ?_
          refine G_CV (pc := 43) f_257_43 rfl rfl (by decide) rfl rfl (by first | assumption | exact hK.1 _ _ rfl) (by decide) ⟨Nat.le_of_ble_eq_true rfl, Nat.le_of_ble_eq_true rfl⟩ ?_
          refine CG.mono (g_comes W2 (pw2 hn2 hS1) (by omega)) ?_
          rintro _ M3 ⟨rfl, hF2, W3⟩
          refine G_ri (pc := 46) f_257_46 ?_
          unfold aComes
          dsimp only
          first
            | (rw [isN b2]; exact ⟨rfl, hQ⟩)
            | (rw [hS]; exact ⟨congrArg (fun z => some (Value.int z)) (if_neg (by omega)).symm, hQ⟩)
            | (rw [hS]
               refine ⟨?_, (hQ.tr (hF.q (by decide))).tr (hF2.q (by decide))⟩
               rw [nI_toInt (by omega), Int.toNat_natCast]
               exact congrArg (fun z => some (Value.int z)) (if_pos (by omega)).symm)
        · refine G_ic (v := zI (-1)) (pc := 33) f_257_33 (by decide) ?_
          refine G_ri (pc := 34) f_257_34 ?_
          unfold aComes
          dsimp only
          first
            | (rw [isN b2]; exact ⟨rfl, hQ⟩)
            | (rw [hS]; exact ⟨congrArg (fun z => some (Value.int z)) (if_neg (by omega)).symm, hQ⟩)
            | (rw [hS]
               refine ⟨?_, (hQ.tr (hF.q (by decide))).tr (hF2.q (by decide))⟩
               rw [nI_toInt (by omega), Int.toNat_natCast]
               exact congrArg (fun z => some (Value.int z)) (if_pos (by omega)).symm)
theorem g_bears (W : MLs M n L) : CG C 310 [.ref 98, .int k, .int x, .int f] M (fun w M' => w = some (.int (aBears (lin n L k) x f)) ∧ mQ M M') := by
  have hK := W.1
  cases hl : lin n L k with
  | none =>
    refine CG_in (mL := 6) (hl := false) (lv := [some (.ref 98), some (.int k), some (.int x), some (.int f), none, none]) (ll := []) rfl rfl rfl ?_
    refine G_S (pc := 0) f_310_0 rfl rfl rfl ?_
    refine G_ic (v := nI 0) (pc := 1) f_310_1 (by decide) ?_
    refine G_pI (pc := 2) f_310_2 rfl (by first | assumption | exact hK.1 _ _ rfl) ?_
    refine G_S (pc := 5) f_310_5 rfl rfl rfl ?_
    refine G_S (pc := 6) f_310_6 rfl rfl rfl ?_
    refine G_CV (pc := 7) f_310_7 rfl rfl (by decide) rfl rfl (by first | assumption | exact hK.1 _ _ rfl) (by decide) ⟨Nat.le_of_ble_eq_true rfl, Nat.le_of_ble_eq_true rfl⟩ ?_
    refine CG.go (g_handN (W.q mQ.cod) hl) ?_
    first | refine G_bEq (pc := 10) f_310_10 rfl (fun b1 => ?_) (fun b1 => ?_) | refine G_zeqZ (pc := 10) f_310_10 rfl (by first | exact nI_toInt (by omega) | exact zI_toInt (by omega) (by omega) | rfl) (fun b1 => ?_) (fun b1 => ?_)
    · refine G_bi (v := zI (-2)) (pc := 48) f_310_48 (by decide) ?_
      refine G_ri (pc := 50) f_310_50 ?_
      exact ⟨rfl, mQ.cod⟩
    · exact absurd b1 id
  | some D =>
    have loop : ∀ S, S < 256 → ∀ l M1, MB M1 l D (endB D S) → ∀ i, i ≤ D 2 → G C 310 (81, [some (.ref 98), some (.int k), some (.int (nI S)), some (.int f), some (.int ((oI (bestF (fun r => S.testBit r) (lastB D S) i)))), some (.int (nI i))], [], [], M1) (fun w M' => w = some (.int (oI (bestF (fun r => S.testBit r) (lastB D S) (D 2)))) ∧ M' = M1) := by
      intro S hS l M1 W1
      have W0 := W1.1
      have hK := W0.1
      have hH := W0.2
      obtain ⟨⟨a0, a1, a2, a3⟩, hl8, hD, ao⟩ := W0.2
      have hn0 : _ ≤ 8 := hD.1
      have hn1 : _ ≤ 6 := hD.2.1.2
      have hn2 : _ ≤ 8 := hD.2.2.1
      refine upto (fun i hi ih => ?_)
      have q1 : ∀ r, r < D 2 → M1.2.1 110 r = nI (endB D S r) := fun r hr => (W1.2 r hr).1
      have q2 : ∀ r, r < D 2 → endB D S r < 256 := fun r hr => (W1.2 r hr).2
      have q3 : ∀ c, bestF (fun r => S.testBit r) (lastB D S) i = some c → c < i ∧ S.testBit c = true := fun c hc => bestF_lt hc
      refine G_S (pc := 81) f_310_81 rfl rfl rfl ?_
      refine G_S (pc := 83) f_310_83 rfl rfl rfl ?_
      refine G_gIv (pc := 84) f_310_84 (by decide) rfl (by decide) (by first | assumption | exact hK.1 _ _ rfl) (by first | assumption | (repeat (first | exact up2_s | refine up2_o (by first | decide | omega) ?_)) <;> first | assumption | rfl) ?_
      refine G_jgeZ (pc := 87) f_310_87 rfl (by first | exact nI_toInt (by omega) | exact zI_toInt (by omega) (by omega) | rfl) (by first | exact nI_toInt (by omega) | exact zI_toInt (by omega) (by omega) | rfl) (fun b7 => ?_) (fun b7 => ?_)
      · refine G_S (pc := 137) f_310_137 rfl rfl rfl ?_
        refine G_ri (pc := 139) f_310_139 ?_
        have e : i = D 2 := by omega
        rw [e]
        exact ⟨rfl, rfl⟩
      · refine G_S (pc := 90) f_310_90 rfl rfl rfl ?_
        refine G_S (pc := 91) f_310_91 rfl rfl rfl ?_
        refine G_CS (pc := 93) f_310_93 rfl rfl (by decide) rfl rfl ⟨Nat.le_of_ble_eq_true rfl, Nat.le_of_ble_eq_true rfl⟩ ?_
        refine CG.go (m_hasN (by omega) (by omega)) ?_
        first | refine G_bEq (pc := 96) f_310_96 rfl (fun b8 => ?_) (fun b8 => ?_) | refine G_zeqZ (pc := 96) f_310_96 rfl (by first | exact nI_toInt (by omega) | exact zI_toInt (by omega) (by omega) | rfl) (fun b8 => ?_) (fun b8 => ?_)
        · refine G_S (pc := 127) f_310_127 rfl rfl rfl ?_
          refine G_S (pc := 129) f_310_129 rfl rfl rfl ?_
          first | refine G_inc1 (pc := 131) f_310_131 rfl ?_ | refine G_S (pc := 131) f_310_131 rfl rfl rfl ?_
          refine G_S (pc := 134) f_310_134 rfl rfl rfl ?_
          have e := ih (by omega)
          first
            | (rw [bestF_no b8] at e; exact e)
            | (rw [bestF_first b8 (oI_m1 (fun c hc => by have := (q3 c hc).1; omega) b9)] at e; exact e)
            | (rw [bestF_new b8 hc (decide_eq_true (by omega))] at e; exact e)
            | (rw [bestF_keep hc (fun q => absurd (of_decide_eq_true q) (by omega))] at e; exact e)
        · refine G_S (pc := 99) f_310_99 rfl rfl rfl ?_
          refine G_ic (v := zI (-1)) (pc := 101) f_310_101 (by decide) ?_
          refine G_jeqZ (pc := 102) f_310_102 rfl (by first | exact nI_toInt (by omega) | exact zI_toInt (by omega) (by omega) | rfl) (by first | exact nI_toInt (by omega) | exact zI_toInt (by omega) (by omega) | rfl) (fun b9 => ?_) (fun b9 => ?_)
          · refine G_S (pc := 122) f_310_122 rfl rfl rfl ?_
            refine G_S (pc := 124) f_310_124 rfl rfl rfl ?_
            refine G_S (pc := 129) f_310_129 rfl rfl rfl ?_
            first | refine G_inc1 (pc := 131) f_310_131 rfl ?_ | refine G_S (pc := 131) f_310_131 rfl rfl rfl ?_
            refine G_S (pc := 134) f_310_134 rfl rfl rfl ?_
            have e := ih (by omega)
            first
              | (rw [bestF_no b8] at e; exact e)
              | (rw [bestF_first b8 (oI_m1 (fun c hc => by have := (q3 c hc).1; omega) b9)] at e; exact e)
              | (rw [bestF_new b8 hc (decide_eq_true (by omega))] at e; exact e)
              | (rw [bestF_keep hc (fun q => absurd (of_decide_eq_true q) (by omega))] at e; exact e)
          · obtain ⟨c, hc⟩ := oI_nn b9
            have hc2 := (q3 c hc).1
            have q4 := q2 c (by omega)
            have q5 := q2 i (by omega)
            rw [hc, oI_some]
            refine G_S (pc := 105) f_310_105 rfl rfl rfl ?_
            refine G_gR (pc := 106) f_310_106 (by decide) rfl (by first | assumption | exact hK.1 _ _ rfl) (by first | assumption | exact hK.2 _ _ _ rfl | (repeat (first | exact up2_s | refine up2_o (by first | decide | omega) ?_)) <;> first | assumption | exact hK.2 _ _ _ rfl) ?_
            refine G_S (pc := 109) f_310_109 rfl rfl rfl ?_
            refine G_iaN (pc := 111) f_310_111 (by first | assumption | exact hK.1 _ _ rfl) (by omega) (by omega) (by first | assumption | exact q1 _ (by omega) | exact q2 _ (by omega) | exact q3 _ (by omega) | exact q4 _ (by omega) | exact q5 _ (by omega) | exact vh _ (by omega) | exact (vr _ (by omega)).1 | exact (vr _ (by omega)).2 | exact vw _ (by omega) | exact vf _ (by omega) (by omega) | rfl) ?_
            refine G_S (pc := 112) f_310_112 rfl rfl rfl ?_
            refine G_gR (pc := 113) f_310_113 (by decide) rfl (by first | assumption | exact hK.1 _ _ rfl) (by first | assumption | exact hK.2 _ _ _ rfl | (repeat (first | exact up2_s | refine up2_o (by first | decide | omega) ?_)) <;> first | assumption | exact hK.2 _ _ _ rfl) ?_
            refine G_S (pc := 116) f_310_116 rfl rfl rfl ?_
            refine G_iaN (pc := 118) f_310_118 (by first | assumption | exact hK.1 _ _ rfl) (by omega) (by omega) (by first | assumption | exact q1 _ (by omega) | exact q2 _ (by omega) | exact q3 _ (by omega) | exact q4 _ (by omega) | exact q5 _ (by omega) | exact vh _ (by omega) | exact (vr _ (by omega)).1 | exact (vr _ (by omega)).2 | exact vw _ (by omega) | exact vf _ (by omega) (by omega) | rfl) ?_
            refine G_jgeZ (pc := 119) f_310_119 rfl (by first | exact nI_toInt (by omega) | exact zI_toInt (by omega) (by omega) | rfl) (by first | exact nI_toInt (by omega) | exact zI_toInt (by omega) (by omega) | rfl) (fun b10 => ?_) (fun b10 => ?_)
            · refine G_S (pc := 127) f_310_127 rfl rfl rfl ?_
              refine G_S (pc := 129) f_310_129 rfl rfl rfl ?_
              first | refine G_inc1 (pc := 131) f_310_131 rfl ?_ | refine G_S (pc := 131) f_310_131 rfl rfl rfl ?_
              refine G_S (pc := 134) f_310_134 rfl rfl rfl ?_
              have e := ih (by omega)
              first
                | (rw [bestF_no b8] at e; exact e)
                | (rw [bestF_first b8 (oI_m1 (fun c hc => by have := (q3 c hc).1; omega) b9)] at e; exact e)
                | (rw [bestF_new b8 hc (decide_eq_true (by omega))] at e; exact e)
                | (rw [bestF_keep hc (fun q => absurd (of_decide_eq_true q) (by omega))] at e; exact e)
            · refine G_S (pc := 122) f_310_122 rfl rfl rfl ?_
              refine G_S (pc := 124) f_310_124 rfl rfl rfl ?_
              refine G_S (pc := 129) f_310_129 rfl rfl rfl ?_
              first | refine G_inc1 (pc := 131) f_310_131 rfl ?_ | refine G_S (pc := 131) f_310_131 rfl rfl rfl ?_
              refine G_S (pc := 134) f_310_134 rfl rfl rfl ?_
              have e := ih (by omega)
              first
                | (rw [bestF_no b8] at e; exact e)
                | (rw [bestF_first b8 (oI_m1 (fun c hc => by have := (q3 c hc).1; omega) b9)] at e; exact e)
                | (rw [bestF_new b8 hc (decide_eq_true (by omega))] at e; exact e)
                | (rw [bestF_keep hc (fun q => absurd (of_decide_eq_true q) (by omega))] at e; exact e)
    by_cases hf : f.toInt = -1
    · refine CG_in (mL := 6) (hl := false) (lv := [some (.ref 98), some (.int k), some (.int x), some (.int f), none, none]) (ll := []) rfl rfl rfl ?_
      refine G_S (pc := 0) f_310_0 rfl rfl rfl ?_
      refine G_ic (v := nI 0) (pc := 1) f_310_1 (by decide) ?_
      refine G_pI (pc := 2) f_310_2 rfl (by first | assumption | exact hK.1 _ _ rfl) ?_
      refine G_S (pc := 5) f_310_5 rfl rfl rfl ?_
      refine G_S (pc := 6) f_310_6 rfl rfl rfl ?_
      refine G_CV (pc := 7) f_310_7 rfl rfl (by decide) rfl rfl (by first | assumption | exact hK.1 _ _ rfl) (by decide) ⟨Nat.le_of_ble_eq_true rfl, Nat.le_of_ble_eq_true rfl⟩ ?_
      refine CG.mono (g_handS (W.q mQ.cod) hl) ?_
      rintro _ M1 ⟨rfl, hQ, l, W1⟩
      have hK := W1.1
      have hH := W1.2
      obtain ⟨⟨a0, a1, a2, a3⟩, hl8, hD, ao⟩ := W1.2
      have hn0 : _ ≤ 8 := hD.1
      have hn1 : _ ≤ 6 := hD.2.1.2
      have hn2 : _ ≤ 8 := hD.2.2.1
      have hQ := mQ.cod.tr hQ
      first | refine G_bEq (pc := 10) f_310_10 rfl (fun b1 => ?_) (fun b1 => ?_) | refine G_zeqZ (pc := 10) f_310_10 rfl (by first | exact nI_toInt (by omega) | exact zI_toInt (by omega) (by omega) | rfl) (fun b1 => ?_) (fun b1 => ?_)
      · exact absurd trivial b1
      · refine G_S (pc := 13) f_310_13 rfl rfl rfl ?_
        refine G_S (pc := 14) f_310_14 rfl rfl rfl ?_
        refine G_CV (pc := 15) f_310_15 rfl rfl (by decide) rfl rfl (by first | assumption | exact hK.1 _ _ rfl) (by decide) ⟨Nat.le_of_ble_eq_true rfl, Nat.le_of_ble_eq_true rfl⟩ ?_
        refine CG.go (g_isSet W1) ?_
        first | refine G_bEq (pc := 18) f_310_18 rfl (fun b2 => ?_) (fun b2 => ?_) | refine G_zeqZ (pc := 18) f_310_18 rfl (by first | exact nI_toInt (by omega) | exact zI_toInt (by omega) (by omega) | rfl) (fun b2 => ?_) (fun b2 => ?_)
        · refine G_bi (v := zI (-2)) (pc := 48) f_310_48 (by decide) ?_
          refine G_ri (pc := 50) f_310_50 ?_
          unfold aBears
          dsimp only
          rw [isN b2]
          exact ⟨rfl, hQ⟩
        · obtain ⟨S, hS⟩ := isY b2
          obtain ⟨hS1, rfl⟩ := isS_some hS
          have hS8 := pw2 hn2 hS1
          refine G_S (pc := 21) f_310_21 rfl rfl rfl ?_
          refine G_ic (v := zI (-1)) (pc := 22) f_310_22 (by decide) ?_
          refine G_jeqZ (pc := 23) f_310_23 rfl (by first | exact nI_toInt (by omega) | exact zI_toInt (by omega) (by omega) | rfl) (by first | exact nI_toInt (by omega) | exact zI_toInt (by omega) (by omega) | rfl) (fun b3 => ?_) (fun b3 => ?_)
          · refine G_S (pc := 51) f_310_51 rfl rfl rfl ?_
            refine G_ic (v := nI 0) (pc := 52) f_310_52 (by decide) ?_
            refine G_CV (pc := 53) f_310_53 rfl rfl (by decide) rfl rfl (by first | assumption | exact hK.1 _ _ rfl) (by decide) ⟨Nat.le_of_ble_eq_true rfl, Nat.le_of_ble_eq_true rfl⟩ ?_
            refine CG.mono (g_lay W1 nI_z0 (by omega) (by omega)) ?_
            rintro _ M2 ⟨rfl, hF, W2⟩
            have hK := W2.1.1
            refine G_S (pc := 56) f_310_56 rfl rfl rfl ?_
            refine G_S (pc := 57) f_310_57 rfl rfl rfl ?_
            refine G_ic (v := nI 0) (pc := 58) f_310_58 (by decide) ?_
            refine G_CV (pc := 59) f_310_59 rfl rfl (by decide) rfl rfl (by first | assumption | exact hK.1 _ _ rfl) (by decide) ⟨Nat.le_of_ble_eq_true rfl, Nat.le_of_ble_eq_true rfl⟩ ?_
            refine CG.mono (g_comes0 W2 hS8) ?_
            rintro _ M3 ⟨rfl, hF2, W3⟩
            have hQ3 := (hQ.tr (hF.q (by decide))).tr (hF2.q (by decide))
            have hK := W3.1.1
            refine G_S (pc := 62) f_310_62 rfl rfl rfl ?_
            refine G_S (pc := 63) f_310_63 rfl rfl rfl ?_
            refine G_ic (v := zI (-1)) (pc := 64) f_310_64 (by decide) ?_
            refine G_jeqZ (pc := 65) f_310_65 rfl (by first | exact nI_toInt (by omega) | exact zI_toInt (by omega) (by omega) | rfl) (by first | exact nI_toInt (by omega) | exact zI_toInt (by omega) (by omega) | rfl) (fun b6 => ?_) (fun b6 => ?_)
            · refine G_ic (v := zI (-1)) (pc := 75) f_310_75 (by decide) ?_
              refine G_S (pc := 76) f_310_76 rfl rfl rfl ?_
              refine G_ic (v := nI 0) (pc := 78) f_310_78 (by decide) ?_
              refine G_S (pc := 79) f_310_79 rfl rfl rfl ?_
              refine G.mono (loop S hS8 l M3 W3 0 (Nat.zero_le _)) ?_
              rintro w M9 ⟨g1, rfl⟩
              unfold aBears
              dsimp only
              rw [hS]
              refine ⟨?_, hQ3⟩
              rw [g1]
              exact congrArg (fun z => some (Value.int z)) (if_pos hf).symm
            · exfalso; omega
          · exfalso; omega
    · refine CG_in (mL := 6) (hl := false) (lv := [some (.ref 98), some (.int k), some (.int x), some (.int f), none, none]) (ll := []) rfl rfl rfl ?_
      refine G_S (pc := 0) f_310_0 rfl rfl rfl ?_
      refine G_ic (v := nI 0) (pc := 1) f_310_1 (by decide) ?_
      refine G_pI (pc := 2) f_310_2 rfl (by first | assumption | exact hK.1 _ _ rfl) ?_
      refine G_S (pc := 5) f_310_5 rfl rfl rfl ?_
      refine G_S (pc := 6) f_310_6 rfl rfl rfl ?_
      refine G_CV (pc := 7) f_310_7 rfl rfl (by decide) rfl rfl (by first | assumption | exact hK.1 _ _ rfl) (by decide) ⟨Nat.le_of_ble_eq_true rfl, Nat.le_of_ble_eq_true rfl⟩ ?_
      refine CG.mono (g_handS (W.q mQ.cod) hl) ?_
      rintro _ M1 ⟨rfl, hQ, l, W1⟩
      have hK := W1.1
      have hH := W1.2
      obtain ⟨⟨a0, a1, a2, a3⟩, hl8, hD, ao⟩ := W1.2
      have hn0 : _ ≤ 8 := hD.1
      have hn1 : _ ≤ 6 := hD.2.1.2
      have hn2 : _ ≤ 8 := hD.2.2.1
      have hQ := mQ.cod.tr hQ
      first | refine G_bEq (pc := 10) f_310_10 rfl (fun b1 => ?_) (fun b1 => ?_) | refine G_zeqZ (pc := 10) f_310_10 rfl (by first | exact nI_toInt (by omega) | exact zI_toInt (by omega) (by omega) | rfl) (fun b1 => ?_) (fun b1 => ?_)
      · exact absurd trivial b1
      · refine G_S (pc := 13) f_310_13 rfl rfl rfl ?_
        refine G_S (pc := 14) f_310_14 rfl rfl rfl ?_
        refine G_CV (pc := 15) f_310_15 rfl rfl (by decide) rfl rfl (by first | assumption | exact hK.1 _ _ rfl) (by decide) ⟨Nat.le_of_ble_eq_true rfl, Nat.le_of_ble_eq_true rfl⟩ ?_
        refine CG.go (g_isSet W1) ?_
        first | refine G_bEq (pc := 18) f_310_18 rfl (fun b2 => ?_) (fun b2 => ?_) | refine G_zeqZ (pc := 18) f_310_18 rfl (by first | exact nI_toInt (by omega) | exact zI_toInt (by omega) (by omega) | rfl) (fun b2 => ?_) (fun b2 => ?_)
        · refine G_bi (v := zI (-2)) (pc := 48) f_310_48 (by decide) ?_
          refine G_ri (pc := 50) f_310_50 ?_
          unfold aBears
          dsimp only
          first
            | (rw [isN b2]; exact ⟨rfl, hQ⟩)
            | (rw [hS]; dsimp only; rw [if_neg hf, if_neg (fun q => absurd q.1 (by omega))]; exact ⟨rfl, hQ⟩)
            | (rw [hS]; dsimp only; rw [nI_toInt (by omega), Int.toNat_natCast, if_neg (by omega), if_pos ⟨by omega, b5⟩]; exact ⟨rfl, hQ3⟩)
            | (rw [hS]; dsimp only; rw [nI_toInt (by omega), Int.toNat_natCast, if_neg (by omega), if_neg (fun q => b5 q.2)]; exact ⟨rfl, hQ⟩)
        · obtain ⟨S, hS⟩ := isY b2
          obtain ⟨hS1, rfl⟩ := isS_some hS
          have hS8 := pw2 hn2 hS1
          refine G_S (pc := 21) f_310_21 rfl rfl rfl ?_
          refine G_ic (v := zI (-1)) (pc := 22) f_310_22 (by decide) ?_
          refine G_jeqZ (pc := 23) f_310_23 rfl (by first | exact nI_toInt (by omega) | exact zI_toInt (by omega) (by omega) | rfl) (by first | exact nI_toInt (by omega) | exact zI_toInt (by omega) (by omega) | rfl) (fun b3 => ?_) (fun b3 => ?_)
          · exfalso; omega
          · refine G_S (pc := 26) f_310_26 rfl rfl rfl ?_
            refine G_ic (v := nI 0) (pc := 27) f_310_27 (by decide) ?_
            refine G_S (pc := 28) f_310_28 rfl rfl rfl ?_
            refine G_gIv (pc := 29) f_310_29 (by decide) rfl (by decide) (by first | assumption | exact hK.1 _ _ rfl) (by first | assumption | (repeat (first | exact up2_s | refine up2_o (by first | decide | omega) ?_)) <;> first | assumption | rfl) ?_
            refine G_ic (v := nI 1) (pc := 32) f_310_32 (by decide) ?_
            first | refine G_subN (pc := 33) f_310_33 (by omega) ?_ | refine G_subZ (pc := 33) f_310_33 (by first | rfl | exact nI_zI _) (by first | rfl | exact nI_zI _) ?_ | refine G_S (pc := 33) f_310_33 rfl rfl rfl ?_
            refine G_CS (pc := 34) f_310_34 rfl rfl (by decide) rfl rfl ⟨Nat.le_of_ble_eq_true rfl, Nat.le_of_ble_eq_true rfl⟩ ?_
            refine CG.go (m_inZ (by first | exact nI_toInt (by omega) | exact zI_toInt (by omega) (by omega) | rfl) (by first | exact nI_toInt (by omega) | exact zI_toInt (by omega) (by omega) | rfl) (by first | exact nI_toInt (by omega) | exact zI_toInt (by omega) (by omega) | rfl)) ?_
            first | refine G_bEq (pc := 37) f_310_37 rfl (fun b4 => ?_) (fun b4 => ?_) | refine G_zeqZ (pc := 37) f_310_37 rfl (by first | exact nI_toInt (by omega) | exact zI_toInt (by omega) (by omega) | rfl) (fun b4 => ?_) (fun b4 => ?_)
            · refine G_bi (v := zI (-2)) (pc := 48) f_310_48 (by decide) ?_
              refine G_ri (pc := 50) f_310_50 ?_
              unfold aBears
              dsimp only
              first
                | (rw [isN b2]; exact ⟨rfl, hQ⟩)
                | (rw [hS]; dsimp only; rw [if_neg hf, if_neg (fun q => absurd q.1 (by omega))]; exact ⟨rfl, hQ⟩)
                | (rw [hS]; dsimp only; rw [nI_toInt (by omega), Int.toNat_natCast, if_neg (by omega), if_pos ⟨by omega, b5⟩]; exact ⟨rfl, hQ3⟩)
                | (rw [hS]; dsimp only; rw [nI_toInt (by omega), Int.toNat_natCast, if_neg (by omega), if_neg (fun q => b5 q.2)]; exact ⟨rfl, hQ⟩)
            · obtain ⟨c, hc, rfl⟩ := i_nat (n := D 2) b4.1 (by omega)
              refine G_S (pc := 40) f_310_40 rfl rfl rfl ?_
              refine G_S (pc := 41) f_310_41 rfl rfl rfl ?_
              refine G_CS (pc := 42) f_310_42 rfl rfl (by decide) rfl rfl ⟨Nat.le_of_ble_eq_true rfl, Nat.le_of_ble_eq_true rfl⟩ ?_
              refine CG.go (m_hasN (by omega) (by omega)) ?_
              first | refine G_bNe (pc := 45) f_310_45 rfl (fun b5 => ?_) (fun b5 => ?_) | refine G_zneZ (pc := 45) f_310_45 rfl (by first | exact nI_toInt (by omega) | exact zI_toInt (by omega) (by omega) | rfl) (fun b5 => ?_) (fun b5 => ?_)
              · refine G_S (pc := 51) f_310_51 rfl rfl rfl ?_
                refine G_ic (v := nI 0) (pc := 52) f_310_52 (by decide) ?_
                refine G_CV (pc := 53) f_310_53 rfl rfl (by decide) rfl rfl (by first | assumption | exact hK.1 _ _ rfl) (by decide) ⟨Nat.le_of_ble_eq_true rfl, Nat.le_of_ble_eq_true rfl⟩ ?_
                refine CG.mono (g_lay W1 nI_z0 (by omega) (by omega)) ?_
                rintro _ M2 ⟨rfl, hF, W2⟩
                have hK := W2.1.1
                refine G_S (pc := 56) f_310_56 rfl rfl rfl ?_
                refine G_S (pc := 57) f_310_57 rfl rfl rfl ?_
                refine G_ic (v := nI 0) (pc := 58) f_310_58 (by decide) ?_
                refine G_CV (pc := 59) f_310_59 rfl rfl (by decide) rfl rfl (by first | assumption | exact hK.1 _ _ rfl) (by decide) ⟨Nat.le_of_ble_eq_true rfl, Nat.le_of_ble_eq_true rfl⟩ ?_
                refine CG.mono (g_comes0 W2 hS8) ?_
                rintro _ M3 ⟨rfl, hF2, W3⟩
                have hQ3 := (hQ.tr (hF.q (by decide))).tr (hF2.q (by decide))
                have hK := W3.1.1
                have q1 : ∀ r, r < D 2 → M3.2.1 110 r = nI (endB D S r) := fun r hr => (W3.2 r hr).1
                refine G_S (pc := 62) f_310_62 rfl rfl rfl ?_
                refine G_S (pc := 63) f_310_63 rfl rfl rfl ?_
                refine G_ic (v := zI (-1)) (pc := 64) f_310_64 (by decide) ?_
                refine G_jeqZ (pc := 65) f_310_65 rfl (by first | exact nI_toInt (by omega) | exact zI_toInt (by omega) (by omega) | rfl) (by first | exact nI_toInt (by omega) | exact zI_toInt (by omega) (by omega) | rfl) (fun b6 => ?_) (fun b6 => ?_)
                · exfalso; omega
                · refine G_S (pc := 68) f_310_68 rfl rfl rfl ?_
                  refine G_gR (pc := 69) f_310_69 (by decide) rfl (by first | assumption | exact hK.1 _ _ rfl) (by first | assumption | exact hK.2 _ _ _ rfl | (repeat (first | exact up2_s | refine up2_o (by first | decide | omega) ?_)) <;> first | assumption | exact hK.2 _ _ _ rfl) ?_
                  refine G_S (pc := 72) f_310_72 rfl rfl rfl ?_
                  refine G_iaN (pc := 73) f_310_73 (by first | assumption | exact hK.1 _ _ rfl) (by omega) (by omega) (by first | assumption | exact q1 _ (by omega) | exact q2 _ (by omega) | exact q3 _ (by omega) | exact q4 _ (by omega) | exact q5 _ (by omega) | exact vh _ (by omega) | exact (vr _ (by omega)).1 | exact (vr _ (by omega)).2 | exact vw _ (by omega) | exact vf _ (by omega) (by omega) | rfl) ?_
                  refine G_ri (pc := 74) f_310_74 ?_
                  unfold aBears
                  dsimp only
                  first
                    | (rw [isN b2]; exact ⟨rfl, hQ⟩)
                    | (rw [hS]; dsimp only; rw [if_neg hf, if_neg (fun q => absurd q.1 (by omega))]; exact ⟨rfl, hQ⟩)
                    | (rw [hS]; dsimp only; rw [nI_toInt (by omega), Int.toNat_natCast, if_neg (by omega), if_pos ⟨by omega, b5⟩]; exact ⟨rfl, hQ3⟩)
                    | (rw [hS]; dsimp only; rw [nI_toInt (by omega), Int.toNat_natCast, if_neg (by omega), if_neg (fun q => b5 q.2)]; exact ⟨rfl, hQ⟩)
              · refine G_bi (v := zI (-2)) (pc := 48) f_310_48 (by decide) ?_
                refine G_ri (pc := 50) f_310_50 ?_
                unfold aBears
                dsimp only
                first
                  | (rw [isN b2]; exact ⟨rfl, hQ⟩)
                  | (rw [hS]; dsimp only; rw [if_neg hf, if_neg (fun q => absurd q.1 (by omega))]; exact ⟨rfl, hQ⟩)
                  | (rw [hS]; dsimp only; rw [nI_toInt (by omega), Int.toNat_natCast, if_neg (by omega), if_pos ⟨by omega, b5⟩]; exact ⟨rfl, hQ3⟩)
                  | (rw [hS]; dsimp only; rw [nI_toInt (by omega), Int.toNat_natCast, if_neg (by omega), if_neg (fun q => b5 q.2)]; exact ⟨rfl, hQ⟩)
theorem g_slack (W : MLs M n L) : CG C 316 [.ref 98, .int k, .int x, .int y] M (fun w M' => w = some (.int (aFor (slin n L k x) (fun D S => slkF D S y))) ∧ mQ M M') := by
  have hK := W.1
  cases hx : slin n L k x with
  | none =>
    refine CG_in (mL := 8) (hl := false) (lv := [some (.ref 98), some (.int k), some (.int x), some (.int y), none, none, none, none]) (ll := []) rfl rfl rfl ?_
    refine G_S (pc := 0) f_316_0 rfl rfl rfl ?_
    refine G_ic (v := nI 0) (pc := 1) f_316_1 (by decide) ?_
    refine G_pI (pc := 2) f_316_2 rfl (by first | assumption | exact hK.1 _ _ rfl) ?_
    refine G_S (pc := 5) f_316_5 rfl rfl rfl ?_
    refine G_S (pc := 6) f_316_6 rfl rfl rfl ?_
    refine G_S (pc := 7) f_316_7 rfl rfl rfl ?_
    refine G_CV (pc := 8) f_316_8 rfl rfl (by decide) rfl rfl (by first | assumption | exact hK.1 _ _ rfl) (by decide) ⟨Nat.le_of_ble_eq_true rfl, Nat.le_of_ble_eq_true rfl⟩ ?_
    refine CG.mono (g_for0 (W.q mQ.cod) hx) ?_
    rintro _ M1 ⟨rfl, hQ⟩
    first | refine G_bEq (pc := 11) f_316_11 rfl (fun b1 => ?_) (fun b1 => ?_) | refine G_zeqZ (pc := 11) f_316_11 rfl (by first | exact nI_toInt (by omega) | exact zI_toInt (by omega) (by omega) | rfl) (fun b1 => ?_) (fun b1 => ?_)
    · refine G_ic (v := zI (-1)) (pc := 30) f_316_30 (by decide) ?_
      refine G_ri (pc := 31) f_316_31 ?_
      exact ⟨rfl, mQ.cod.tr hQ⟩
    · exact absurd b1 id
  | some q =>
    obtain ⟨D, S⟩ := q
    obtain ⟨hS, rfl, hse⟩ := sea_some (slin_some hx).2
    have loop : gB D S 0 = true → D 0 ≠ 0 → ∀ l i, i ≤ D 0 → ∀ M1 a, MB M1 l D (itw D S i) → G C 316 (48, [some (.ref 98), some (.int k), some (.int (nI S)), some (.int y), some (.int ((lsI D S (zI 1000000) (bestF (fun _ => true) (slkB D S) i)))), some (.int ((oI (bestF (fun _ => true) (slkB D S) i)))), some (.int (nI i)), a], [], [], M1) (fun w M' => w = some (.int (slkF D S y)) ∧ mQ M1 M') := by
      intro hg hd0 l
      refine upto (fun i hi ih M1 a W1 => ?_)
      have W0 := W1.1
      have hK := W0.1
      have hH := W0.2
      obtain ⟨⟨a0, a1, a2, a3⟩, hl8, hD, ao⟩ := W0.2
      have hn0 : _ ≤ 8 := hD.1
      have hn1 : _ ≤ 6 := hD.2.1.2
      have hn2 : _ ≤ 8 := hD.2.2.1
      have hS8 := pw2 hn2 hS
      have q3 : ∀ c, bestF (fun _ => true) (slkB D S) i = some c → c < i ∧ true = true := fun c hc => bestF_lt hc
      have ho : i < D 0 → -100 ≤ ovF D S i ∧ ovF D S i ≤ 5000 := fun q => ov_le hD (by omega)
      have he : ovF D S i = (plS D (itw D S i) S (D 2) : Int) - (D (3 + i) : Int) := rfl
      have hls : (lsI D S (zI 1000000) (bestF (fun _ => true) (slkB D S) i)).toInt = (match bestF (fun _ => true) (slkB D S) i with
          | none => 1000000
          | some c => ovF D S c) := by
        cases hb : bestF (fun _ => true) (slkB D S) i with
        | none => rfl
        | some c =>
          have ho2 := ov_le (S := S) hD (j := c) (by have := (q3 c hb).1; omega)
          exact zI_toInt (by omega) (by omega)
      have hpl : i < D 0 → plS D (itw D S i) S (D 2) ≤ 5000 := fun q => by
        have := plS_le D (b := itw D S i) (S := S) (n := D 2) (fun r _ => by have := itw_le D S i r; omega)
        omega
      have hhi : i < D 0 → D (3 + i) ≤ 99 := fun q => hD.2.2.2.1 i (by omega)
      refine G_S (pc := 48) f_316_48 rfl rfl rfl ?_
      refine G_S (pc := 50) f_316_50 rfl rfl rfl ?_
      refine G_gIv (pc := 51) f_316_51 (by decide) rfl (by decide) (by first | assumption | exact hK.1 _ _ rfl) (by first | assumption | (repeat (first | exact up2_s | refine up2_o (by first | decide | omega) ?_)) <;> first | assumption | rfl) ?_
      refine G_jgeZ (pc := 54) f_316_54 rfl (by first | exact nI_toInt (by omega) | exact zI_toInt (by omega) (by omega) | rfl) (by first | exact nI_toInt (by omega) | exact zI_toInt (by omega) (by omega) | rfl) (fun b4 => ?_) (fun b4 => ?_)
      · refine G_S (pc := 109) f_316_109 rfl rfl rfl ?_
        first | refine G_bEq (pc := 110) f_316_110 rfl (fun b6 => ?_) (fun b6 => ?_) | refine G_zeqZ (pc := 110) f_316_110 rfl (by first | exact nI_toInt (by omega) | exact zI_toInt (by omega) (by omega) | rfl) (fun b6 => ?_) (fun b6 => ?_)
        · refine G_S (pc := 118) f_316_118 rfl rfl rfl ?_
          refine G_ri (pc := 120) f_316_120 ?_
          refine ⟨?_, mQ.rf⟩
          congr 2
          unfold slkF
          have e : i = D 0 := by omega
          subst e
          rw [if_pos hg]
          cases hb : bestF (fun _ => true) (slkB D S) (D 0) with
          | none =>
            obtain ⟨d, hd⟩ : ∃ d, D 0 = d + 1 := ⟨D 0 - 1, by omega⟩
            rw [hd, bestF] at hb
            split at hb
            · cases hb
            · split at hb <;> cases hb
          | some c => first | exact (if_pos b6).symm | exact (if_neg b6).symm
        · refine G_S (pc := 113) f_316_113 rfl rfl rfl ?_
          refine G_S (pc := 115) f_316_115 rfl rfl rfl ?_
          refine G_ri (pc := 120) f_316_120 ?_
          refine ⟨?_, mQ.rf⟩
          congr 2
          unfold slkF
          have e : i = D 0 := by omega
          subst e
          rw [if_pos hg]
          cases hb : bestF (fun _ => true) (slkB D S) (D 0) with
          | none =>
            obtain ⟨d, hd⟩ : ∃ d, D 0 = d + 1 := ⟨D 0 - 1, by omega⟩
            rw [hd, bestF] at hb
            split at hb
            · cases hb
            · split at hb <;> cases hb
          | some c => first | exact (if_pos b6).symm | exact (if_neg b6).symm
      · have ho := ho (by omega)
        have hpl := hpl (by omega)
        have hhi := hhi (by omega)
        refine G_S (pc := 57) f_316_57 rfl rfl rfl ?_
        refine G_S (pc := 58) f_316_58 rfl rfl rfl ?_
        refine G_CV (pc := 59) f_316_59 rfl rfl (by decide) rfl rfl (by first | assumption | exact hK.1 _ _ rfl) (by decide) ⟨Nat.le_of_ble_eq_true rfl, Nat.le_of_ble_eq_true rfl⟩ ?_
        refine CG.go (g_pull W1 hS8) ?_
        refine G_S (pc := 62) f_316_62 rfl rfl rfl ?_
        refine G_ic (v := nI 3) (pc := 63) f_316_63 (by decide) ?_
        refine G_S (pc := 64) f_316_64 rfl rfl rfl ?_
        first | refine G_addN (pc := 66) f_316_66 ?_ | refine G_addZ (pc := 66) f_316_66 (by first | rfl | exact nI_zI _) (by first | rfl | exact nI_zI _) ?_ | refine G_S (pc := 66) f_316_66 rfl rfl rfl ?_
        refine G_CV (pc := 67) f_316_67 rfl rfl (by decide) rfl rfl (by first | assumption | exact hK.1 _ _ rfl) (by decide) ⟨Nat.le_of_ble_eq_true rfl, Nat.le_of_ble_eq_true rfl⟩ ?_
        refine CG.go (m_ofD hK hH (by omega)) ?_
        first | refine G_subN (pc := 70) f_316_70 (by omega) ?_ | refine G_subZ (pc := 70) f_316_70 (by first | rfl | exact nI_zI _) (by first | rfl | exact nI_zI _) ?_ | refine G_S (pc := 70) f_316_70 rfl rfl rfl ?_
        refine G_S (pc := 71) f_316_71 rfl rfl rfl ?_
        refine G_S (pc := 73) f_316_73 rfl rfl rfl ?_
        refine G_S (pc := 75) f_316_75 rfl rfl rfl ?_
        refine G_jgeZ (pc := 77) f_316_77 rfl (by first | exact nI_toInt (by omega) | exact zI_toInt (by omega) (by omega) | rfl) hls (fun b5 => ?_) (fun b5 => ?_)
        · refine G_S (pc := 85) f_316_85 rfl rfl rfl ?_
          refine G_S (pc := 87) f_316_87 rfl rfl rfl ?_
          refine G_S (pc := 89) f_316_89 rfl rfl rfl ?_
          refine G_S (pc := 91) f_316_91 rfl rfl rfl ?_
          refine G_CS (pc := 93) f_316_93 rfl rfl (by decide) rfl rfl ⟨Nat.le_of_ble_eq_true rfl, Nat.le_of_ble_eq_true rfl⟩ ?_
          refine CG.go (m_lesserZ hls (zI_toInt (by omega) (by omega))) ?_
          refine G_S (pc := 96) f_316_96 rfl rfl rfl ?_
          refine G_S (pc := 98) f_316_98 rfl rfl rfl ?_
          refine G_S (pc := 99) f_316_99 rfl rfl rfl ?_
          refine G_CV (pc := 100) f_316_100 rfl rfl (by decide) rfl rfl (by first | assumption | exact hK.1 _ _ rfl) (by decide) ⟨Nat.le_of_ble_eq_true rfl, Nat.le_of_ble_eq_true rfl⟩ ?_
          refine CG.mono (g_wears W1 hS8) ?_
          rintro _ M2 ⟨rfl, hF, W2⟩
          first | refine G_inc1 (pc := 103) f_316_103 rfl ?_ | refine G_S (pc := 103) f_316_103 rfl rfl rfl ?_
          refine G_S (pc := 106) f_316_106 rfl rfl rfl ?_
          have e := ih (by omega) M2 (some (.int (zI (ovF D S i)))) W2
          refine G.mono (Q := fun w M' => w = some (.int (slkF D S y)) ∧ mQ M2 M') ?_ (fun w M9 g => ⟨g.1, (hF.q (by decide)).tr g.2⟩)
          cases hb : bestF (fun _ => true) (slkB D S) i with
          | none =>
            rw [bestF_first rfl hb] at e
            rw [hb] at b5
            dsimp only at b5 ⊢
            first
              | (exfalso; omega)
              | (rw [show min (1000000 : Int) ((plS D (itw D S i) S (D 2) : Int) - (D (3 + i) : Int)) = ovF D S i by omega]
                 exact e)
          | some c =>
            rw [hb] at b5
            dsimp only at b5 ⊢
            first
              | (rw [bestF_new rfl hb (decide_eq_true (by omega))] at e
                 rw [show min (ovF D S c) ((plS D (itw D S i) S (D 2) : Int) - (D (3 + i) : Int)) = ovF D S i by omega]
                 exact e)
              | (rw [bestF_keep hb (fun q => absurd (of_decide_eq_true q) (by omega))] at e
                 rw [show min (ovF D S c) ((plS D (itw D S i) S (D 2) : Int) - (D (3 + i) : Int)) = ovF D S c by omega]
                 exact e)
        · refine G_S (pc := 80) f_316_80 rfl rfl rfl ?_
          refine G_S (pc := 82) f_316_82 rfl rfl rfl ?_
          refine G_S (pc := 87) f_316_87 rfl rfl rfl ?_
          refine G_S (pc := 89) f_316_89 rfl rfl rfl ?_
          refine G_S (pc := 91) f_316_91 rfl rfl rfl ?_
          refine G_CS (pc := 93) f_316_93 rfl rfl (by decide) rfl rfl ⟨Nat.le_of_ble_eq_true rfl, Nat.le_of_ble_eq_true rfl⟩ ?_
          refine CG.go (m_lesserZ hls (zI_toInt (by omega) (by omega))) ?_
          refine G_S (pc := 96) f_316_96 rfl rfl rfl ?_
          refine G_S (pc := 98) f_316_98 rfl rfl rfl ?_
          refine G_S (pc := 99) f_316_99 rfl rfl rfl ?_
          refine G_CV (pc := 100) f_316_100 rfl rfl (by decide) rfl rfl (by first | assumption | exact hK.1 _ _ rfl) (by decide) ⟨Nat.le_of_ble_eq_true rfl, Nat.le_of_ble_eq_true rfl⟩ ?_
          refine CG.mono (g_wears W1 hS8) ?_
          rintro _ M2 ⟨rfl, hF, W2⟩
          first | refine G_inc1 (pc := 103) f_316_103 rfl ?_ | refine G_S (pc := 103) f_316_103 rfl rfl rfl ?_
          refine G_S (pc := 106) f_316_106 rfl rfl rfl ?_
          have e := ih (by omega) M2 (some (.int (zI (ovF D S i)))) W2
          refine G.mono (Q := fun w M' => w = some (.int (slkF D S y)) ∧ mQ M2 M') ?_ (fun w M9 g => ⟨g.1, (hF.q (by decide)).tr g.2⟩)
          cases hb : bestF (fun _ => true) (slkB D S) i with
          | none =>
            rw [bestF_first rfl hb] at e
            rw [hb] at b5
            dsimp only at b5 ⊢
            first
              | (exfalso; omega)
              | (rw [show min (1000000 : Int) ((plS D (itw D S i) S (D 2) : Int) - (D (3 + i) : Int)) = ovF D S i by omega]
                 exact e)
          | some c =>
            rw [hb] at b5
            dsimp only at b5 ⊢
            first
              | (rw [bestF_new rfl hb (decide_eq_true (by omega))] at e
                 rw [show min (ovF D S c) ((plS D (itw D S i) S (D 2) : Int) - (D (3 + i) : Int)) = ovF D S i by omega]
                 exact e)
              | (rw [bestF_keep hb (fun q => absurd (of_decide_eq_true q) (by omega))] at e
                 rw [show min (ovF D S c) ((plS D (itw D S i) S (D 2) : Int) - (D (3 + i) : Int)) = ovF D S c by omega]
                 exact e)
    refine CG_in (mL := 8) (hl := false) (lv := [some (.ref 98), some (.int k), some (.int (nI S)), some (.int y), none, none, none, none]) (ll := []) rfl rfl rfl ?_
    refine G_S (pc := 0) f_316_0 rfl rfl rfl ?_
    refine G_ic (v := nI 0) (pc := 1) f_316_1 (by decide) ?_
    refine G_pI (pc := 2) f_316_2 rfl (by first | assumption | exact hK.1 _ _ rfl) ?_
    refine G_S (pc := 5) f_316_5 rfl rfl rfl ?_
    refine G_S (pc := 6) f_316_6 rfl rfl rfl ?_
    refine G_S (pc := 7) f_316_7 rfl rfl rfl ?_
    refine G_CV (pc := 8) f_316_8 rfl rfl (by decide) rfl rfl (by first | assumption | exact hK.1 _ _ rfl) (by decide) ⟨Nat.le_of_ble_eq_true rfl, Nat.le_of_ble_eq_true rfl⟩ ?_
    refine CG.mono (g_for1 (W.q mQ.cod) hx) ?_
    rintro _ M1 ⟨rfl, hQ, l, W1⟩
    have hK := W1.1
    have hH := W1.2
    obtain ⟨⟨a0, a1, a2, a3⟩, hl8, hD, ao⟩ := W1.2
    have hn0 : _ ≤ 8 := hD.1
    have hn1 : _ ≤ 6 := hD.2.1.2
    have hn2 : _ ≤ 8 := hD.2.2.1
    first | refine G_bEq (pc := 11) f_316_11 rfl (fun b1 => ?_) (fun b1 => ?_) | refine G_zeqZ (pc := 11) f_316_11 rfl (by first | exact nI_toInt (by omega) | exact zI_toInt (by omega) (by omega) | rfl) (fun b1 => ?_) (fun b1 => ?_)
    · exact absurd trivial b1
    · refine G_S (pc := 14) f_316_14 rfl rfl rfl ?_
      refine G_gIv (pc := 15) f_316_15 (by decide) rfl (by decide) (by first | assumption | exact hK.1 _ _ rfl) (by first | assumption | (repeat (first | exact up2_s | refine up2_o (by first | decide | omega) ?_)) <;> first | assumption | rfl) ?_
      first | refine G_bEq (pc := 18) f_316_18 rfl (fun b2 => ?_) (fun b2 => ?_) | refine G_zeqZ (pc := 18) f_316_18 rfl (by first | exact nI_toInt (by omega) | exact zI_toInt (by omega) (by omega) | rfl) (fun b2 => ?_) (fun b2 => ?_)
      · refine G_ic (v := zI (-1)) (pc := 30) f_316_30 (by decide) ?_
        refine G_ri (pc := 31) f_316_31 ?_
        show _ = some (Value.int (slkF D S y)) ∧ _
        unfold slkF
        first
          | (rw [if_neg b3]; exact ⟨rfl, (mQ.cod.tr hQ).tr (hF.q (by decide))⟩)
          | (refine ⟨?_, mQ.cod.tr hQ⟩
             rw [show D 0 = 0 by omega]
             split <;> rfl)
      · refine G_S (pc := 21) f_316_21 rfl rfl rfl ?_
        refine G_S (pc := 22) f_316_22 rfl rfl rfl ?_
        refine G_ic (v := nI 0) (pc := 23) f_316_23 (by decide) ?_
        refine G_CV (pc := 24) f_316_24 rfl rfl (by decide) rfl rfl (by first | assumption | exact hK.1 _ _ rfl) (by decide) ⟨Nat.le_of_ble_eq_true rfl, Nat.le_of_ble_eq_true rfl⟩ ?_
        refine CG.mono (g_up W1 (pw2 hn2 hS) nI_z0 (by omega) (by omega)) ?_
        rintro _ M2 ⟨rfl, hF, W2⟩
        have hK := W2.1
        first | refine G_bNe (pc := 27) f_316_27 rfl (fun b3 => ?_) (fun b3 => ?_) | refine G_zneZ (pc := 27) f_316_27 rfl (by first | exact nI_toInt (by omega) | exact zI_toInt (by omega) (by omega) | rfl) (fun b3 => ?_) (fun b3 => ?_)
        · refine G_S (pc := 32) f_316_32 rfl rfl rfl ?_
          refine G_ic (v := nI 0) (pc := 33) f_316_33 (by decide) ?_
          refine G_CV (pc := 34) f_316_34 rfl rfl (by decide) rfl rfl (by first | assumption | exact hK.1 _ _ rfl) (by decide) ⟨Nat.le_of_ble_eq_true rfl, Nat.le_of_ble_eq_true rfl⟩ ?_
          refine CG.mono (g_lay W2 nI_z0 (by omega) (by omega)) ?_
          rintro _ M3 ⟨rfl, hF2, W3⟩
          have hQ2 := ((mQ.cod.tr hQ).tr (hF.q (by decide))).tr (hF2.q (by decide))
          refine G_lc (v := zI 1000000) (pc := 37) f_316_37 rfl (by decide) ?_
          refine G_S (pc := 40) f_316_40 rfl rfl rfl ?_
          refine G_ic (v := zI (-1)) (pc := 42) f_316_42 (by decide) ?_
          refine G_S (pc := 43) f_316_43 rfl rfl rfl ?_
          refine G_ic (v := nI 0) (pc := 45) f_316_45 (by decide) ?_
          refine G_S (pc := 46) f_316_46 rfl rfl rfl ?_
          refine G.mono (loop b3 (by omega) l 0 (Nat.zero_le _) M3 none W3) ?_
          rintro w M9 ⟨g1, g2⟩
          exact ⟨g1, hQ2.tr g2⟩
        · refine G_ic (v := zI (-1)) (pc := 30) f_316_30 (by decide) ?_
          refine G_ri (pc := 31) f_316_31 ?_
          show _ = some (Value.int (slkF D S y)) ∧ _
          unfold slkF
          first
            | (rw [if_neg b3]; exact ⟨rfl, (mQ.cod.tr hQ).tr (hF.q (by decide))⟩)
            | (refine ⟨?_, mQ.cod.tr hQ⟩
               rw [show D 0 = 0 by omega]
               split <;> rfl)
end MD
