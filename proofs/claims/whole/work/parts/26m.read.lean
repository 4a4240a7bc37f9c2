/-! c_read once more: what a sight names is there -/
section CRS
variable {C : Ct} {M : Mm} {t : Nat → Int} {n p so : Nat} {E : Nat → Int} {f : Nat × Nat}
def RDq (t : Nat → Int) (n so : Nat) (M : Mm) (w : Option Value) (M' : Mm) : Prop := w = none ∧ Fc RRo M M' ∧ FRd M' (rdF t n so).1 ∧ ((rdF t n so).1.1 = 0 → CDt M' so (rdF t n so).2 ∧ (so = 3 → ¬ 2 ^ ((rdF t n so).2 0).toNat ≤ orS (rdF t n so).2 ((rdF t n so).2 1).toNat))
theorem c_readS (hC : CK C) (hK : KM M.1 M.2.2.2) (hM : M.1.length ≤ 600000) (hn : n ≤ 600) (ht : ∀ i, i < n → M.2.1 2 i = zI (t i) ∧ -128 ≤ t i ∧ t i < 128) (hs : so < 4) : CG C 70 [.ref 53, .ref 2, .int (nI n), .int (nI so)] M (RDq t n so M) := by
  have Fq : ∀ {N N' : Mm}, Fp 53 RSo RSf N N' → Fc RRo N N' := fun h => h.c (by decide) (by decide)
  have fin : ∀ f M1, Fc RRo M M1 → KTp M1 t n → FRd M1 f → ∀ E T, (f.1 = 0 → CDt M1 so E) → (f.1 = 0 → so = 3 → T = orS E (E 1).toNat) → (f.1 = 1 → rdF t n so = (f, E0 so)) → (f.1 ≠ 1 → rdF t n so = if f.1 = 0 ∧ so = 3 ∧ 2 ^ (E 0).toNat ≤ T then ((4, n), E) else (f, E)) → ∀ v, G C 70 (93, [some (.ref 53), some (.ref 2), some (.int (nI n)), some (.int (nI so)), v], [], [], M1) (RDq t n so M) := by
    intro f M1 hF W1 hf E T hD hT r1 r2 v
    have hK := W1.1
    have v7 := W1.2.2.2.1
    have h4 := hf.1
    have hf4 := hf.2.2
    by_cases h0 : f.1 = 0
    · by_cases h3 : so = 3
      · subst h3
        have hD3 := (hD h0).2.2.2 rfl
        have hTT := hT h0 rfl
        have e1 := hD3.2.2.1
        have tt := c_tooMany (C := C) hK hD3.1 hD3.2
        have tm : (leastF (tmP E) (E 1).toNat 0).isSome = true ↔ 2 ^ (E 0).toNat ≤ T := by
          rw [leastF_is, hTT, orS_tm]
        refine G_S (pc := 93) f_70_93 rfl rfl rfl ?_
        refine G_gIv (pc := 94) f_70_94 (by decide) rfl (by decide) (by first | assumption | exact hK.1 _ _ rfl) (by first | assumption | exact mI_s | ((refine mI_o (by first | decide | omega) ?_); (repeat (refine mI_o (by first | decide | omega) ?_)); first | exact mI_s | assumption) | rfl) ?_
        first | refine G_bNe (pc := 97) f_70_97 rfl (fun b5 => ?_) (fun b5 => ?_) | refine G_zneZ (pc := 97) f_70_97 rfl (by first | exact nI_toInt (by omega) | exact zI_toInt (by omega) (by omega) | rfl) (fun b5 => ?_) (fun b5 => ?_)
        · exfalso; omega
        · refine G_S (pc := 100) f_70_100 rfl rfl rfl ?_
          refine G_ic (v := nI 3) (pc := 101) f_70_101 (by decide) ?_
          refine G_jneZ (pc := 102) f_70_102 rfl (by first | exact nI_toInt (by omega) | exact zI_toInt (by omega) (by omega) | rfl) (by first | exact nI_toInt (by omega) | exact zI_toInt (by omega) (by omega) | rfl) (fun b6 => ?_) (fun b6 => ?_)
          · exact absurd rfl b6
          · refine G_S (pc := 105) f_70_105 rfl rfl rfl ?_
            refine G_gR (pc := 106) f_70_106 (by decide) rfl (by first | assumption | exact hK.1 _ _ rfl) (by first | assumption | exact hK.2 _ _ _ rfl | (try dsimp only) <;> (repeat (first | exact up2_s | refine up2_o (by first | decide | omega) ?_)) <;> first | assumption | exact hK.2 _ _ _ rfl) ?_
            refine G_CV (pc := 109) f_70_109 rfl rfl (by decide) rfl rfl (by first | assumption | exact hK.1 _ _ rfl) (by decide) ⟨Nat.le_of_ble_eq_true rfl, Nat.le_of_ble_eq_true rfl⟩ ?_
            refine CG.go (tt) ?_
            first | refine G_bEq (pc := 112) f_70_112 rfl (fun b7 => ?_) (fun b7 => ?_) | refine G_zeqZ (pc := 112) f_70_112 rfl (by first | exact nI_toInt (by omega) | exact zI_toInt (by omega) (by omega) | rfl) (fun b7 => ?_) (fun b7 => ?_)
            · refine G_rv (pc := 124) f_70_124 ?_
              unfold RDq
              first
                | (rw [r2 (by omega), if_neg (fun z => b7 (tm.mpr z.2.2))]
                   exact ⟨rfl, hF, hf, fun z => ⟨hD z, fun _ y => b7 (tm.mpr (by rw [hTT]; exact y))⟩⟩)
                | (rw [r2 (by omega), if_pos ⟨h0, rfl, tm.mp b7⟩]
                   have e : nt f true 4 n = (4, n) := if_pos ⟨h0, rfl⟩
                   rw [e] at hf2
                   exact ⟨rfl, hF.tr (Fq (hF2.sub (by decide) (by decide))), hf2, fun z => absurd (show (4 : Nat) = 0 from z) (by decide)⟩)
            · refine G_S (pc := 115) f_70_115 rfl rfl rfl ?_
              refine G_ic (v := nI 4) (pc := 116) f_70_116 (by decide) ?_
              refine G_S (pc := 117) f_70_117 rfl rfl rfl ?_
              refine G_gIv (pc := 118) f_70_118 (by decide) rfl (by decide) (by first | assumption | exact hK.1 _ _ rfl) (by first | assumption | exact mI_s | ((refine mI_o (by first | decide | omega) ?_); (repeat (refine mI_o (by first | decide | omega) ?_)); first | exact mI_s | assumption) | rfl) ?_
              refine G_CV (pc := 121) f_70_121 rfl rfl (by decide) rfl rfl (by first | assumption | exact hK.1 _ _ rfl) (by decide) ⟨Nat.le_of_ble_eq_true rfl, Nat.le_of_ble_eq_true rfl⟩ ?_
              refine CG.mono (c_note hK hf (by decide) (by decide)) ?_
              rintro _ M2 ⟨rfl, hF2, hf2⟩
              refine G_rv (pc := 124) f_70_124 ?_
              unfold RDq
              first
                | (rw [r2 (by omega), if_neg (fun z => b7 (tm.mpr z.2.2))]
                   exact ⟨rfl, hF, hf, fun z => ⟨hD z, fun _ y => b7 (tm.mpr (by rw [hTT]; exact y))⟩⟩)
                | (rw [r2 (by omega), if_pos ⟨h0, rfl, tm.mp b7⟩]
                   have e : nt f true 4 n = (4, n) := if_pos ⟨h0, rfl⟩
                   rw [e] at hf2
                   exact ⟨rfl, hF.tr (Fq (hF2.sub (by decide) (by decide))), hf2, fun z => absurd (show (4 : Nat) = 0 from z) (by decide)⟩)
      · refine G_S (pc := 93) f_70_93 rfl rfl rfl ?_
        refine G_gIv (pc := 94) f_70_94 (by decide) rfl (by decide) (by first | assumption | exact hK.1 _ _ rfl) (by first | assumption | exact mI_s | ((refine mI_o (by first | decide | omega) ?_); (repeat (refine mI_o (by first | decide | omega) ?_)); first | exact mI_s | assumption) | rfl) ?_
        first | refine G_bNe (pc := 97) f_70_97 rfl (fun b5 => ?_) (fun b5 => ?_) | refine G_zneZ (pc := 97) f_70_97 rfl (by first | exact nI_toInt (by omega) | exact zI_toInt (by omega) (by omega) | rfl) (fun b5 => ?_) (fun b5 => ?_)
        · exfalso; omega
        · refine G_S (pc := 100) f_70_100 rfl rfl rfl ?_
          refine G_ic (v := nI 3) (pc := 101) f_70_101 (by decide) ?_
          refine G_jneZ (pc := 102) f_70_102 rfl (by first | exact nI_toInt (by omega) | exact zI_toInt (by omega) (by omega) | rfl) (by first | exact nI_toInt (by omega) | exact zI_toInt (by omega) (by omega) | rfl) (fun b6 => ?_) (fun b6 => ?_)
          · refine G_rv (pc := 124) f_70_124 ?_
            unfold RDq
            rw [r2 (by omega), if_neg (fun z => h3 z.2.1)]
            exact ⟨rfl, hF, hf, fun z => ⟨hD z, fun y => absurd y h3⟩⟩
          · exfalso; omega
    · refine G_S (pc := 93) f_70_93 rfl rfl rfl ?_
      refine G_gIv (pc := 94) f_70_94 (by decide) rfl (by decide) (by first | assumption | exact hK.1 _ _ rfl) (by first | assumption | exact mI_s | ((refine mI_o (by first | decide | omega) ?_); (repeat (refine mI_o (by first | decide | omega) ?_)); first | exact mI_s | assumption) | rfl) ?_
      first | refine G_bNe (pc := 97) f_70_97 rfl (fun b5 => ?_) (fun b5 => ?_) | refine G_zneZ (pc := 97) f_70_97 rfl (by first | exact nI_toInt (by omega) | exact zI_toInt (by omega) (by omega) | rfl) (fun b5 => ?_) (fun b5 => ?_)
      · refine G_rv (pc := 124) f_70_124 ?_
        unfold RDq
        by_cases h1 : f.1 = 1
        · rw [r1 h1]
          exact ⟨rfl, hF, hf, fun z => absurd (show f.1 = 0 from z) (by omega)⟩
        · rw [r2 h1, if_neg (fun z => h0 z.1)]
          exact ⟨rfl, hF, hf, fun z => absurd (show f.1 = 0 from z) (by omega)⟩
      · exfalso; omega
  obtain ⟨PS, hPS⟩ : ∃ PS, PS = psF t n so (n + 1) (E0 so) 0 (0, 0) 0 := ⟨_, rfl⟩
  have loop : ∀ k i p f M1 E T, p ≤ n → n - p < k → i ≤ p → Fc RRo M M1 → KTp M1 t n → TCk M1 t n p → FRd M1 f → f.1 ≠ 1 → (f.1 = 0 → CDt M1 so E) → (f.1 = 0 → so = 3 → T = orS E (E 1).toNat) → PS = psF t n so k E T f p → G C 70 (43, [some (.ref 53), some (.ref 2), some (.int (nI n)), some (.int (nI so)), some (.int (nI i))], [], [], M1) (RDq t n so M) := by
    intro k
    induction k with
    | zero =>
      intro i p f M1 E T hp hk
      omega
    | succ k ih =>
      intro i p f M1 E T hp hk hi hF W1 T1 hf h1 hD hT hps
      have hK := W1.1
      have t9 := T1.2.1
      have hk4 := tkK_le t n p
      have h4 := hf.1
      have hf4 := hf.2.2
      rw [psF] at hps
      by_cases h0 : tkK t n p = 0
      · rw [if_pos h0] at hps
        have r2 : rdF t n so = if f.1 = 0 ∧ so = 3 ∧ 2 ^ (E 0).toNat ≤ T then ((4, n), E) else (f, E) := by
          unfold rdF
          rw [← hPS, hps]
        refine G_S (pc := 43) f_70_43 rfl rfl rfl ?_
        refine G_si (v := nI 600) (pc := 45) f_70_45 (by decide) ?_
        refine G_jgtZ (pc := 48) f_70_48 rfl (by first | exact nI_toInt (by omega) | exact zI_toInt (by omega) (by omega) | rfl) (by first | exact nI_toInt (by omega) | exact zI_toInt (by omega) (by omega) | rfl) (fun b1 => ?_) (fun b1 => ?_)
        · exfalso; omega
        · refine G_S (pc := 51) f_70_51 rfl rfl rfl ?_
          refine G_gIv (pc := 52) f_70_52 (by decide) rfl (by decide) (by first | assumption | exact hK.1 _ _ rfl) (by first | assumption | exact mI_s | ((refine mI_o (by first | decide | omega) ?_); (repeat (refine mI_o (by first | decide | omega) ?_)); first | exact mI_s | assumption) | rfl) ?_
          first | refine G_bEq (pc := 55) f_70_55 rfl (fun b2 => ?_) (fun b2 => ?_) | refine G_zeqZ (pc := 55) f_70_55 rfl (by first | exact nI_toInt (by omega) | exact zI_toInt (by omega) (by omega) | rfl) (fun b2 => ?_) (fun b2 => ?_)
          · exact fin f M1 hF W1 hf E T hD hT (fun z => absurd z h1) (fun _ => r2) _
          · exfalso; omega
      · rw [if_neg h0] at hps
        have hx := tk_nx hp h0
        have ts := c_stm (Tt := T) hC W1 T1 hf hp hs hD
        cases hst : stm t n so E T f p with
        | inl e =>
          rw [hst] at ts hps
          have r1 : rdF t n so = ((1, e), E0 so) := by
            unfold rdF
            rw [← hPS, hps]
          refine G_S (pc := 43) f_70_43 rfl rfl rfl ?_
          refine G_si (v := nI 600) (pc := 45) f_70_45 (by decide) ?_
          refine G_jgtZ (pc := 48) f_70_48 rfl (by first | exact nI_toInt (by omega) | exact zI_toInt (by omega) (by omega) | rfl) (by first | exact nI_toInt (by omega) | exact zI_toInt (by omega) (by omega) | rfl) (fun b1 => ?_) (fun b1 => ?_)
          · exfalso; omega
          · refine G_S (pc := 51) f_70_51 rfl rfl rfl ?_
            refine G_gIv (pc := 52) f_70_52 (by decide) rfl (by decide) (by first | assumption | exact hK.1 _ _ rfl) (by first | assumption | exact mI_s | ((refine mI_o (by first | decide | omega) ?_); (repeat (refine mI_o (by first | decide | omega) ?_)); first | exact mI_s | assumption) | rfl) ?_
            first | refine G_bEq (pc := 55) f_70_55 rfl (fun b2 => ?_) (fun b2 => ?_) | refine G_zeqZ (pc := 55) f_70_55 rfl (by first | exact nI_toInt (by omega) | exact zI_toInt (by omega) (by omega) | rfl) (fun b2 => ?_) (fun b2 => ?_)
            · exfalso; omega
            · refine G_S (pc := 58) f_70_58 rfl rfl rfl ?_
              refine G_gIv (pc := 59) f_70_59 (by decide) rfl (by decide) (by first | assumption | exact hK.1 _ _ rfl) (by first | assumption | exact mI_s | ((refine mI_o (by first | decide | omega) ?_); (repeat (refine mI_o (by first | decide | omega) ?_)); first | exact mI_s | assumption) | rfl) ?_
              refine G_ic (v := nI 1) (pc := 62) f_70_62 (by decide) ?_
              refine G_jeqZ (pc := 63) f_70_63 rfl (by first | exact nI_toInt (by omega) | exact zI_toInt (by omega) (by omega) | rfl) (by first | exact nI_toInt (by omega) | exact zI_toInt (by omega) (by omega) | rfl) (fun b3 => ?_) (fun b3 => ?_)
              · exfalso; omega
              · refine G_S (pc := 66) f_70_66 rfl rfl rfl ?_
                refine G_S (pc := 67) f_70_67 rfl rfl rfl ?_
                refine G_CV (pc := 68) f_70_68 rfl rfl (by decide) rfl rfl (by first | assumption | exact hK.1 _ _ rfl) (by decide) ⟨Nat.le_of_ble_eq_true rfl, Nat.le_of_ble_eq_true rfl⟩ ?_
                refine CG.mono (ts) ?_
                rintro _ M2 ⟨hF2, rfl, h10⟩
                have hK := hF2.K hK
                first | refine G_bNe (pc := 71) f_70_71 rfl (fun b4 => ?_) (fun b4 => ?_) | refine G_zneZ (pc := 71) f_70_71 rfl (by first | exact nI_toInt (by omega) | exact zI_toInt (by omega) (by omega) | rfl) (fun b4 => ?_) (fun b4 => ?_)
                · exact absurd b4 id
                · refine G_S (pc := 74) f_70_74 rfl rfl rfl ?_
                  refine G_ic (v := nI 1) (pc := 75) f_70_75 (by decide) ?_
                  refine G_pI (pc := 76) f_70_76 rfl (by first | assumption | exact hK.1 _ _ rfl) ?_
                  refine G_S (pc := 79) f_70_79 rfl rfl rfl ?_
                  refine G_S (pc := 80) f_70_80 rfl rfl rfl ?_
                  refine G_gIv (pc := 81) f_70_81 (by decide) rfl (by decide) (by first | assumption | exact hK.1 _ _ rfl) ((mI_o (by omega) h10)) ?_
                  refine G_pI (pc := 84) f_70_84 rfl (by first | assumption | exact hK.1 _ _ rfl) ?_
                  first | refine G_inc1 (pc := 87) f_70_87 rfl ?_ | refine G_S (pc := 87) f_70_87 rfl rfl rfl ?_
                  refine G_S (pc := 90) f_70_90 rfl rfl rfl ?_
                  have hF3 : Fp 53 RSo RSf M2 (M2.1, up2 (up2 M2.2.1 53 4 (nI 1)) 53 5 (nI e), M2.2.2.1, M2.2.2.2) := (Fp.upf (k := 4) (x := nI 1) (by decide)).tr (Fp.upf (k := 5) (x := nI e) (by decide))
                  have W3 := (W1.fp hF2 (by decide) (by decide)).fp hF3 (by decide) (by decide)
                  have hK := W3.1
                  have g4 : up2 (up2 M2.2.1 53 4 (nI 1)) 53 5 (nI e) 53 4 = nI 1 := (by (try dsimp only); exact up2_o (by omega) (by (try dsimp only); exact up2_s))
                  have hf3 : FRd (M2.1, up2 (up2 M2.2.1 53 4 (nI 1)) 53 5 (nI e), M2.2.2.1, M2.2.2.2) (1, e) := ⟨(by (try dsimp only); exact up2_o (by omega) (by (try dsimp only); exact up2_s)), (by (try dsimp only); exact up2_s), by show 1 ≤ 4; decide⟩
                  have fe1 := fin (1, e) _ ((hF.tr (Fq hF2)).tr (Fq hF3)) W3 hf3 (E0 so) 0 (fun z => absurd (show (1 : Nat) = 0 from z) (by decide)) (fun z => absurd (show (1 : Nat) = 0 from z) (by decide)) (fun _ => r1) (fun z => absurd rfl z)
                  refine G_S (pc := 43) f_70_43 rfl rfl rfl ?_
                  refine G_si (v := nI 600) (pc := 45) f_70_45 (by decide) ?_
                  refine G_jgtZ (pc := 48) f_70_48 rfl (by first | exact nI_toInt (by omega) | exact zI_toInt (by omega) (by omega) | rfl) (by first | exact nI_toInt (by omega) | exact zI_toInt (by omega) (by omega) | rfl) (fun b1 => ?_) (fun b1 => ?_)
                  · exfalso; omega
                  · refine G_S (pc := 51) f_70_51 rfl rfl rfl ?_
                    refine G_gIv (pc := 52) f_70_52 (by decide) rfl (by decide) (by first | assumption | exact hK.1 _ _ rfl) (rfl) ?_
                    refine G_zeq (pc := 55) f_70_55 rfl (fun b2 => ?_) (fun b2 => ?_)
                    · exact fe1 _
                    · refine G_S (pc := 58) f_70_58 rfl rfl rfl ?_
                      refine G_gIv (pc := 59) f_70_59 (by decide) rfl (by decide) (by first | assumption | exact hK.1 _ _ rfl) (by first | assumption | exact mI_s | ((refine mI_o (by first | decide | omega) ?_); (repeat (refine mI_o (by first | decide | omega) ?_)); first | exact mI_s | assumption) | rfl) ?_
                      refine G_ic (v := nI 1) (pc := 62) f_70_62 (by decide) ?_
                      refine G_jeqZ (pc := 63) f_70_63 rfl (by first | exact nI_toInt (by omega) | exact zI_toInt (by omega) (by omega) | rfl) (by first | exact nI_toInt (by omega) | exact zI_toInt (by omega) (by omega) | rfl) (fun b3 => ?_) (fun b3 => ?_)
                      · exact fe1 _
                      · exfalso; omega
        | inr q =>
          rw [hst] at ts hps
          have hb := stm_b hp hst
          have hT' : q.2.1.1 = 0 → so = 3 → q.2.2.2 = orS q.2.2.1 (q.2.2.1 1).toNat := fun z z3 => stm_T z3 (fun y => ⟨((hD y).2.2.2 z3).2, hT y z3⟩) hst z
          have hq1 : q.2.1.1 ≠ 1 := stm_1 h1 hst
          refine G_S (pc := 43) f_70_43 rfl rfl rfl ?_
          refine G_si (v := nI 600) (pc := 45) f_70_45 (by decide) ?_
          refine G_jgtZ (pc := 48) f_70_48 rfl (by first | exact nI_toInt (by omega) | exact zI_toInt (by omega) (by omega) | rfl) (by first | exact nI_toInt (by omega) | exact zI_toInt (by omega) (by omega) | rfl) (fun b1 => ?_) (fun b1 => ?_)
          · exfalso; omega
          · refine G_S (pc := 51) f_70_51 rfl rfl rfl ?_
            refine G_gIv (pc := 52) f_70_52 (by decide) rfl (by decide) (by first | assumption | exact hK.1 _ _ rfl) (by first | assumption | exact mI_s | ((refine mI_o (by first | decide | omega) ?_); (repeat (refine mI_o (by first | decide | omega) ?_)); first | exact mI_s | assumption) | rfl) ?_
            first | refine G_bEq (pc := 55) f_70_55 rfl (fun b2 => ?_) (fun b2 => ?_) | refine G_zeqZ (pc := 55) f_70_55 rfl (by first | exact nI_toInt (by omega) | exact zI_toInt (by omega) (by omega) | rfl) (fun b2 => ?_) (fun b2 => ?_)
            · exfalso; omega
            · refine G_S (pc := 58) f_70_58 rfl rfl rfl ?_
              refine G_gIv (pc := 59) f_70_59 (by decide) rfl (by decide) (by first | assumption | exact hK.1 _ _ rfl) (by first | assumption | exact mI_s | ((refine mI_o (by first | decide | omega) ?_); (repeat (refine mI_o (by first | decide | omega) ?_)); first | exact mI_s | assumption) | rfl) ?_
              refine G_ic (v := nI 1) (pc := 62) f_70_62 (by decide) ?_
              refine G_jeqZ (pc := 63) f_70_63 rfl (by first | exact nI_toInt (by omega) | exact zI_toInt (by omega) (by omega) | rfl) (by first | exact nI_toInt (by omega) | exact zI_toInt (by omega) (by omega) | rfl) (fun b3 => ?_) (fun b3 => ?_)
              · exfalso; omega
              · refine G_S (pc := 66) f_70_66 rfl rfl rfl ?_
                refine G_S (pc := 67) f_70_67 rfl rfl rfl ?_
                refine G_CV (pc := 68) f_70_68 rfl rfl (by decide) rfl rfl (by first | assumption | exact hK.1 _ _ rfl) (by decide) ⟨Nat.le_of_ble_eq_true rfl, Nat.le_of_ble_eq_true rfl⟩ ?_
                refine CG.mono (ts) ?_
                rintro _ M2 ⟨hF2, rfl, T2, hf2, hD2⟩
                have hK := hF2.K hK
                first | refine G_bNe (pc := 71) f_70_71 rfl (fun b4 => ?_) (fun b4 => ?_) | refine G_zneZ (pc := 71) f_70_71 rfl (by first | exact nI_toInt (by omega) | exact zI_toInt (by omega) (by omega) | rfl) (fun b4 => ?_) (fun b4 => ?_)
                · first | refine G_inc1 (pc := 87) f_70_87 rfl ?_ | refine G_S (pc := 87) f_70_87 rfl rfl rfl ?_
                  refine G_S (pc := 90) f_70_90 rfl rfl rfl ?_
                  exact ih (i + 1) q.1 q.2.1 M2 q.2.2.1 q.2.2.2 hb.2 (by omega) (by omega) (hF.tr (Fq hF2)) (W1.fp hF2 (by decide) (by decide)) T2 hf2 hq1 hD2 hT' hps
                · exact absurd trivial b4
  have hF1 : Fc RRo M (M.1, up2 (up2 (up2 (up2 M.2.1 53 7 (nI n)) 53 8 (nI 0)) 53 4 (nI 0)) 53 5 (zI (-1)), M.2.2.1, up2 M.2.2.2 53 6 (some 2)) := ((((Fc.upR (i := 53) (k := 6) (x := some 2) (by decide) (by decide)).tr (Fc.up (i := 53) (k := 7) (x := nI n) (by decide))).tr (Fc.up (i := 53) (k := 8) (x := nI 0) (by decide))).tr (Fc.up (i := 53) (k := 4) (x := nI 0) (by decide))).tr (Fc.up (i := 53) (k := 5) (x := zI (-1)) (by decide))
  have hK1 := hF1.K hK
  have W1 : KTp (M.1, up2 (up2 (up2 (up2 M.2.1 53 7 (nI n)) 53 8 (nI 0)) 53 4 (nI 0)) 53 5 (zI (-1)), M.2.2.1, up2 M.2.2.2 53 6 (some 2)) t n := ⟨hK1, hM, (by (try dsimp only); exact up2_s), (by (try dsimp only); exact up2_o (by omega) (by (try dsimp only); exact up2_o (by omega) (by (try dsimp only); exact up2_o (by omega) (by (try dsimp only); exact up2_s)))), hn, fun i hi => ⟨(by (try dsimp only); exact up2_o (by omega) (by (try dsimp only); exact up2_o (by omega) (by (try dsimp only); exact up2_o (by omega) (by (try dsimp only); exact up2_o (by omega) (ht i hi).1)))), (ht i hi).2⟩⟩
  have hf1 : FRd (M.1, up2 (up2 (up2 (up2 M.2.1 53 7 (nI n)) 53 8 (nI 0)) 53 4 (nI 0)) 53 5 (zI (-1)), M.2.2.1, up2 M.2.2.2 53 6 (some 2)) (0, 0) := ⟨(by (try dsimp only); exact up2_o (by omega) (by (try dsimp only); exact up2_s)), (by (try dsimp only); exact up2_s), by show 0 ≤ 4; decide⟩
  refine CG_in (mL := 5) (hl := false) (lv := [some (.ref 53), some (.ref 2), some (.int (nI n)), some (.int (nI so)), none]) (ll := []) rfl rfl rfl ?_
  refine G_S (pc := 0) f_70_0 rfl rfl rfl ?_
  refine G_S (pc := 1) f_70_1 rfl rfl rfl ?_
  refine G_pR (pc := 2) f_70_2 rfl (by first | assumption | exact hK.1 _ _ rfl) (by omega) ?_
  refine G_S (pc := 5) f_70_5 rfl rfl rfl ?_
  refine G_S (pc := 6) f_70_6 rfl rfl rfl ?_
  refine G_ic (v := nI 0) (pc := 7) f_70_7 (by decide) ?_
  refine G_S (pc := 8) f_70_8 rfl rfl rfl ?_
  refine G_len (pc := 9) f_70_9 (by first | assumption | exact hK.1 _ _ rfl) (by decide) ?_
  refine G_CS (pc := 10) f_70_10 rfl rfl (by decide) rfl rfl ⟨Nat.le_of_ble_eq_true rfl, Nat.le_of_ble_eq_true rfl⟩ ?_
  refine CG.go (c_within6 hn) ?_
  refine G_pI (pc := 13) f_70_13 rfl (by first | assumption | exact hK.1 _ _ rfl) ?_
  refine G_S (pc := 16) f_70_16 rfl rfl rfl ?_
  refine G_ic (v := nI 0) (pc := 17) f_70_17 (by decide) ?_
  refine G_pI (pc := 18) f_70_18 rfl (by first | assumption | exact hK.1 _ _ rfl) ?_
  refine G_S (pc := 21) f_70_21 rfl rfl rfl ?_
  refine G_ic (v := nI 0) (pc := 22) f_70_22 (by decide) ?_
  refine G_pI (pc := 23) f_70_23 rfl (by first | assumption | exact hK.1 _ _ rfl) ?_
  refine G_S (pc := 26) f_70_26 rfl rfl rfl ?_
  refine G_ic (v := zI (-1)) (pc := 27) f_70_27 (by decide) ?_
  refine G_pI (pc := 28) f_70_28 rfl (by first | assumption | exact hK.1 _ _ rfl) ?_
  refine G_S (pc := 31) f_70_31 rfl rfl rfl ?_
  refine G_S (pc := 32) f_70_32 rfl rfl rfl ?_
  refine G_CV (pc := 33) f_70_33 rfl rfl (by decide) rfl rfl (by first | assumption | exact hK.1 _ _ rfl) (by decide) ⟨Nat.le_of_ble_eq_true rfl, Nat.le_of_ble_eq_true rfl⟩ ?_
  refine CG.mono (c_clearOf hK1 hs) ?_
  rintro _ M2 ⟨rfl, hF2, hD2⟩
  have W2 := W1.fp hF2 (by decide) (by decide)
  have h8 : M2.2.1 53 8 = nI 0 := by
    rw [hF2.2.2 8 (by decide)]
    exact (by (try dsimp only); exact up2_o (by omega) (by (try dsimp only); exact up2_o (by omega) (by (try dsimp only); exact up2_s)))
  have hK := W2.1
  refine G_S (pc := 36) f_70_36 rfl rfl rfl ?_
  refine G_CV (pc := 37) f_70_37 rfl rfl (by decide) rfl rfl (by first | assumption | exact hK.1 _ _ rfl) (by decide) ⟨Nat.le_of_ble_eq_true rfl, Nat.le_of_ble_eq_true rfl⟩ ?_
  refine CG.mono (c_step W2 h8 (Nat.zero_le _)) ?_
  rintro _ M3 ⟨rfl, hF3, T3⟩
  refine G_ic (v := nI 0) (pc := 40) f_70_40 (by decide) ?_
  refine G_S (pc := 41) f_70_41 rfl rfl rfl ?_
  refine loop (n + 1) 0 0 (0, 0) M3 (E0 so) 0 (Nat.zero_le _) (by omega) (Nat.le_refl _) ((hF1.tr (Fq (hF2.sub (by decide) (by decide)))).tr (Fq (hF3.sub (by decide) (by decide)))) (W2.fp hF3 (by decide) (by decide)) T3 ((hf1.fp hF2 (by decide) (by decide)).fp hF3 (by decide) (by decide)) (by decide) (fun _ => hD2.fp hF3 (by decide)) (fun _ z3 => ?_) hPS
  subst z3
  rfl
end CRS
