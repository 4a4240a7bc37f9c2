/-! the reference's lines, by their first words -/
def KWF : List Int64 := [1751739500, 495622124659, 491394458994, 2003132786, 1717662309, 422775452260, 1836021349, 7300710, 1952803948, 1785686885, 26479, 495672455781, 1650549611, 1852138852, 1668246885, 1835101817, 27985222756885860, 32497584101418340]
theorem kw_f : ∀ g, g < 18 → nL (wk g) = KWF.getD g 0 := by decide +kernel
section MLL
variable {C : Ct} {M : Mm} {t : Nat → Int} {n p T g : Nat} {f : Nat × Nat} {E : Nat → Int} {w : Int64}
theorem LNq.tr {M1 M' : Mm} {r : Sum Nat (Nat × (Nat × Nat) × (Nat → Int) × Nat)} {v : Option Value} (hF : Fp 98 SFo SFs M M1) (h : LNq t n M1 r v M') : LNq t n M r v M' := ⟨hF.tr h.1, h.2⟩
theorem LNx {y : Nat} {as : List Value} {M0 M1 : Mm} {r : Sum Nat (Nat × (Nat × Nat) × (Nat → Int) × Nat)} (h : CG C y as M0 (LNq t n M1 r)) : CG C y as M0 (fun w M' => ∃ x : Int32, w = some (.int x) ∧ (x = 0 ∨ x = 1) ∧ LNq t n M1 r (some (.int x)) M') := by
  refine CG.mono h ?_
  intro w M' hL
  have hL2 := hL
  obtain ⟨hF, hr⟩ := hL
  cases r with
  | inl e =>
    obtain ⟨rfl, _⟩ := hr
    exact ⟨_, rfl, Or.inl rfl, hL2⟩
  | inr q =>
    obtain ⟨rfl, _⟩ := hr
    exact ⟨_, rfl, Or.inr rfl, hL2⟩
theorem m_tokS {M2 : Mm} {b : Bool} (S : MSt M t n p f E T) (hk : tkK t n p ≠ 0) (hF : Fw [] [17, 18] M M2) (hf2 : LRd M2 (nt f b 3 (skp t n p))) : CG C 201 [.ref 98] M2 (fun w M' => w = none ∧ Fp 98 SFo SFs M M' ∧ MSt M' t n (tkR t n p) (nt f b 3 (skp t n p)) E T) := by
  obtain ⟨W, T1, hf, hD, h21, h22, hlt, hp⟩ := S
  have hx := tk_nx hp hk
  refine CG.mono (m_token (W.fp hF.1 (by decide) (by decide)) ((T1.fw hF (by decide) (by decide) (by decide) (by decide)).1) hx.2.2) ?_
  rintro v M' ⟨rfl, hF2, T2⟩
  exact ⟨rfl, (hF.1.sub (by decide) (by decide)).tr (hF2.sub (by decide) (by decide)), (W.fp hF.1 (by decide) (by decide)).fp hF2 (by decide) (by decide), T2, hf2.fp hF2 (by decide) (by decide), (hD.fp hF.1 (by decide)).fp hF2 (by decide), by rw [hF2.2.2 21 (by decide), hF.1.2.2 21 (by decide)]; exact h21, by rw [hF2.2.2 22 (by decide), hF.1.2.2 22 (by decide)]; exact h22, nt_lt hp hk hlt, hx.2.2⟩
theorem m_tok0 (S : MSt M t n p f E T) (hk : tkK t n p ≠ 0) : CG C 201 [.ref 98] M (fun w M' => w = none ∧ Fp 98 SFo SFs M M' ∧ MSt M' t n (tkR t n p) f E T) := by
  have := m_tokS (C := C) (b := false) S hk Fw.rf (by rw [nt_f]; exact S.2.2.1)
  rw [nt_f] at this
  exact this
/-- none of the words of a sort -/
theorem m_fail {w' : Option Value} (S : MSt M t n p f E T) : ∀ {M2 : Mm}, Fw [] [16] M M2 → M2.2.1 98 16 = nI (skp t n p) → LNq t n M (.inl (skp t n p)) (some (.int (b2i (False)))) M2 := fun h1 h2 => LN_no (h1.1.sub (by decide) (by decide)) h2
theorem m_lineN (S : MSt M t n p f E T) (h : ∀ g, g < 5 → ¬ w = nL (wk g)) {at_ : Int32} : CG C 211 [.ref 98, .long w, .int at_] M (LNq t n M (.inl (skp t n p))) := by
  have hK := S.1.1
  have n0 := h 0 (by decide)
  have n1 := h 1 (by decide)
  have n2 := h 2 (by decide)
  have n3 := h 3 (by decide)
  have n4 := h 4 (by decide)
  rw [kw_f 0 (by decide)] at n0
  rw [kw_f 1 (by decide)] at n1
  rw [kw_f 2 (by decide)] at n2
  rw [kw_f 3 (by decide)] at n3
  rw [kw_f 4 (by decide)] at n4
  refine CG_in (mL := 4) (hl := true) (lv := [some (.ref 98), none, none, some (.int at_)]) (ll := [none, some (w), none, none]) rfl rfl rfl ?_
  refine G_S (pc := 0) f_211_0 rfl rfl rfl ?_
  refine G_S (pc := 1) f_211_1 rfl rfl rfl ?_
  refine G_S (pc := 4) f_211_4 rfl rfl rfl ?_
  refine G_zeq (pc := 5) f_211_5 rfl (fun b1 => ?_) (fun b1 => ?_)
  · exact absurd (lc_eq.mp b1) n0
  · refine G_S (pc := 8) f_211_8 rfl rfl rfl ?_
    refine G_S (pc := 9) f_211_9 rfl rfl rfl ?_
    refine G_S (pc := 12) f_211_12 rfl rfl rfl ?_
    refine G_zeq (pc := 13) f_211_13 rfl (fun b2 => ?_) (fun b2 => ?_)
    · exact absurd (lc_eq.mp b2) n1
    · refine G_S (pc := 16) f_211_16 rfl rfl rfl ?_
      refine G_S (pc := 17) f_211_17 rfl rfl rfl ?_
      refine G_S (pc := 20) f_211_20 rfl rfl rfl ?_
      refine G_zeq (pc := 21) f_211_21 rfl (fun b3 => ?_) (fun b3 => ?_)
      · exact absurd (lc_eq.mp b3) n2
      · refine G_S (pc := 24) f_211_24 rfl rfl rfl ?_
        refine G_S (pc := 25) f_211_25 rfl rfl rfl ?_
        refine G_S (pc := 28) f_211_28 rfl rfl rfl ?_
        refine G_zeq (pc := 29) f_211_29 rfl (fun b4 => ?_) (fun b4 => ?_)
        · exact absurd (lc_eq.mp b4) n3
        · refine G_S (pc := 32) f_211_32 rfl rfl rfl ?_
          refine G_S (pc := 33) f_211_33 rfl rfl rfl ?_
          refine G_S (pc := 36) f_211_36 rfl rfl rfl ?_
          refine G_zeq (pc := 37) f_211_37 rfl (fun b5 => ?_) (fun b5 => ?_)
          · exact absurd (lc_eq.mp b5) n4
          · refine G_S (pc := 40) f_211_40 rfl rfl rfl ?_
            refine G_CV (pc := 41) f_211_41 rfl rfl (by decide) rfl rfl (by first | assumption | exact hK.1 _ _ rfl) (by decide) ⟨Nat.le_of_ble_eq_true rfl, Nat.le_of_ble_eq_true rfl⟩ ?_
            refine CG.mono (m_fails hK S.2.1.2.1) ?_
            rintro _ M2 ⟨rfl, hF2, h16⟩
            refine G_rz (pc := 44) f_211_44 (by exact Or.inl rfl) ?_
            exact m_fail (w' := none) S hF2 h16
theorem m_lineL (S : MSt M t n p f E T) (hk : tkK t n p ≠ 0) (hn : skp t n p ≤ 600) (hE0 : 0 ≤ E 0 ∧ E 0 ≤ 8) (hE2 : 0 ≤ E 2 ∧ E 2 ≤ 8) (hg : g < 5) (hw : w = nL (wk g)) : CG C 211 [.ref 98, .long w, .int (nI (skp t n p))] M (LNq t n M (lnS t n g E T (nt f (fulB g E) 3 (skp t n p)) (tkR t n p))) := by
  have hK := S.1.1
  have hf := S.2.2.1
  have hD := S.2.2.2.1
  have hlt := S.2.2.2.2.2.2.1
  subst hw
  rw [kw_f g (by omega)]
  rcases (show g = 0 ∨ g = 1 ∨ g = 2 ∨ g = 3 ∨ g = 4 by omega) with rfl | rfl | rfl | rfl | rfl
  · show CG C 211 [.ref 98, .long 1751739500, .int (nI (skp t n p))] M _
    refine CG_in (mL := 4) (hl := true) (lv := [some (.ref 98), none, none, some (.int (nI (skp t n p)))]) (ll := [none, some (1751739500), none, none]) rfl rfl rfl ?_
    refine G_S (pc := 0) f_211_0 rfl rfl rfl ?_
    refine G_S (pc := 1) f_211_1 rfl rfl rfl ?_
    refine G_S (pc := 4) f_211_4 rfl rfl rfl ?_
    refine G_zeq (pc := 5) f_211_5 rfl (fun b1 => ?_) (fun b1 => ?_)
    · refine G_S (pc := 45) f_211_45 rfl rfl rfl ?_
      refine G_S (pc := 46) f_211_46 rfl rfl rfl ?_
      refine G_S (pc := 49) f_211_49 rfl rfl rfl ?_
      refine G_zne (pc := 50) f_211_50 rfl (fun b6 => ?_) (fun b6 => ?_)
      · first | exact absurd b6 (by decide) | exact absurd (by decide) b6
      · refine G_S (pc := 53) f_211_53 rfl rfl rfl ?_
        refine G_ic (v := nI 0) (pc := 54) f_211_54 (by decide) ?_
        refine G_bi (v := nI 8) (pc := 55) f_211_55 (by decide) ?_
        refine G_S (pc := 57) f_211_57 rfl rfl rfl ?_
        refine G_CV (pc := 58) f_211_58 rfl rfl (by decide) rfl rfl (by first | assumption | exact hK.1 _ _ rfl) (by decide) ⟨Nat.le_of_ble_eq_true rfl, Nat.le_of_ble_eq_true rfl⟩ ?_
        refine CG.mono (m_full hK hf hlt hn hD (by decide) hE0.1 hE0.2 (by decide)) ?_
        rintro _ M2 ⟨rfl, hF2, hf2⟩
        have hK := hF2.1.K hK
        refine G_S (pc := 61) f_211_61 rfl rfl rfl ?_
        refine G_S (pc := 62) f_211_62 rfl rfl rfl ?_
        refine G_S (pc := 65) f_211_65 rfl rfl rfl ?_
        refine G_zne (pc := 66) f_211_66 rfl (fun b7 => ?_) (fun b7 => ?_)
        · refine G_S (pc := 77) f_211_77 rfl rfl rfl ?_
          refine G_CV (pc := 78) f_211_78 rfl rfl (by decide) rfl rfl (by first | assumption | exact hK.1 _ _ rfl) (by decide) ⟨Nat.le_of_ble_eq_true rfl, Nat.le_of_ble_eq_true rfl⟩ ?_
          refine CG.mono (m_tokS S hk hF2 hf2) ?_
          rintro _ M3 ⟨rfl, hF3, S3⟩
          have hK := S3.1.1
          refine G_S (pc := 81) f_211_81 rfl rfl rfl ?_
          refine G_S (pc := 82) f_211_82 rfl rfl rfl ?_
          refine G_S (pc := 85) f_211_85 rfl rfl rfl ?_
          refine G_zeq (pc := 86) f_211_86 rfl (fun b8 => ?_) (fun b8 => ?_)
          · first | exact absurd b8 (by decide) | exact absurd (by decide) b8
          · refine G_S (pc := 89) f_211_89 rfl rfl rfl ?_
            refine G_S (pc := 90) f_211_90 rfl rfl rfl ?_
            refine G_S (pc := 93) f_211_93 rfl rfl rfl ?_
            refine G_zne (pc := 94) f_211_94 rfl (fun b9 => ?_) (fun b9 => ?_)
            · first | exact absurd b9 (by decide) | exact absurd (by decide) b9
            · refine G_S (pc := 97) f_211_97 rfl rfl rfl ?_
              refine G_CV (pc := 98) f_211_98 rfl rfl (by decide) rfl rfl (by first | assumption | exact hK.1 _ _ rfl) (by decide) ⟨Nat.le_of_ble_eq_true rfl, Nat.le_of_ble_eq_true rfl⟩ ?_
              refine CG.mono (LNx (m_hill S3 hE0)) ?_
              rintro _ M4 ⟨x, rfl, h01, L4⟩
              refine G_S (pc := 101) f_211_101 rfl rfl rfl ?_
              refine G_rz (pc := 138) f_211_138 h01 ?_
              exact L4.tr hF3
        · first | exact absurd b7 (by decide) | exact absurd (by decide) b7
    · first | exact absurd b1 (by decide) | exact absurd (by decide) b1
  · show CG C 211 [.ref 98, .long 495622124659, .int (nI (skp t n p))] M _
    have e1 : fulB 1 E = false := rfl
    rw [e1, nt_f, ln_1 (by decide) (by decide), bad_d (lo := 1) (hi := 6) (by decide) (by decide)]
    by_cases h : tkK t n (tkR t n p) = 2
    · rw [if_pos h]
      refine CG_in (mL := 4) (hl := true) (lv := [some (.ref 98), none, none, some (.int (nI (skp t n p)))]) (ll := [none, some (495622124659), none, none]) rfl rfl rfl ?_
      refine G_S (pc := 0) f_211_0 rfl rfl rfl ?_
      refine G_S (pc := 1) f_211_1 rfl rfl rfl ?_
      refine G_S (pc := 4) f_211_4 rfl rfl rfl ?_
      refine G_zeq (pc := 5) f_211_5 rfl (fun b1 => ?_) (fun b1 => ?_)
      · first | exact absurd b1 (by decide) | exact absurd (by decide) b1
      · refine G_S (pc := 8) f_211_8 rfl rfl rfl ?_
        refine G_S (pc := 9) f_211_9 rfl rfl rfl ?_
        refine G_S (pc := 12) f_211_12 rfl rfl rfl ?_
        refine G_zeq (pc := 13) f_211_13 rfl (fun b2 => ?_) (fun b2 => ?_)
        · refine G_S (pc := 45) f_211_45 rfl rfl rfl ?_
          refine G_S (pc := 46) f_211_46 rfl rfl rfl ?_
          refine G_S (pc := 49) f_211_49 rfl rfl rfl ?_
          refine G_zne (pc := 50) f_211_50 rfl (fun b6 => ?_) (fun b6 => ?_)
          · refine G_S (pc := 61) f_211_61 rfl rfl rfl ?_
            refine G_S (pc := 62) f_211_62 rfl rfl rfl ?_
            refine G_S (pc := 65) f_211_65 rfl rfl rfl ?_
            refine G_zne (pc := 66) f_211_66 rfl (fun b7 => ?_) (fun b7 => ?_)
            · refine G_S (pc := 77) f_211_77 rfl rfl rfl ?_
              refine G_CV (pc := 78) f_211_78 rfl rfl (by decide) rfl rfl (by first | assumption | exact hK.1 _ _ rfl) (by decide) ⟨Nat.le_of_ble_eq_true rfl, Nat.le_of_ble_eq_true rfl⟩ ?_
              refine CG.mono (m_tok0 S hk) ?_
              rintro _ M3 ⟨rfl, hF3, S3⟩
              obtain ⟨W3, T3, hf3, hD3, g21, g22, hlt3, hp3⟩ := S3
              have hK := W3.1
              have tn := m_num (C := C) (k := 0) (lo := 1) (hi := 6) W3 T3 hf3 hD3 g21 g22 hlt3 hp3 h (by decide) (by decide) (by decide)
              refine G_S (pc := 81) f_211_81 rfl rfl rfl ?_
              refine G_S (pc := 82) f_211_82 rfl rfl rfl ?_
              refine G_S (pc := 85) f_211_85 rfl rfl rfl ?_
              refine G_zeq (pc := 86) f_211_86 rfl (fun b8 => ?_) (fun b8 => ?_)
              · refine G_S (pc := 139) f_211_139 rfl rfl rfl ?_
                refine G_ic (v := nI 0) (pc := 140) f_211_140 (by decide) ?_
                refine G_ic (v := nI 1) (pc := 141) f_211_141 (by decide) ?_
                refine G_bi (v := nI 6) (pc := 142) f_211_142 (by decide) ?_
                refine G_CV (pc := 144) f_211_144 rfl rfl (by decide) rfl rfl (by first | assumption | exact hK.1 _ _ rfl) (by decide) ⟨Nat.le_of_ble_eq_true rfl, Nat.le_of_ble_eq_true rfl⟩ ?_
                refine CG.mono (tn) ?_
                rintro _ M4 ⟨rfl, hF4, W4, T4, hf4, hD4, k21, k22, hlt4, hp4, r0, ro⟩
                have hK := W4.1
                first | refine G_bNe (pc := 147) f_211_147 rfl (fun b12 => ?_) (fun b12 => ?_) | refine G_zneZ (pc := 147) f_211_147 rfl (by first | exact nI_toInt (by omega) | exact zI_toInt (by omega) (by omega) | rfl) (fun b12 => ?_) (fun b12 => ?_)
                · refine G_S (pc := 152) f_211_152 rfl rfl rfl ?_
                  refine G_gR (pc := 153) f_211_153 (by decide) rfl (by first | assumption | exact hK.1 _ _ rfl) (by first | assumption | exact hK.2 _ _ _ rfl | (try dsimp only) <;> (repeat (first | exact up2_s | refine up2_o (by first | decide | omega) ?_)) <;> first | assumption | exact hK.2 _ _ _ rfl) ?_
                  refine G_ic (v := nI 1) (pc := 156) f_211_156 (by decide) ?_
                  refine G_S (pc := 157) f_211_157 rfl rfl rfl ?_
                  refine G_gR (pc := 158) f_211_158 (by decide) rfl (by first | assumption | exact hK.1 _ _ rfl) (by first | assumption | exact hK.2 _ _ _ rfl | (try dsimp only) <;> (repeat (first | exact up2_s | refine up2_o (by first | decide | omega) ?_)) <;> first | assumption | exact hK.2 _ _ _ rfl) ?_
                  refine G_ic (v := nI 0) (pc := 161) f_211_161 (by decide) ?_
                  refine G_iaN (pc := 162) f_211_162 (by first | assumption | exact hK.1 _ _ rfl) (by omega) (by omega) (by first | exact r0 | rfl) ?_
                  refine G_isN (pc := 163) f_211_163 (by first | assumption | exact hK.1 _ _ rfl) (by omega) (by omega) ?_
                  refine G_ic (v := nI 1) (pc := 164) f_211_164 (by decide) ?_
                  refine G_rz (pc := 165) f_211_165 (by first | exact Or.inl rfl | exact Or.inr rfl | exact b2i_01 _ | assumption) ?_
                  have e : tkE 1 0 (vN t n (tkR t n p) : Int) (-1) (!decide (vN t n (tkR t n p) < 1 ∨ 6 < vN t n (tkR t n p))) E = up1 E 1 (vN t n (tkR t n p) : Int) := rfl
                  rw [e]
                  refine LN_fin (hF3.tr hF4) T4 hf4 k21 hlt4 hp4 (Fw.up (i := 108) (by decide) (by decide)) ?_
                  rw [nI_zI (vN t n (tkR t n p))]
                  exact hD4.up
                · exact absurd trivial b12
              · first | exact absurd b8 (by decide) | exact absurd (by decide) b8
            · first | exact absurd b7 (by decide) | exact absurd (by decide) b7
          · first | exact absurd b6 (by decide) | exact absurd (by decide) b6
        · first | exact absurd b2 (by decide) | exact absurd (by decide) b2
    · rw [if_neg h]
      refine CG_in (mL := 4) (hl := true) (lv := [some (.ref 98), none, none, some (.int (nI (skp t n p)))]) (ll := [none, some (495622124659), none, none]) rfl rfl rfl ?_
      refine G_S (pc := 0) f_211_0 rfl rfl rfl ?_
      refine G_S (pc := 1) f_211_1 rfl rfl rfl ?_
      refine G_S (pc := 4) f_211_4 rfl rfl rfl ?_
      refine G_zeq (pc := 5) f_211_5 rfl (fun b1 => ?_) (fun b1 => ?_)
      · first | exact absurd b1 (by decide) | exact absurd (by decide) b1
      · refine G_S (pc := 8) f_211_8 rfl rfl rfl ?_
        refine G_S (pc := 9) f_211_9 rfl rfl rfl ?_
        refine G_S (pc := 12) f_211_12 rfl rfl rfl ?_
        refine G_zeq (pc := 13) f_211_13 rfl (fun b2 => ?_) (fun b2 => ?_)
        · refine G_S (pc := 45) f_211_45 rfl rfl rfl ?_
          refine G_S (pc := 46) f_211_46 rfl rfl rfl ?_
          refine G_S (pc := 49) f_211_49 rfl rfl rfl ?_
          refine G_zne (pc := 50) f_211_50 rfl (fun b6 => ?_) (fun b6 => ?_)
          · refine G_S (pc := 61) f_211_61 rfl rfl rfl ?_
            refine G_S (pc := 62) f_211_62 rfl rfl rfl ?_
            refine G_S (pc := 65) f_211_65 rfl rfl rfl ?_
            refine G_zne (pc := 66) f_211_66 rfl (fun b7 => ?_) (fun b7 => ?_)
            · refine G_S (pc := 77) f_211_77 rfl rfl rfl ?_
              refine G_CV (pc := 78) f_211_78 rfl rfl (by decide) rfl rfl (by first | assumption | exact hK.1 _ _ rfl) (by decide) ⟨Nat.le_of_ble_eq_true rfl, Nat.le_of_ble_eq_true rfl⟩ ?_
              refine CG.mono (m_tok0 S hk) ?_
              rintro _ M3 ⟨rfl, hF3, S3⟩
              have hK := S3.1.1
              refine G_S (pc := 81) f_211_81 rfl rfl rfl ?_
              refine G_S (pc := 82) f_211_82 rfl rfl rfl ?_
              refine G_S (pc := 85) f_211_85 rfl rfl rfl ?_
              refine G_zeq (pc := 86) f_211_86 rfl (fun b8 => ?_) (fun b8 => ?_)
              · refine G_S (pc := 139) f_211_139 rfl rfl rfl ?_
                refine G_ic (v := nI 0) (pc := 140) f_211_140 (by decide) ?_
                refine G_ic (v := nI 1) (pc := 141) f_211_141 (by decide) ?_
                refine G_bi (v := nI 6) (pc := 142) f_211_142 (by decide) ?_
                refine G_CV (pc := 144) f_211_144 rfl rfl (by decide) rfl rfl (by first | assumption | exact hK.1 _ _ rfl) (by decide) ⟨Nat.le_of_ble_eq_true rfl, Nat.le_of_ble_eq_true rfl⟩ ?_
                refine CG.mono (m_takeN S3.1 S3.2.1 h) ?_
                rintro _ M4 ⟨rfl, hF4, h16⟩
                first | refine G_bNe (pc := 147) f_211_147 rfl (fun b12 => ?_) (fun b12 => ?_) | refine G_zneZ (pc := 147) f_211_147 rfl (by first | exact nI_toInt (by omega) | exact zI_toInt (by omega) (by omega) | rfl) (fun b12 => ?_) (fun b12 => ?_)
                · exact absurd b12 id
                · refine G_ic (v := nI 0) (pc := 150) f_211_150 (by decide) ?_
                  refine G_rz (pc := 151) f_211_151 (by first | exact Or.inl rfl | exact Or.inr rfl | exact b2i_01 _ | assumption) ?_
                  exact LN_no (hF3.tr (hF4.1.sub (by decide) (by decide))) h16
              · first | exact absurd b8 (by decide) | exact absurd (by decide) b8
            · first | exact absurd b7 (by decide) | exact absurd (by decide) b7
          · first | exact absurd b6 (by decide) | exact absurd (by decide) b6
        · first | exact absurd b2 (by decide) | exact absurd (by decide) b2
  · show CG C 211 [.ref 98, .long 491394458994, .int (nI (skp t n p))] M _
    refine CG_in (mL := 4) (hl := true) (lv := [some (.ref 98), none, none, some (.int (nI (skp t n p)))]) (ll := [none, some (491394458994), none, none]) rfl rfl rfl ?_
    refine G_S (pc := 0) f_211_0 rfl rfl rfl ?_
    refine G_S (pc := 1) f_211_1 rfl rfl rfl ?_
    refine G_S (pc := 4) f_211_4 rfl rfl rfl ?_
    refine G_zeq (pc := 5) f_211_5 rfl (fun b1 => ?_) (fun b1 => ?_)
    · first | exact absurd b1 (by decide) | exact absurd (by decide) b1
    · refine G_S (pc := 8) f_211_8 rfl rfl rfl ?_
      refine G_S (pc := 9) f_211_9 rfl rfl rfl ?_
      refine G_S (pc := 12) f_211_12 rfl rfl rfl ?_
      refine G_zeq (pc := 13) f_211_13 rfl (fun b2 => ?_) (fun b2 => ?_)
      · first | exact absurd b2 (by decide) | exact absurd (by decide) b2
      · refine G_S (pc := 16) f_211_16 rfl rfl rfl ?_
        refine G_S (pc := 17) f_211_17 rfl rfl rfl ?_
        refine G_S (pc := 20) f_211_20 rfl rfl rfl ?_
        refine G_zeq (pc := 21) f_211_21 rfl (fun b3 => ?_) (fun b3 => ?_)
        · refine G_S (pc := 45) f_211_45 rfl rfl rfl ?_
          refine G_S (pc := 46) f_211_46 rfl rfl rfl ?_
          refine G_S (pc := 49) f_211_49 rfl rfl rfl ?_
          refine G_zne (pc := 50) f_211_50 rfl (fun b6 => ?_) (fun b6 => ?_)
          · refine G_S (pc := 61) f_211_61 rfl rfl rfl ?_
            refine G_S (pc := 62) f_211_62 rfl rfl rfl ?_
            refine G_S (pc := 65) f_211_65 rfl rfl rfl ?_
            refine G_zne (pc := 66) f_211_66 rfl (fun b7 => ?_) (fun b7 => ?_)
            · first | exact absurd b7 (by decide) | exact absurd (by decide) b7
            · refine G_S (pc := 69) f_211_69 rfl rfl rfl ?_
              refine G_ic (v := nI 2) (pc := 70) f_211_70 (by decide) ?_
              refine G_bi (v := nI 8) (pc := 71) f_211_71 (by decide) ?_
              refine G_S (pc := 73) f_211_73 rfl rfl rfl ?_
              refine G_CV (pc := 74) f_211_74 rfl rfl (by decide) rfl rfl (by first | assumption | exact hK.1 _ _ rfl) (by decide) ⟨Nat.le_of_ble_eq_true rfl, Nat.le_of_ble_eq_true rfl⟩ ?_
              refine CG.mono (m_full hK hf hlt hn hD (by decide) hE2.1 hE2.2 (by decide)) ?_
              rintro _ M2 ⟨rfl, hF2, hf2⟩
              have hK := hF2.1.K hK
              refine G_S (pc := 77) f_211_77 rfl rfl rfl ?_
              refine G_CV (pc := 78) f_211_78 rfl rfl (by decide) rfl rfl (by first | assumption | exact hK.1 _ _ rfl) (by decide) ⟨Nat.le_of_ble_eq_true rfl, Nat.le_of_ble_eq_true rfl⟩ ?_
              refine CG.mono (m_tokS S hk hF2 hf2) ?_
              rintro _ M3 ⟨rfl, hF3, S3⟩
              have hK := S3.1.1
              refine G_S (pc := 81) f_211_81 rfl rfl rfl ?_
              refine G_S (pc := 82) f_211_82 rfl rfl rfl ?_
              refine G_S (pc := 85) f_211_85 rfl rfl rfl ?_
              refine G_zeq (pc := 86) f_211_86 rfl (fun b8 => ?_) (fun b8 => ?_)
              · first | exact absurd b8 (by decide) | exact absurd (by decide) b8
              · refine G_S (pc := 89) f_211_89 rfl rfl rfl ?_
                refine G_S (pc := 90) f_211_90 rfl rfl rfl ?_
                refine G_S (pc := 93) f_211_93 rfl rfl rfl ?_
                refine G_zne (pc := 94) f_211_94 rfl (fun b9 => ?_) (fun b9 => ?_)
                · refine G_S (pc := 104) f_211_104 rfl rfl rfl ?_
                  refine G_S (pc := 105) f_211_105 rfl rfl rfl ?_
                  refine G_S (pc := 108) f_211_108 rfl rfl rfl ?_
                  refine G_zne (pc := 109) f_211_109 rfl (fun b10 => ?_) (fun b10 => ?_)
                  · first | exact absurd b10 (by decide) | exact absurd (by decide) b10
                  · refine G_S (pc := 112) f_211_112 rfl rfl rfl ?_
                    refine G_CV (pc := 113) f_211_113 rfl rfl (by decide) rfl rfl (by first | assumption | exact hK.1 _ _ rfl) (by decide) ⟨Nat.le_of_ble_eq_true rfl, Nat.le_of_ble_eq_true rfl⟩ ?_
                    refine CG.mono (LNx (m_rider S3 hE2)) ?_
                    rintro _ M4 ⟨x, rfl, h01, L4⟩
                    refine G_S (pc := 116) f_211_116 rfl rfl rfl ?_
                    refine G_rz (pc := 138) f_211_138 h01 ?_
                    exact L4.tr hF3
                · first | exact absurd b9 (by decide) | exact absurd (by decide) b9
          · first | exact absurd b6 (by decide) | exact absurd (by decide) b6
        · first | exact absurd b3 (by decide) | exact absurd (by decide) b3
  · show CG C 211 [.ref 98, .long 2003132786, .int (nI (skp t n p))] M _
    have e1 : fulB 3 E = false := rfl
    rw [e1, nt_f]
    refine CG_in (mL := 4) (hl := true) (lv := [some (.ref 98), none, none, some (.int (nI (skp t n p)))]) (ll := [none, some (2003132786), none, none]) rfl rfl rfl ?_
    refine G_S (pc := 0) f_211_0 rfl rfl rfl ?_
    refine G_S (pc := 1) f_211_1 rfl rfl rfl ?_
    refine G_S (pc := 4) f_211_4 rfl rfl rfl ?_
    refine G_zeq (pc := 5) f_211_5 rfl (fun b1 => ?_) (fun b1 => ?_)
    · first | exact absurd b1 (by decide) | exact absurd (by decide) b1
    · refine G_S (pc := 8) f_211_8 rfl rfl rfl ?_
      refine G_S (pc := 9) f_211_9 rfl rfl rfl ?_
      refine G_S (pc := 12) f_211_12 rfl rfl rfl ?_
      refine G_zeq (pc := 13) f_211_13 rfl (fun b2 => ?_) (fun b2 => ?_)
      · first | exact absurd b2 (by decide) | exact absurd (by decide) b2
      · refine G_S (pc := 16) f_211_16 rfl rfl rfl ?_
        refine G_S (pc := 17) f_211_17 rfl rfl rfl ?_
        refine G_S (pc := 20) f_211_20 rfl rfl rfl ?_
        refine G_zeq (pc := 21) f_211_21 rfl (fun b3 => ?_) (fun b3 => ?_)
        · first | exact absurd b3 (by decide) | exact absurd (by decide) b3
        · refine G_S (pc := 24) f_211_24 rfl rfl rfl ?_
          refine G_S (pc := 25) f_211_25 rfl rfl rfl ?_
          refine G_S (pc := 28) f_211_28 rfl rfl rfl ?_
          refine G_zeq (pc := 29) f_211_29 rfl (fun b4 => ?_) (fun b4 => ?_)
          · refine G_S (pc := 45) f_211_45 rfl rfl rfl ?_
            refine G_S (pc := 46) f_211_46 rfl rfl rfl ?_
            refine G_S (pc := 49) f_211_49 rfl rfl rfl ?_
            refine G_zne (pc := 50) f_211_50 rfl (fun b6 => ?_) (fun b6 => ?_)
            · refine G_S (pc := 61) f_211_61 rfl rfl rfl ?_
              refine G_S (pc := 62) f_211_62 rfl rfl rfl ?_
              refine G_S (pc := 65) f_211_65 rfl rfl rfl ?_
              refine G_zne (pc := 66) f_211_66 rfl (fun b7 => ?_) (fun b7 => ?_)
              · refine G_S (pc := 77) f_211_77 rfl rfl rfl ?_
                refine G_CV (pc := 78) f_211_78 rfl rfl (by decide) rfl rfl (by first | assumption | exact hK.1 _ _ rfl) (by decide) ⟨Nat.le_of_ble_eq_true rfl, Nat.le_of_ble_eq_true rfl⟩ ?_
                refine CG.mono (m_tok0 S hk) ?_
                rintro _ M3 ⟨rfl, hF3, S3⟩
                have hK := S3.1.1
                refine G_S (pc := 81) f_211_81 rfl rfl rfl ?_
                refine G_S (pc := 82) f_211_82 rfl rfl rfl ?_
                refine G_S (pc := 85) f_211_85 rfl rfl rfl ?_
                refine G_zeq (pc := 86) f_211_86 rfl (fun b8 => ?_) (fun b8 => ?_)
                · first | exact absurd b8 (by decide) | exact absurd (by decide) b8
                · refine G_S (pc := 89) f_211_89 rfl rfl rfl ?_
                  refine G_S (pc := 90) f_211_90 rfl rfl rfl ?_
                  refine G_S (pc := 93) f_211_93 rfl rfl rfl ?_
                  refine G_zne (pc := 94) f_211_94 rfl (fun b9 => ?_) (fun b9 => ?_)
                  · refine G_S (pc := 104) f_211_104 rfl rfl rfl ?_
                    refine G_S (pc := 105) f_211_105 rfl rfl rfl ?_
                    refine G_S (pc := 108) f_211_108 rfl rfl rfl ?_
                    refine G_zne (pc := 109) f_211_109 rfl (fun b10 => ?_) (fun b10 => ?_)
                    · refine G_S (pc := 119) f_211_119 rfl rfl rfl ?_
                      refine G_S (pc := 120) f_211_120 rfl rfl rfl ?_
                      refine G_S (pc := 123) f_211_123 rfl rfl rfl ?_
                      refine G_zne (pc := 124) f_211_124 rfl (fun b11 => ?_) (fun b11 => ?_)
                      · first | exact absurd b11 (by decide) | exact absurd (by decide) b11
                      · refine G_S (pc := 127) f_211_127 rfl rfl rfl ?_
                        refine G_CV (pc := 128) f_211_128 rfl rfl (by decide) rfl rfl (by first | assumption | exact hK.1 _ _ rfl) (by decide) ⟨Nat.le_of_ble_eq_true rfl, Nat.le_of_ble_eq_true rfl⟩ ?_
                        refine CG.mono (LNx (m_wearL S3)) ?_
                        rintro _ M4 ⟨x, rfl, h01, L4⟩
                        refine G_S (pc := 131) f_211_131 rfl rfl rfl ?_
                        refine G_rz (pc := 138) f_211_138 h01 ?_
                        exact L4.tr hF3
                    · first | exact absurd b10 (by decide) | exact absurd (by decide) b10
                  · first | exact absurd b9 (by decide) | exact absurd (by decide) b9
              · first | exact absurd b7 (by decide) | exact absurd (by decide) b7
            · first | exact absurd b6 (by decide) | exact absurd (by decide) b6
          · first | exact absurd b4 (by decide) | exact absurd (by decide) b4
  · show CG C 211 [.ref 98, .long 1717662309, .int (nI (skp t n p))] M _
    have e1 : fulB 4 E = false := rfl
    rw [e1, nt_f]
    refine CG_in (mL := 4) (hl := true) (lv := [some (.ref 98), none, none, some (.int (nI (skp t n p)))]) (ll := [none, some (1717662309), none, none]) rfl rfl rfl ?_
    refine G_S (pc := 0) f_211_0 rfl rfl rfl ?_
    refine G_S (pc := 1) f_211_1 rfl rfl rfl ?_
    refine G_S (pc := 4) f_211_4 rfl rfl rfl ?_
    refine G_zeq (pc := 5) f_211_5 rfl (fun b1 => ?_) (fun b1 => ?_)
    · first | exact absurd b1 (by decide) | exact absurd (by decide) b1
    · refine G_S (pc := 8) f_211_8 rfl rfl rfl ?_
      refine G_S (pc := 9) f_211_9 rfl rfl rfl ?_
      refine G_S (pc := 12) f_211_12 rfl rfl rfl ?_
      refine G_zeq (pc := 13) f_211_13 rfl (fun b2 => ?_) (fun b2 => ?_)
      · first | exact absurd b2 (by decide) | exact absurd (by decide) b2
      · refine G_S (pc := 16) f_211_16 rfl rfl rfl ?_
        refine G_S (pc := 17) f_211_17 rfl rfl rfl ?_
        refine G_S (pc := 20) f_211_20 rfl rfl rfl ?_
        refine G_zeq (pc := 21) f_211_21 rfl (fun b3 => ?_) (fun b3 => ?_)
        · first | exact absurd b3 (by decide) | exact absurd (by decide) b3
        · refine G_S (pc := 24) f_211_24 rfl rfl rfl ?_
          refine G_S (pc := 25) f_211_25 rfl rfl rfl ?_
          refine G_S (pc := 28) f_211_28 rfl rfl rfl ?_
          refine G_zeq (pc := 29) f_211_29 rfl (fun b4 => ?_) (fun b4 => ?_)
          · first | exact absurd b4 (by decide) | exact absurd (by decide) b4
          · refine G_S (pc := 32) f_211_32 rfl rfl rfl ?_
            refine G_S (pc := 33) f_211_33 rfl rfl rfl ?_
            refine G_S (pc := 36) f_211_36 rfl rfl rfl ?_
            refine G_zeq (pc := 37) f_211_37 rfl (fun b5 => ?_) (fun b5 => ?_)
            · refine G_S (pc := 45) f_211_45 rfl rfl rfl ?_
              refine G_S (pc := 46) f_211_46 rfl rfl rfl ?_
              refine G_S (pc := 49) f_211_49 rfl rfl rfl ?_
              refine G_zne (pc := 50) f_211_50 rfl (fun b6 => ?_) (fun b6 => ?_)
              · refine G_S (pc := 61) f_211_61 rfl rfl rfl ?_
                refine G_S (pc := 62) f_211_62 rfl rfl rfl ?_
                refine G_S (pc := 65) f_211_65 rfl rfl rfl ?_
                refine G_zne (pc := 66) f_211_66 rfl (fun b7 => ?_) (fun b7 => ?_)
                · refine G_S (pc := 77) f_211_77 rfl rfl rfl ?_
                  refine G_CV (pc := 78) f_211_78 rfl rfl (by decide) rfl rfl (by first | assumption | exact hK.1 _ _ rfl) (by decide) ⟨Nat.le_of_ble_eq_true rfl, Nat.le_of_ble_eq_true rfl⟩ ?_
                  refine CG.mono (m_tok0 S hk) ?_
                  rintro _ M3 ⟨rfl, hF3, S3⟩
                  have hK := S3.1.1
                  refine G_S (pc := 81) f_211_81 rfl rfl rfl ?_
                  refine G_S (pc := 82) f_211_82 rfl rfl rfl ?_
                  refine G_S (pc := 85) f_211_85 rfl rfl rfl ?_
                  refine G_zeq (pc := 86) f_211_86 rfl (fun b8 => ?_) (fun b8 => ?_)
                  · first | exact absurd b8 (by decide) | exact absurd (by decide) b8
                  · refine G_S (pc := 89) f_211_89 rfl rfl rfl ?_
                    refine G_S (pc := 90) f_211_90 rfl rfl rfl ?_
                    refine G_S (pc := 93) f_211_93 rfl rfl rfl ?_
                    refine G_zne (pc := 94) f_211_94 rfl (fun b9 => ?_) (fun b9 => ?_)
                    · refine G_S (pc := 104) f_211_104 rfl rfl rfl ?_
                      refine G_S (pc := 105) f_211_105 rfl rfl rfl ?_
                      refine G_S (pc := 108) f_211_108 rfl rfl rfl ?_
                      refine G_zne (pc := 109) f_211_109 rfl (fun b10 => ?_) (fun b10 => ?_)
                      · refine G_S (pc := 119) f_211_119 rfl rfl rfl ?_
                        refine G_S (pc := 120) f_211_120 rfl rfl rfl ?_
                        refine G_S (pc := 123) f_211_123 rfl rfl rfl ?_
                        refine G_zne (pc := 124) f_211_124 rfl (fun b11 => ?_) (fun b11 => ?_)
                        · refine G_S (pc := 134) f_211_134 rfl rfl rfl ?_
                          refine G_CV (pc := 135) f_211_135 rfl rfl (by decide) rfl rfl (by first | assumption | exact hK.1 _ _ rfl) (by decide) ⟨Nat.le_of_ble_eq_true rfl, Nat.le_of_ble_eq_true rfl⟩ ?_
                          refine CG.mono (LNx (m_fareL S3)) ?_
                          rintro _ M4 ⟨x, rfl, h01, L4⟩
                          refine G_rz (pc := 138) f_211_138 h01 ?_
                          exact L4.tr hF3
                        · first | exact absurd b11 (by decide) | exact absurd (by decide) b11
                      · first | exact absurd b10 (by decide) | exact absurd (by decide) b10
                    · first | exact absurd b9 (by decide) | exact absurd (by decide) b9
                · first | exact absurd b7 (by decide) | exact absurd (by decide) b7
              · first | exact absurd b6 (by decide) | exact absurd (by decide) b6
            · first | exact absurd b5 (by decide) | exact absurd (by decide) b5
end MLL
