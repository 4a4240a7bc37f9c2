/-! the reference's lines: flows, sights, rides -/
section MLG
variable {C : Ct} {M : Mm} {t : Nat → Int} {n p T g : Nat} {f : Nat × Nat} {E : Nat → Int} {w : Int64}
theorem m_flowN (S : MSt M t n p f E T) (h : ∀ g, 13 ≤ g → g < 15 → ¬ w = nL (wk g)) : CG C 215 [.ref 98, .long w] M (LNq t n M (.inl (skp t n p))) := by
  have hK := S.1.1
  have n0 := h 13 (by decide) (by decide)
  have n1 := h 14 (by decide) (by decide)
  rw [kw_f 13 (by decide)] at n0
  rw [kw_f 14 (by decide)] at n1
  refine CG_in (mL := 3) (hl := true) (lv := [some (.ref 98), none, none]) (ll := [none, some (w), none]) rfl rfl rfl ?_
  refine G_S (pc := 0) f_215_0 rfl rfl rfl ?_
  refine G_S (pc := 1) f_215_1 rfl rfl rfl ?_
  refine G_S (pc := 4) f_215_4 rfl rfl rfl ?_
  refine G_zeq (pc := 5) f_215_5 rfl (fun b1 => ?_) (fun b1 => ?_)
  · exact absurd (lc_eq.mp b1) n0
  · refine G_S (pc := 8) f_215_8 rfl rfl rfl ?_
    refine G_S (pc := 9) f_215_9 rfl rfl rfl ?_
    refine G_S (pc := 12) f_215_12 rfl rfl rfl ?_
    refine G_zeq (pc := 13) f_215_13 rfl (fun b2 => ?_) (fun b2 => ?_)
    · exact absurd (lc_eq.mp b2) n1
    · refine G_S (pc := 16) f_215_16 rfl rfl rfl ?_
      refine G_CV (pc := 17) f_215_17 rfl rfl (by decide) rfl rfl (by first | assumption | exact hK.1 _ _ rfl) (by decide) ⟨Nat.le_of_ble_eq_true rfl, Nat.le_of_ble_eq_true rfl⟩ ?_
      refine CG.mono (m_fails hK S.2.1.2.1) ?_
      rintro _ M2 ⟨rfl, hF2, h16⟩
      refine G_rz (pc := 20) f_215_20 (by exact Or.inl rfl) ?_
      exact m_fail (w' := none) S hF2 h16
theorem m_flowL (S : MSt M t n p f E T) (hk : tkK t n p ≠ 0) (hg : g = 13 ∨ g = 14) (hw : w = nL (wk g)) : CG C 215 [.ref 98, .long w] M (LNq t n M (lnS t n g E T (nt f (fulB g E) 3 (skp t n p)) (tkR t n p))) := by
  have hK := S.1.1
  subst hw
  rw [kw_f g (by omega)]
  rcases hg with rfl | rfl
  · show CG C 215 [.ref 98, .long 1852138852] M _
    have e1 : fulB 13 E = false := rfl
    rw [e1, nt_f, ln_1 (by decide) (by decide), bad_d (lo := 1) (hi := 99) (by decide) (by decide)]
    by_cases h : tkK t n (tkR t n p) = 2
    · rw [if_pos h]
      refine CG_in (mL := 3) (hl := true) (lv := [some (.ref 98), none, none]) (ll := [none, some (1852138852), none]) rfl rfl rfl ?_
      refine G_S (pc := 0) f_215_0 rfl rfl rfl ?_
      refine G_S (pc := 1) f_215_1 rfl rfl rfl ?_
      refine G_S (pc := 4) f_215_4 rfl rfl rfl ?_
      refine G_zeq (pc := 5) f_215_5 rfl (fun b1 => ?_) (fun b1 => ?_)
      · refine G_S (pc := 21) f_215_21 rfl rfl rfl ?_
        refine G_CV (pc := 22) f_215_22 rfl rfl (by decide) rfl rfl (by first | assumption | exact hK.1 _ _ rfl) (by decide) ⟨Nat.le_of_ble_eq_true rfl, Nat.le_of_ble_eq_true rfl⟩ ?_
        refine CG.mono (m_tok0 S hk) ?_
        rintro _ M3 ⟨rfl, hF3, S3⟩
        obtain ⟨W3, T3, hf3, hD3, g21, g22, hlt3, hp3⟩ := S3
        have hK := W3.1
        have tn := m_num (C := C) (k := 0) (lo := 1) (hi := 99) W3 T3 hf3 hD3 g21 g22 hlt3 hp3 h (by decide) (by decide) (by decide)
        refine G_S (pc := 25) f_215_25 rfl rfl rfl ?_
        refine G_S (pc := 26) f_215_26 rfl rfl rfl ?_
        refine G_S (pc := 29) f_215_29 rfl rfl rfl ?_
        refine G_zne (pc := 30) f_215_30 rfl (fun b3 => ?_) (fun b3 => ?_)
        · first | exact absurd b3 (by decide) | exact absurd (by decide) b3
        · refine G_S (pc := 33) f_215_33 rfl rfl rfl ?_
          refine G_ic (v := nI 0) (pc := 34) f_215_34 (by decide) ?_
          refine G_ic (v := nI 1) (pc := 35) f_215_35 (by decide) ?_
          refine G_bi (v := nI 99) (pc := 36) f_215_36 (by decide) ?_
          refine G_CV (pc := 38) f_215_38 rfl rfl (by decide) rfl rfl (by first | assumption | exact hK.1 _ _ rfl) (by decide) ⟨Nat.le_of_ble_eq_true rfl, Nat.le_of_ble_eq_true rfl⟩ ?_
          refine CG.mono (tn) ?_
          rintro _ M4 ⟨rfl, hF4, W4, T4, hf4, hD4, k21, k22, hlt4, hp4, r0, ro⟩
          have hK := W4.1
          first | refine G_bNe (pc := 41) f_215_41 rfl (fun b4 => ?_) (fun b4 => ?_) | refine G_zneZ (pc := 41) f_215_41 rfl (by first | exact nI_toInt (by omega) | exact zI_toInt (by omega) (by omega) | rfl) (fun b4 => ?_) (fun b4 => ?_)
          · refine G_S (pc := 46) f_215_46 rfl rfl rfl ?_
            refine G_gR (pc := 47) f_215_47 (by decide) rfl (by first | assumption | exact hK.1 _ _ rfl) (by first | assumption | exact hK.2 _ _ _ rfl | (try dsimp only) <;> (repeat (first | exact up2_s | refine up2_o (by first | decide | omega) ?_)) <;> first | assumption | exact hK.2 _ _ _ rfl) ?_
            refine G_ic (v := nI 0) (pc := 50) f_215_50 (by decide) ?_
            refine G_S (pc := 51) f_215_51 rfl rfl rfl ?_
            refine G_gR (pc := 52) f_215_52 (by decide) rfl (by first | assumption | exact hK.1 _ _ rfl) (by first | assumption | exact hK.2 _ _ _ rfl | (try dsimp only) <;> (repeat (first | exact up2_s | refine up2_o (by first | decide | omega) ?_)) <;> first | assumption | exact hK.2 _ _ _ rfl) ?_
            refine G_ic (v := nI 0) (pc := 55) f_215_55 (by decide) ?_
            refine G_iaN (pc := 56) f_215_56 (by first | assumption | exact hK.1 _ _ rfl) (by omega) (by omega) (by first | exact r0 | rfl) ?_
            refine G_isN (pc := 57) f_215_57 (by first | assumption | exact hK.1 _ _ rfl) (by omega) (by omega) ?_
            refine G_ic (v := nI 1) (pc := 58) f_215_58 (by decide) ?_
            refine G_rz (pc := 59) f_215_59 (by first | exact Or.inl rfl | exact Or.inr rfl | exact b2i_01 _ | assumption) ?_
            have e : tkE 13 0 (vN t n (tkR t n p) : Int) (-1) (!decide (vN t n (tkR t n p) < 1 ∨ 99 < vN t n (tkR t n p))) E = up1 E 0 (vN t n (tkR t n p) : Int) := rfl
            rw [e]
            refine LN_fin (hF3.tr hF4) T4 hf4 k21 hlt4 hp4 (Fw.up (i := 108) (by decide) (by decide)) ?_
            rw [nI_zI (vN t n (tkR t n p))]
            exact hD4.up
          · exact absurd trivial b4
      · first | exact absurd b1 (by decide) | exact absurd (by decide) b1
    · rw [if_neg h]
      refine CG_in (mL := 3) (hl := true) (lv := [some (.ref 98), none, none]) (ll := [none, some (1852138852), none]) rfl rfl rfl ?_
      refine G_S (pc := 0) f_215_0 rfl rfl rfl ?_
      refine G_S (pc := 1) f_215_1 rfl rfl rfl ?_
      refine G_S (pc := 4) f_215_4 rfl rfl rfl ?_
      refine G_zeq (pc := 5) f_215_5 rfl (fun b1 => ?_) (fun b1 => ?_)
      · refine G_S (pc := 21) f_215_21 rfl rfl rfl ?_
        refine G_CV (pc := 22) f_215_22 rfl rfl (by decide) rfl rfl (by first | assumption | exact hK.1 _ _ rfl) (by decide) ⟨Nat.le_of_ble_eq_true rfl, Nat.le_of_ble_eq_true rfl⟩ ?_
        refine CG.mono (m_tok0 S hk) ?_
        rintro _ M3 ⟨rfl, hF3, S3⟩
        have hK := S3.1.1
        refine G_S (pc := 25) f_215_25 rfl rfl rfl ?_
        refine G_S (pc := 26) f_215_26 rfl rfl rfl ?_
        refine G_S (pc := 29) f_215_29 rfl rfl rfl ?_
        refine G_zne (pc := 30) f_215_30 rfl (fun b3 => ?_) (fun b3 => ?_)
        · first | exact absurd b3 (by decide) | exact absurd (by decide) b3
        · refine G_S (pc := 33) f_215_33 rfl rfl rfl ?_
          refine G_ic (v := nI 0) (pc := 34) f_215_34 (by decide) ?_
          refine G_ic (v := nI 1) (pc := 35) f_215_35 (by decide) ?_
          refine G_bi (v := nI 99) (pc := 36) f_215_36 (by decide) ?_
          refine G_CV (pc := 38) f_215_38 rfl rfl (by decide) rfl rfl (by first | assumption | exact hK.1 _ _ rfl) (by decide) ⟨Nat.le_of_ble_eq_true rfl, Nat.le_of_ble_eq_true rfl⟩ ?_
          refine CG.mono (m_takeN S3.1 S3.2.1 h) ?_
          rintro _ M4 ⟨rfl, hF4, h16⟩
          first | refine G_bNe (pc := 41) f_215_41 rfl (fun b4 => ?_) (fun b4 => ?_) | refine G_zneZ (pc := 41) f_215_41 rfl (by first | exact nI_toInt (by omega) | exact zI_toInt (by omega) (by omega) | rfl) (fun b4 => ?_) (fun b4 => ?_)
          · exact absurd b4 id
          · refine G_ic (v := nI 0) (pc := 44) f_215_44 (by decide) ?_
            refine G_rz (pc := 45) f_215_45 (by first | exact Or.inl rfl | exact Or.inr rfl | exact b2i_01 _ | assumption) ?_
            exact LN_no (hF3.tr (hF4.1.sub (by decide) (by decide))) h16
      · first | exact absurd b1 (by decide) | exact absurd (by decide) b1
  · show CG C 215 [.ref 98, .long 1668246885] M _
    have e1 : fulB 14 E = false := rfl
    rw [e1, nt_f, ln_2 (by decide) (by decide), bad_d (lo := 0) (hi := 23) (i := 0) (by decide) (by decide), bad_d (lo := 0) (hi := 99) (i := 1) (by decide) (by decide)]
    by_cases h : tkK t n (tkR t n p) = 2
    · rw [if_pos h]
      by_cases h2 : tkK t n (tkR t n (tkR t n p)) = 2
      · rw [if_pos h2]
        refine CG_in (mL := 3) (hl := true) (lv := [some (.ref 98), none, none]) (ll := [none, some (1668246885), none]) rfl rfl rfl ?_
        refine G_S (pc := 0) f_215_0 rfl rfl rfl ?_
        refine G_S (pc := 1) f_215_1 rfl rfl rfl ?_
        refine G_S (pc := 4) f_215_4 rfl rfl rfl ?_
        refine G_zeq (pc := 5) f_215_5 rfl (fun b1 => ?_) (fun b1 => ?_)
        · first | exact absurd b1 (by decide) | exact absurd (by decide) b1
        · refine G_S (pc := 8) f_215_8 rfl rfl rfl ?_
          refine G_S (pc := 9) f_215_9 rfl rfl rfl ?_
          refine G_S (pc := 12) f_215_12 rfl rfl rfl ?_
          refine G_zeq (pc := 13) f_215_13 rfl (fun b2 => ?_) (fun b2 => ?_)
          · refine G_S (pc := 21) f_215_21 rfl rfl rfl ?_
            refine G_CV (pc := 22) f_215_22 rfl rfl (by decide) rfl rfl (by first | assumption | exact hK.1 _ _ rfl) (by decide) ⟨Nat.le_of_ble_eq_true rfl, Nat.le_of_ble_eq_true rfl⟩ ?_
            refine CG.mono (m_tok0 S hk) ?_
            rintro _ M1 ⟨rfl, hF1, S1⟩
            obtain ⟨W1, T1, hf1, hD1, j21, j22, hlt1, hp1⟩ := S1
            have hK := W1.1
            have tn := m_num (C := C) (k := 0) (lo := 0) (hi := 23) W1 T1 hf1 hD1 j21 j22 hlt1 hp1 h (by decide) (by decide) (by decide)
            refine G_S (pc := 25) f_215_25 rfl rfl rfl ?_
            refine G_S (pc := 26) f_215_26 rfl rfl rfl ?_
            refine G_S (pc := 29) f_215_29 rfl rfl rfl ?_
            refine G_zne (pc := 30) f_215_30 rfl (fun b3 => ?_) (fun b3 => ?_)
            · refine G_S (pc := 60) f_215_60 rfl rfl rfl ?_
              refine G_ic (v := nI 0) (pc := 61) f_215_61 (by decide) ?_
              refine G_ic (v := nI 0) (pc := 62) f_215_62 (by decide) ?_
              refine G_bi (v := nI 23) (pc := 63) f_215_63 (by decide) ?_
              refine G_CV (pc := 65) f_215_65 rfl rfl (by decide) rfl rfl (by first | assumption | exact hK.1 _ _ rfl) (by decide) ⟨Nat.le_of_ble_eq_true rfl, Nat.le_of_ble_eq_true rfl⟩ ?_
              refine CG.mono (tn) ?_
              rintro _ M2 ⟨rfl, hF2, W2, T2, hf2, hD2, g21, g22, hlt2, hp2, r0, ro⟩
              have hK := W2.1
              have tn2 := m_num (C := C) (k := 1) (lo := 0) (hi := 99) W2 T2 hf2 hD2 g21 g22 hlt2 hp2 h2 (by decide) (by decide) (by decide)
              first | refine G_bEq (pc := 68) f_215_68 rfl (fun b5 => ?_) (fun b5 => ?_) | refine G_zeqZ (pc := 68) f_215_68 rfl (by first | exact nI_toInt (by omega) | exact zI_toInt (by omega) (by omega) | rfl) (fun b5 => ?_) (fun b5 => ?_)
              · exact absurd trivial b5
              · refine G_S (pc := 71) f_215_71 rfl rfl rfl ?_
                refine G_ic (v := nI 1) (pc := 72) f_215_72 (by decide) ?_
                refine G_ic (v := nI 0) (pc := 73) f_215_73 (by decide) ?_
                refine G_bi (v := nI 99) (pc := 74) f_215_74 (by decide) ?_
                refine G_CV (pc := 76) f_215_76 rfl rfl (by decide) rfl rfl (by first | assumption | exact hK.1 _ _ rfl) (by decide) ⟨Nat.le_of_ble_eq_true rfl, Nat.le_of_ble_eq_true rfl⟩ ?_
                refine CG.mono (tn2) ?_
                rintro _ M3 ⟨rfl, hF3, W3, T3, hf3, hD3, k21, k22, hlt3, hp3, r1, ro3⟩
                have hK := W3.1
                have r03 : M3.2.1 109 0 = nI (vN t n (tkR t n p)) := (ro3 0 (by decide)).trans r0
                rw [Bool.true_and] at k22
                first | refine G_bNe (pc := 79) f_215_79 rfl (fun b6 => ?_) (fun b6 => ?_) | refine G_zneZ (pc := 79) f_215_79 rfl (by first | exact nI_toInt (by omega) | exact zI_toInt (by omega) (by omega) | rfl) (fun b6 => ?_) (fun b6 => ?_)
                · refine G_S (pc := 84) f_215_84 rfl rfl rfl ?_
                  refine G_gIv (pc := 85) f_215_85 (by decide) rfl (by decide) (by first | assumption | exact hK.1 _ _ rfl) (k22) ?_
                  first | refine G_bEq (pc := 88) f_215_88 rfl (fun b7 => ?_) (fun b7 => ?_) | refine G_zeqZ (pc := 88) f_215_88 rfl (by first | exact nI_toInt (by omega) | exact zI_toInt (by omega) (by omega) | rfl) (fun b7 => ?_) (fun b7 => ?_)
                  · refine G_ic (v := nI 1) (pc := 110) f_215_110 (by decide) ?_
                    refine G_rz (pc := 111) f_215_111 (by first | exact Or.inl rfl | exact Or.inr rfl | exact b2i_01 _ | assumption) ?_
                    first
                      | (have e : tkE 14 0 (vN t n (tkR t n p) : Int) (vN t n (tkR t n (tkR t n p)) : Int) (!decide (vN t n (tkR t n p) < 0 ∨ 23 < vN t n (tkR t n p)) && !decide (vN t n (tkR t n (tkR t n p)) < 0 ∨ 99 < vN t n (tkR t n (tkR t n p)))) E = E := by
                           unfold tkE
                           rw [if_neg (by decide), if_neg (by decide), if_neg (by decide), if_neg (by decide), if_neg (by decide), if_neg (by decide), if_neg (by decide), if_pos rfl, if_neg b7]
                         rw [e]
                         exact LN_fin ((hF1.tr hF2).tr hF3) T3 hf3 k21 hlt3 hp3 Fw.rf hD3)
                      | (have e : tkE 14 0 (vN t n (tkR t n p) : Int) (vN t n (tkR t n (tkR t n p)) : Int) (!decide (vN t n (tkR t n p) < 0 ∨ 23 < vN t n (tkR t n p)) && !decide (vN t n (tkR t n (tkR t n p)) < 0 ∨ 99 < vN t n (tkR t n (tkR t n p)))) E = up1 E (1 + vN t n (tkR t n p)) (vN t n (tkR t n (tkR t n p)) : Int) := by
                           unfold tkE
                           rw [if_neg (by decide), if_neg (by decide), if_neg (by decide), if_neg (by decide), if_neg (by decide), if_neg (by decide), if_neg (by decide), if_pos rfl, if_pos b7, Int.toNat_natCast]
                         rw [e]
                         refine LN_fin ((hF1.tr hF2).tr hF3) T3 hf3 k21 hlt3 hp3 (Fw.up (i := 108) (by decide) (by decide)) ?_
                         rw [nI_zI (vN t n (tkR t n (tkR t n p)))]
                         exact hD3.up)
                  · have hv1 : vN t n (tkR t n p) ≤ 23 := by
                      have z := (Bool.and_eq_true _ _ ▸ b7).1
                      have z := of_decide_eq_false ((Bool.not_eq_true' _) ▸ z)
                      omega
                    refine G_S (pc := 91) f_215_91 rfl rfl rfl ?_
                    refine G_gR (pc := 92) f_215_92 (by decide) rfl (by first | assumption | exact hK.1 _ _ rfl) (by first | assumption | exact hK.2 _ _ _ rfl | (try dsimp only) <;> (repeat (first | exact up2_s | refine up2_o (by first | decide | omega) ?_)) <;> first | assumption | exact hK.2 _ _ _ rfl) ?_
                    refine G_ic (v := nI 1) (pc := 95) f_215_95 (by decide) ?_
                    refine G_S (pc := 96) f_215_96 rfl rfl rfl ?_
                    refine G_gR (pc := 97) f_215_97 (by decide) rfl (by first | assumption | exact hK.1 _ _ rfl) (by first | assumption | exact hK.2 _ _ _ rfl | (try dsimp only) <;> (repeat (first | exact up2_s | refine up2_o (by first | decide | omega) ?_)) <;> first | assumption | exact hK.2 _ _ _ rfl) ?_
                    refine G_ic (v := nI 0) (pc := 100) f_215_100 (by decide) ?_
                    refine G_iaN (pc := 101) f_215_101 (by first | assumption | exact hK.1 _ _ rfl) (by omega) (by omega) (by first | exact r03 | rfl) ?_
                    first | refine G_addN (pc := 102) f_215_102 ?_ | refine G_addZ (pc := 102) f_215_102 (by first | rfl | exact nI_zI _) (by first | rfl | exact nI_zI _) ?_ | refine G_S (pc := 102) f_215_102 rfl rfl rfl ?_
                    refine G_S (pc := 103) f_215_103 rfl rfl rfl ?_
                    refine G_gR (pc := 104) f_215_104 (by decide) rfl (by first | assumption | exact hK.1 _ _ rfl) (by first | assumption | exact hK.2 _ _ _ rfl | (try dsimp only) <;> (repeat (first | exact up2_s | refine up2_o (by first | decide | omega) ?_)) <;> first | assumption | exact hK.2 _ _ _ rfl) ?_
                    refine G_ic (v := nI 1) (pc := 107) f_215_107 (by decide) ?_
                    refine G_iaN (pc := 108) f_215_108 (by first | assumption | exact hK.1 _ _ rfl) (by omega) (by omega) (by first | exact r1 | rfl) ?_
                    refine G_isN (pc := 109) f_215_109 (by first | assumption | exact hK.1 _ _ rfl) (by omega) (by omega) ?_
                    refine G_ic (v := nI 1) (pc := 110) f_215_110 (by decide) ?_
                    refine G_rz (pc := 111) f_215_111 (by first | exact Or.inl rfl | exact Or.inr rfl | exact b2i_01 _ | assumption) ?_
                    first
                      | (have e : tkE 14 0 (vN t n (tkR t n p) : Int) (vN t n (tkR t n (tkR t n p)) : Int) (!decide (vN t n (tkR t n p) < 0 ∨ 23 < vN t n (tkR t n p)) && !decide (vN t n (tkR t n (tkR t n p)) < 0 ∨ 99 < vN t n (tkR t n (tkR t n p)))) E = E := by
                           unfold tkE
                           rw [if_neg (by decide), if_neg (by decide), if_neg (by decide), if_neg (by decide), if_neg (by decide), if_neg (by decide), if_neg (by decide), if_pos rfl, if_neg b7]
                         rw [e]
                         exact LN_fin ((hF1.tr hF2).tr hF3) T3 hf3 k21 hlt3 hp3 Fw.rf hD3)
                      | (have e : tkE 14 0 (vN t n (tkR t n p) : Int) (vN t n (tkR t n (tkR t n p)) : Int) (!decide (vN t n (tkR t n p) < 0 ∨ 23 < vN t n (tkR t n p)) && !decide (vN t n (tkR t n (tkR t n p)) < 0 ∨ 99 < vN t n (tkR t n (tkR t n p)))) E = up1 E (1 + vN t n (tkR t n p)) (vN t n (tkR t n (tkR t n p)) : Int) := by
                           unfold tkE
                           rw [if_neg (by decide), if_neg (by decide), if_neg (by decide), if_neg (by decide), if_neg (by decide), if_neg (by decide), if_neg (by decide), if_pos rfl, if_pos b7, Int.toNat_natCast]
                         rw [e]
                         refine LN_fin ((hF1.tr hF2).tr hF3) T3 hf3 k21 hlt3 hp3 (Fw.up (i := 108) (by decide) (by decide)) ?_
                         rw [nI_zI (vN t n (tkR t n (tkR t n p)))]
                         exact hD3.up)
                · exact absurd trivial b6
            · first | exact absurd b3 (by decide) | exact absurd (by decide) b3
          · first | exact absurd b2 (by decide) | exact absurd (by decide) b2
      · rw [if_neg h2]
        refine CG_in (mL := 3) (hl := true) (lv := [some (.ref 98), none, none]) (ll := [none, some (1668246885), none]) rfl rfl rfl ?_
        refine G_S (pc := 0) f_215_0 rfl rfl rfl ?_
        refine G_S (pc := 1) f_215_1 rfl rfl rfl ?_
        refine G_S (pc := 4) f_215_4 rfl rfl rfl ?_
        refine G_zeq (pc := 5) f_215_5 rfl (fun b1 => ?_) (fun b1 => ?_)
        · first | exact absurd b1 (by decide) | exact absurd (by decide) b1
        · refine G_S (pc := 8) f_215_8 rfl rfl rfl ?_
          refine G_S (pc := 9) f_215_9 rfl rfl rfl ?_
          refine G_S (pc := 12) f_215_12 rfl rfl rfl ?_
          refine G_zeq (pc := 13) f_215_13 rfl (fun b2 => ?_) (fun b2 => ?_)
          · refine G_S (pc := 21) f_215_21 rfl rfl rfl ?_
            refine G_CV (pc := 22) f_215_22 rfl rfl (by decide) rfl rfl (by first | assumption | exact hK.1 _ _ rfl) (by decide) ⟨Nat.le_of_ble_eq_true rfl, Nat.le_of_ble_eq_true rfl⟩ ?_
            refine CG.mono (m_tok0 S hk) ?_
            rintro _ M1 ⟨rfl, hF1, S1⟩
            obtain ⟨W1, T1, hf1, hD1, j21, j22, hlt1, hp1⟩ := S1
            have hK := W1.1
            have tn := m_num (C := C) (k := 0) (lo := 0) (hi := 23) W1 T1 hf1 hD1 j21 j22 hlt1 hp1 h (by decide) (by decide) (by decide)
            refine G_S (pc := 25) f_215_25 rfl rfl rfl ?_
            refine G_S (pc := 26) f_215_26 rfl rfl rfl ?_
            refine G_S (pc := 29) f_215_29 rfl rfl rfl ?_
            refine G_zne (pc := 30) f_215_30 rfl (fun b3 => ?_) (fun b3 => ?_)
            · refine G_S (pc := 60) f_215_60 rfl rfl rfl ?_
              refine G_ic (v := nI 0) (pc := 61) f_215_61 (by decide) ?_
              refine G_ic (v := nI 0) (pc := 62) f_215_62 (by decide) ?_
              refine G_bi (v := nI 23) (pc := 63) f_215_63 (by decide) ?_
              refine G_CV (pc := 65) f_215_65 rfl rfl (by decide) rfl rfl (by first | assumption | exact hK.1 _ _ rfl) (by decide) ⟨Nat.le_of_ble_eq_true rfl, Nat.le_of_ble_eq_true rfl⟩ ?_
              refine CG.mono (tn) ?_
              rintro _ M2 ⟨rfl, hF2, W2, T2, hf2, hD2, g21, g22, hlt2, hp2, r0, ro⟩
              have hK := W2.1
              first | refine G_bEq (pc := 68) f_215_68 rfl (fun b5 => ?_) (fun b5 => ?_) | refine G_zeqZ (pc := 68) f_215_68 rfl (by first | exact nI_toInt (by omega) | exact zI_toInt (by omega) (by omega) | rfl) (fun b5 => ?_) (fun b5 => ?_)
              · exact absurd trivial b5
              · refine G_S (pc := 71) f_215_71 rfl rfl rfl ?_
                refine G_ic (v := nI 1) (pc := 72) f_215_72 (by decide) ?_
                refine G_ic (v := nI 0) (pc := 73) f_215_73 (by decide) ?_
                refine G_bi (v := nI 99) (pc := 74) f_215_74 (by decide) ?_
                refine G_CV (pc := 76) f_215_76 rfl rfl (by decide) rfl rfl (by first | assumption | exact hK.1 _ _ rfl) (by decide) ⟨Nat.le_of_ble_eq_true rfl, Nat.le_of_ble_eq_true rfl⟩ ?_
                refine CG.mono (m_takeN W2 T2 h2) ?_
                rintro _ M3 ⟨rfl, hF3, h16⟩
                first | refine G_bNe (pc := 79) f_215_79 rfl (fun b6 => ?_) (fun b6 => ?_) | refine G_zneZ (pc := 79) f_215_79 rfl (by first | exact nI_toInt (by omega) | exact zI_toInt (by omega) (by omega) | rfl) (fun b6 => ?_) (fun b6 => ?_)
                · exact absurd b6 id
                · refine G_ic (v := nI 0) (pc := 82) f_215_82 (by decide) ?_
                  refine G_rz (pc := 83) f_215_83 (by first | exact Or.inl rfl | exact Or.inr rfl | exact b2i_01 _ | assumption) ?_
                  exact LN_no ((hF1.tr hF2).tr (hF3.1.sub (by decide) (by decide))) h16
            · first | exact absurd b3 (by decide) | exact absurd (by decide) b3
          · first | exact absurd b2 (by decide) | exact absurd (by decide) b2
    · rw [if_neg h]
      refine CG_in (mL := 3) (hl := true) (lv := [some (.ref 98), none, none]) (ll := [none, some (1668246885), none]) rfl rfl rfl ?_
      refine G_S (pc := 0) f_215_0 rfl rfl rfl ?_
      refine G_S (pc := 1) f_215_1 rfl rfl rfl ?_
      refine G_S (pc := 4) f_215_4 rfl rfl rfl ?_
      refine G_zeq (pc := 5) f_215_5 rfl (fun b1 => ?_) (fun b1 => ?_)
      · first | exact absurd b1 (by decide) | exact absurd (by decide) b1
      · refine G_S (pc := 8) f_215_8 rfl rfl rfl ?_
        refine G_S (pc := 9) f_215_9 rfl rfl rfl ?_
        refine G_S (pc := 12) f_215_12 rfl rfl rfl ?_
        refine G_zeq (pc := 13) f_215_13 rfl (fun b2 => ?_) (fun b2 => ?_)
        · refine G_S (pc := 21) f_215_21 rfl rfl rfl ?_
          refine G_CV (pc := 22) f_215_22 rfl rfl (by decide) rfl rfl (by first | assumption | exact hK.1 _ _ rfl) (by decide) ⟨Nat.le_of_ble_eq_true rfl, Nat.le_of_ble_eq_true rfl⟩ ?_
          refine CG.mono (m_tok0 S hk) ?_
          rintro _ M1 ⟨rfl, hF1, S1⟩
          have hK := S1.1.1
          refine G_S (pc := 25) f_215_25 rfl rfl rfl ?_
          refine G_S (pc := 26) f_215_26 rfl rfl rfl ?_
          refine G_S (pc := 29) f_215_29 rfl rfl rfl ?_
          refine G_zne (pc := 30) f_215_30 rfl (fun b3 => ?_) (fun b3 => ?_)
          · refine G_S (pc := 60) f_215_60 rfl rfl rfl ?_
            refine G_ic (v := nI 0) (pc := 61) f_215_61 (by decide) ?_
            refine G_ic (v := nI 0) (pc := 62) f_215_62 (by decide) ?_
            refine G_bi (v := nI 23) (pc := 63) f_215_63 (by decide) ?_
            refine G_CV (pc := 65) f_215_65 rfl rfl (by decide) rfl rfl (by first | assumption | exact hK.1 _ _ rfl) (by decide) ⟨Nat.le_of_ble_eq_true rfl, Nat.le_of_ble_eq_true rfl⟩ ?_
            refine CG.mono (m_takeN S1.1 S1.2.1 h) ?_
            rintro _ M2 ⟨rfl, hF2, h16⟩
            first | refine G_bEq (pc := 68) f_215_68 rfl (fun b5 => ?_) (fun b5 => ?_) | refine G_zeqZ (pc := 68) f_215_68 rfl (by first | exact nI_toInt (by omega) | exact zI_toInt (by omega) (by omega) | rfl) (fun b5 => ?_) (fun b5 => ?_)
            · refine G_ic (v := nI 0) (pc := 82) f_215_82 (by decide) ?_
              refine G_rz (pc := 83) f_215_83 (by first | exact Or.inl rfl | exact Or.inr rfl | exact b2i_01 _ | assumption) ?_
              exact LN_no (hF1.tr (hF2.1.sub (by decide) (by decide))) h16
            · exact absurd b5 id
          · first | exact absurd b3 (by decide) | exact absurd (by decide) b3
        · first | exact absurd b2 (by decide) | exact absurd (by decide) b2
theorem m_sightN (S : MSt M t n p f E T) (h : ∀ g, 15 ≤ g → g < 18 → ¬ w = nL (wk g)) {at_ : Int32} : CG C 216 [.ref 98, .long w, .int at_] M (LNq t n M (.inl (skp t n p))) := by
  have hK := S.1.1
  have n0 := h 15 (by decide) (by decide)
  have n1 := h 16 (by decide) (by decide)
  have n2 := h 17 (by decide) (by decide)
  rw [kw_f 15 (by decide)] at n0
  rw [kw_f 16 (by decide)] at n1
  rw [kw_f 17 (by decide)] at n2
  refine CG_in (mL := 5) (hl := true) (lv := [some (.ref 98), none, none, some (.int at_), none]) (ll := [none, some (w), none, none, none]) rfl rfl rfl ?_
  refine G_S (pc := 0) f_216_0 rfl rfl rfl ?_
  refine G_S (pc := 1) f_216_1 rfl rfl rfl ?_
  refine G_S (pc := 4) f_216_4 rfl rfl rfl ?_
  refine G_zne (pc := 5) f_216_5 rfl (fun b1 => ?_) (fun b1 => ?_)
  · refine G_ic (v := nI 0) (pc := 12) f_216_12 (by decide) ?_
    refine G_S (pc := 13) f_216_13 rfl rfl rfl ?_
    refine G_S (pc := 15) f_216_15 rfl rfl rfl ?_
    refine G_S (pc := 17) f_216_17 rfl rfl rfl ?_
    refine G_S (pc := 20) f_216_20 rfl rfl rfl ?_
    refine G_S (pc := 21) f_216_21 rfl rfl rfl ?_
    refine G_S (pc := 24) f_216_24 rfl rfl rfl ?_
    refine G_zeq (pc := 25) f_216_25 rfl (fun b3 => ?_) (fun b3 => ?_)
    · exact absurd (lc_eq.mp b3) n1
    · refine G_S (pc := 28) f_216_28 rfl rfl rfl ?_
      refine G_S (pc := 29) f_216_29 rfl rfl rfl ?_
      refine G_S (pc := 32) f_216_32 rfl rfl rfl ?_
      refine G_zeq (pc := 33) f_216_33 rfl (fun b4 => ?_) (fun b4 => ?_)
      · exact absurd (lc_eq.mp b4) n2
      · refine G_S (pc := 36) f_216_36 rfl rfl rfl ?_
        refine G_CV (pc := 37) f_216_37 rfl rfl (by decide) rfl rfl (by first | assumption | exact hK.1 _ _ rfl) (by decide) ⟨Nat.le_of_ble_eq_true rfl, Nat.le_of_ble_eq_true rfl⟩ ?_
        refine CG.mono (m_fails hK S.2.1.2.1) ?_
        rintro _ M2 ⟨rfl, hF2, h16⟩
        refine G_rz (pc := 40) f_216_40 (by exact Or.inl rfl) ?_
        exact m_fail (w' := none) S hF2 h16
  · exact absurd (lc_eq.mp b1) n0
theorem m_sight15 (S : MSt M t n p f E T) (hk : tkK t n p ≠ 0) {at_ : Int32} : CG C 216 [.ref 98, .long 1835101817, .int at_] M (LNq t n M (lnS t n 15 E T (nt f (fulB 15 E) 3 (skp t n p)) (tkR t n p))) := by
  have hK := S.1.1
  have e1 : fulB 15 E = false := rfl
  rw [e1, nt_f, ln_1 (by decide) (by decide), bad_d (lo := 1) (hi := 4) (by decide) (by decide)]
  by_cases h : tkK t n (tkR t n p) = 2
  · rw [if_pos h]
    refine CG_in (mL := 5) (hl := true) (lv := [some (.ref 98), none, none, some (.int at_), none]) (ll := [none, some (1835101817), none, none, none]) rfl rfl rfl ?_
    refine G_S (pc := 0) f_216_0 rfl rfl rfl ?_
    refine G_S (pc := 1) f_216_1 rfl rfl rfl ?_
    refine G_S (pc := 4) f_216_4 rfl rfl rfl ?_
    refine G_zne (pc := 5) f_216_5 rfl (fun b1 => ?_) (fun b1 => ?_)
    · first | exact absurd b1 (by decide) | exact absurd (by decide) b1
    · refine G_ic (v := nI 1) (pc := 8) f_216_8 (by decide) ?_
      refine G_S (pc := 9) f_216_9 rfl rfl rfl ?_
      refine G_S (pc := 13) f_216_13 rfl rfl rfl ?_
      refine G_S (pc := 15) f_216_15 rfl rfl rfl ?_
      refine G_S (pc := 17) f_216_17 rfl rfl rfl ?_
      refine G_S (pc := 41) f_216_41 rfl rfl rfl ?_
      refine G_S (pc := 43) f_216_43 rfl rfl rfl ?_
      refine G_S (pc := 54) f_216_54 rfl rfl rfl ?_
      refine G_CV (pc := 55) f_216_55 rfl rfl (by decide) rfl rfl (by first | assumption | exact hK.1 _ _ rfl) (by decide) ⟨Nat.le_of_ble_eq_true rfl, Nat.le_of_ble_eq_true rfl⟩ ?_
      refine CG.mono (m_tok0 S hk) ?_
      rintro _ M3 ⟨rfl, hF3, S3⟩
      obtain ⟨W3, T3, hf3, hD3, g21, g22, hlt3, hp3⟩ := S3
      have hK := W3.1
      have tn := m_num (C := C) (k := 0) (lo := 1) (hi := 4) W3 T3 hf3 hD3 g21 g22 hlt3 hp3 h (by decide) (by decide) (by decide)
      refine G_S (pc := 58) f_216_58 rfl rfl rfl ?_
      refine G_S (pc := 60) f_216_60 rfl rfl rfl ?_
      refine G_S (pc := 63) f_216_63 rfl rfl rfl ?_
      refine G_ic (v := nI 0) (pc := 64) f_216_64 (by decide) ?_
      refine G_ic (v := nI 1) (pc := 65) f_216_65 (by decide) ?_
      refine G_ic (v := nI 4) (pc := 66) f_216_66 (by decide) ?_
      refine G_CV (pc := 67) f_216_67 rfl rfl (by decide) rfl rfl (by first | assumption | exact hK.1 _ _ rfl) (by decide) ⟨Nat.le_of_ble_eq_true rfl, Nat.le_of_ble_eq_true rfl⟩ ?_
      refine CG.mono (tn) ?_
      rintro _ M4 ⟨rfl, hF4, W4, T4, hf4, hD4, k21, k22, hlt4, hp4, r0, ro⟩
      have hK := W4.1
      first | refine G_bNe (pc := 70) f_216_70 rfl (fun b7 => ?_) (fun b7 => ?_) | refine G_zneZ (pc := 70) f_216_70 rfl (by first | exact nI_toInt (by omega) | exact zI_toInt (by omega) (by omega) | rfl) (fun b7 => ?_) (fun b7 => ?_)
      · refine G_S (pc := 75) f_216_75 rfl rfl rfl ?_
        refine G_gR (pc := 76) f_216_76 (by decide) rfl (by first | assumption | exact hK.1 _ _ rfl) (by first | assumption | exact hK.2 _ _ _ rfl | (try dsimp only) <;> (repeat (first | exact up2_s | refine up2_o (by first | decide | omega) ?_)) <;> first | assumption | exact hK.2 _ _ _ rfl) ?_
        refine G_ic (v := nI 0) (pc := 79) f_216_79 (by decide) ?_
        refine G_S (pc := 80) f_216_80 rfl rfl rfl ?_
        refine G_gR (pc := 81) f_216_81 (by decide) rfl (by first | assumption | exact hK.1 _ _ rfl) (by first | assumption | exact hK.2 _ _ _ rfl | (try dsimp only) <;> (repeat (first | exact up2_s | refine up2_o (by first | decide | omega) ?_)) <;> first | assumption | exact hK.2 _ _ _ rfl) ?_
        refine G_ic (v := nI 0) (pc := 84) f_216_84 (by decide) ?_
        refine G_iaN (pc := 85) f_216_85 (by first | assumption | exact hK.1 _ _ rfl) (by omega) (by omega) (by first | exact r0 | rfl) ?_
        refine G_isN (pc := 86) f_216_86 (by first | assumption | exact hK.1 _ _ rfl) (by omega) (by omega) ?_
        refine G_ic (v := nI 1) (pc := 87) f_216_87 (by decide) ?_
        refine G_rz (pc := 88) f_216_88 (by first | exact Or.inl rfl | exact Or.inr rfl | exact b2i_01 _ | assumption) ?_
        have e : tkE 15 0 (vN t n (tkR t n p) : Int) (-1) (!decide (vN t n (tkR t n p) < 1 ∨ 4 < vN t n (tkR t n p))) E = up1 E 0 (vN t n (tkR t n p) : Int) := rfl
        rw [e]
        refine LN_fin (hF3.tr hF4) T4 hf4 k21 hlt4 hp4 (Fw.up (i := 108) (by decide) (by decide)) ?_
        rw [nI_zI (vN t n (tkR t n p))]
        exact hD4.up
      · exact absurd trivial b7
  · rw [if_neg h]
    refine CG_in (mL := 5) (hl := true) (lv := [some (.ref 98), none, none, some (.int at_), none]) (ll := [none, some (1835101817), none, none, none]) rfl rfl rfl ?_
    refine G_S (pc := 0) f_216_0 rfl rfl rfl ?_
    refine G_S (pc := 1) f_216_1 rfl rfl rfl ?_
    refine G_S (pc := 4) f_216_4 rfl rfl rfl ?_
    refine G_zne (pc := 5) f_216_5 rfl (fun b1 => ?_) (fun b1 => ?_)
    · first | exact absurd b1 (by decide) | exact absurd (by decide) b1
    · refine G_ic (v := nI 1) (pc := 8) f_216_8 (by decide) ?_
      refine G_S (pc := 9) f_216_9 rfl rfl rfl ?_
      refine G_S (pc := 13) f_216_13 rfl rfl rfl ?_
      refine G_S (pc := 15) f_216_15 rfl rfl rfl ?_
      refine G_S (pc := 17) f_216_17 rfl rfl rfl ?_
      refine G_S (pc := 41) f_216_41 rfl rfl rfl ?_
      refine G_S (pc := 43) f_216_43 rfl rfl rfl ?_
      refine G_S (pc := 54) f_216_54 rfl rfl rfl ?_
      refine G_CV (pc := 55) f_216_55 rfl rfl (by decide) rfl rfl (by first | assumption | exact hK.1 _ _ rfl) (by decide) ⟨Nat.le_of_ble_eq_true rfl, Nat.le_of_ble_eq_true rfl⟩ ?_
      refine CG.mono (m_tok0 S hk) ?_
      rintro _ M3 ⟨rfl, hF3, S3⟩
      have hK := S3.1.1
      refine G_S (pc := 58) f_216_58 rfl rfl rfl ?_
      refine G_S (pc := 60) f_216_60 rfl rfl rfl ?_
      refine G_S (pc := 63) f_216_63 rfl rfl rfl ?_
      refine G_ic (v := nI 0) (pc := 64) f_216_64 (by decide) ?_
      refine G_ic (v := nI 1) (pc := 65) f_216_65 (by decide) ?_
      refine G_ic (v := nI 4) (pc := 66) f_216_66 (by decide) ?_
      refine G_CV (pc := 67) f_216_67 rfl rfl (by decide) rfl rfl (by first | assumption | exact hK.1 _ _ rfl) (by decide) ⟨Nat.le_of_ble_eq_true rfl, Nat.le_of_ble_eq_true rfl⟩ ?_
      refine CG.mono (m_takeN S3.1 S3.2.1 h) ?_
      rintro _ M4 ⟨rfl, hF4, h16⟩
      first | refine G_bNe (pc := 70) f_216_70 rfl (fun b7 => ?_) (fun b7 => ?_) | refine G_zneZ (pc := 70) f_216_70 rfl (by first | exact nI_toInt (by omega) | exact zI_toInt (by omega) (by omega) | rfl) (fun b7 => ?_) (fun b7 => ?_)
      · exact absurd b7 id
      · refine G_ic (v := nI 0) (pc := 73) f_216_73 (by decide) ?_
        refine G_rz (pc := 74) f_216_74 (by first | exact Or.inl rfl | exact Or.inr rfl | exact b2i_01 _ | assumption) ?_
        exact LN_no (hF3.tr (hF4.1.sub (by decide) (by decide))) h16
theorem m_sight16 (S : MSt M t n p f E T) (hk : tkK t n p ≠ 0) (hn : skp t n p ≤ 600) (hE1 : 0 ≤ E 1 ∧ E 1 ≤ 10) : CG C 216 [.ref 98, .long 27985222756885860, .int (nI (skp t n p))] M (LNq t n M (lnS t n 16 E T (nt f (fulB 16 E) 3 (skp t n p)) (tkR t n p))) := by
  have hK := S.1.1
  have hf := S.2.2.1
  have hD := S.2.2.2.1
  have hlt := S.2.2.2.2.2.2.1
  have e1 : fulB 16 E = decide (((10 : Nat) : Int) ≤ E 1) := rfl
  rw [e1, ln_2 (by decide) (by decide), bad_d (lo := 1) (hi := 15) (i := 0) (by decide) (by decide), bad_d (lo := 1) (hi := 36) (i := 1) (by decide) (by decide)]
  by_cases h : tkK t n (tkR t n p) = 2
  · rw [if_pos h]
    by_cases h2 : tkK t n (tkR t n (tkR t n p)) = 2
    · rw [if_pos h2]
      refine CG_in (mL := 5) (hl := true) (lv := [some (.ref 98), none, none, some (.int (nI (skp t n p))), none]) (ll := [none, some (27985222756885860), none, none, none]) rfl rfl rfl ?_
      refine G_S (pc := 0) f_216_0 rfl rfl rfl ?_
      refine G_S (pc := 1) f_216_1 rfl rfl rfl ?_
      refine G_S (pc := 4) f_216_4 rfl rfl rfl ?_
      refine G_zne (pc := 5) f_216_5 rfl (fun b1 => ?_) (fun b1 => ?_)
      · refine G_ic (v := nI 0) (pc := 12) f_216_12 (by decide) ?_
        refine G_S (pc := 13) f_216_13 rfl rfl rfl ?_
        refine G_S (pc := 15) f_216_15 rfl rfl rfl ?_
        refine G_S (pc := 17) f_216_17 rfl rfl rfl ?_
        refine G_S (pc := 20) f_216_20 rfl rfl rfl ?_
        refine G_S (pc := 21) f_216_21 rfl rfl rfl ?_
        refine G_S (pc := 24) f_216_24 rfl rfl rfl ?_
        refine G_zeq (pc := 25) f_216_25 rfl (fun b3 => ?_) (fun b3 => ?_)
        · refine G_S (pc := 41) f_216_41 rfl rfl rfl ?_
          refine G_S (pc := 43) f_216_43 rfl rfl rfl ?_
          refine G_S (pc := 46) f_216_46 rfl rfl rfl ?_
          refine G_ic (v := nI 1) (pc := 47) f_216_47 (by decide) ?_
          refine G_bi (v := nI 10) (pc := 48) f_216_48 (by decide) ?_
          refine G_S (pc := 50) f_216_50 rfl rfl rfl ?_
          refine G_CV (pc := 51) f_216_51 rfl rfl (by decide) rfl rfl (by first | assumption | exact hK.1 _ _ rfl) (by decide) ⟨Nat.le_of_ble_eq_true rfl, Nat.le_of_ble_eq_true rfl⟩ ?_
          refine CG.mono (m_full hK hf hlt hn hD (by decide) hE1.1 hE1.2 (by decide)) ?_
          rintro _ M0 ⟨rfl, hF0, hf0⟩
          have hK := hF0.1.K hK
          refine G_S (pc := 54) f_216_54 rfl rfl rfl ?_
          refine G_CV (pc := 55) f_216_55 rfl rfl (by decide) rfl rfl (by first | assumption | exact hK.1 _ _ rfl) (by decide) ⟨Nat.le_of_ble_eq_true rfl, Nat.le_of_ble_eq_true rfl⟩ ?_
          refine CG.mono (m_tokS S hk hF0 hf0) ?_
          rintro _ M1 ⟨rfl, hF1, S1⟩
          obtain ⟨W1, T1, hf1, hD1, j21, j22, hlt1, hp1⟩ := S1
          have hK := W1.1
          have tn := m_num (C := C) (k := 1) (lo := 1) (hi := 15) W1 T1 hf1 hD1 j21 j22 hlt1 hp1 h (by decide) (by decide) (by decide)
          refine G_S (pc := 58) f_216_58 rfl rfl rfl ?_
          refine G_S (pc := 60) f_216_60 rfl rfl rfl ?_
          refine G_S (pc := 89) f_216_89 rfl rfl rfl ?_
          refine G_ic (v := nI 1) (pc := 90) f_216_90 (by decide) ?_
          refine G_ic (v := nI 1) (pc := 91) f_216_91 (by decide) ?_
          refine G_bi (v := nI 15) (pc := 92) f_216_92 (by decide) ?_
          refine G_CV (pc := 94) f_216_94 rfl rfl (by decide) rfl rfl (by first | assumption | exact hK.1 _ _ rfl) (by decide) ⟨Nat.le_of_ble_eq_true rfl, Nat.le_of_ble_eq_true rfl⟩ ?_
          refine CG.mono (tn) ?_
          rintro _ M2 ⟨rfl, hF2, W2, T2, hf2, hD2, g21, g22, hlt2, hp2, r1, ro⟩
          have hK := W2.1
          have tn2 := m_num (C := C) (k := 2) (lo := 1) (hi := 36) W2 T2 hf2 hD2 g21 g22 hlt2 hp2 h2 (by decide) (by decide) (by decide)
          first | refine G_bEq (pc := 97) f_216_97 rfl (fun b8 => ?_) (fun b8 => ?_) | refine G_zeqZ (pc := 97) f_216_97 rfl (by first | exact nI_toInt (by omega) | exact zI_toInt (by omega) (by omega) | rfl) (fun b8 => ?_) (fun b8 => ?_)
          · exact absurd trivial b8
          · refine G_S (pc := 100) f_216_100 rfl rfl rfl ?_
            refine G_ic (v := nI 2) (pc := 101) f_216_101 (by decide) ?_
            refine G_ic (v := nI 1) (pc := 102) f_216_102 (by decide) ?_
            refine G_bi (v := nI 36) (pc := 103) f_216_103 (by decide) ?_
            refine G_CV (pc := 105) f_216_105 rfl rfl (by decide) rfl rfl (by first | assumption | exact hK.1 _ _ rfl) (by decide) ⟨Nat.le_of_ble_eq_true rfl, Nat.le_of_ble_eq_true rfl⟩ ?_
            refine CG.mono (tn2) ?_
            rintro _ M3 ⟨rfl, hF3, W3, T3, hf3, hD3, k21, k22, hlt3, hp3, r2, ro3⟩
            have hK := W3.1
            have r13 : M3.2.1 109 1 = nI (vN t n (tkR t n p)) := (ro3 1 (by decide)).trans r1
            have hF4 : Fw [109] [21] M3 (M3.1, up2 (up2 M3.2.1 98 21 (nI (T ||| vN t n (tkR t n p)))) 109 0 (nI 1), M3.2.2.1, M3.2.2.2) := (Fw.upf (k := 21) (x := nI (T ||| vN t n (tkR t n p))) (by decide)).tr (Fw.up (i := 109) (k := 0) (x := nI 1) (by decide) (by decide))
            have q1 : up2 (up2 M3.2.1 98 21 (nI (T ||| vN t n (tkR t n p)))) 109 0 (nI 1) 109 1 = zI (vN t n (tkR t n p)) := by
              rw [← nI_zI]
              exact (by (try dsimp only); exact up2_o (by omega) (by (try dsimp only); exact up2_o (by omega) r13))
            have q2 : up2 (up2 M3.2.1 98 21 (nI (T ||| vN t n (tkR t n p)))) 109 0 (nI 1) 109 2 = zI (vN t n (tkR t n (tkR t n p))) := by
              rw [← nI_zI]
              exact (by (try dsimp only); exact up2_o (by omega) (by (try dsimp only); exact up2_o (by omega) r2))
            have q0 : up2 (up2 M3.2.1 98 21 (nI (T ||| vN t n (tkR t n p)))) 109 0 (nI 1) 109 0 = zI ((1 : Nat) : Int) := by
              rw [← nI_zI]
              exact (by (try dsimp only); exact up2_s)
            have tk := m_keep (C := C) (c := 1) (a := 2) (m := 10) (x := ((1 : Nat) : Int)) (y := (vN t n (tkR t n p) : Int)) (z := (vN t n (tkR t n (tkR t n p)) : Int)) (M := (M3.1, up2 (up2 M3.2.1 98 21 (nI (T ||| vN t n (tkR t n p)))) 109 0 (nI 1), M3.2.2.1, M3.2.2.2)) (hF4.1.K hK) (hD3.fp hF4.1 (by decide)) hE1.1 hE1.2 (by decide) (by decide) (by decide) q0 q1 q2
            first | refine G_bNe (pc := 108) f_216_108 rfl (fun b9 => ?_) (fun b9 => ?_) | refine G_zneZ (pc := 108) f_216_108 rfl (by first | exact nI_toInt (by omega) | exact zI_toInt (by omega) (by omega) | rfl) (fun b9 => ?_) (fun b9 => ?_)
            · refine G_S (pc := 113) f_216_113 rfl rfl rfl ?_
              refine G_S (pc := 114) f_216_114 rfl rfl rfl ?_
              refine G_gIv (pc := 115) f_216_115 (by decide) rfl (by decide) (by first | assumption | exact hK.1 _ _ rfl) (by first | assumption | exact mI_s | ((refine mI_o (by first | decide | omega) ?_); (repeat (refine mI_o (by first | decide | omega) ?_)); first | exact mI_s | assumption) | rfl) ?_
              refine G_S (pc := 118) f_216_118 rfl rfl rfl ?_
              refine G_gR (pc := 119) f_216_119 (by decide) rfl (by first | assumption | exact hK.1 _ _ rfl) (by first | assumption | exact hK.2 _ _ _ rfl | (try dsimp only) <;> (repeat (first | exact up2_s | refine up2_o (by first | decide | omega) ?_)) <;> first | assumption | exact hK.2 _ _ _ rfl) ?_
              refine G_ic (v := nI 1) (pc := 122) f_216_122 (by decide) ?_
              refine G_iaN (pc := 123) f_216_123 (by first | assumption | exact hK.1 _ _ rfl) (by omega) (by omega) (by first | exact r13 | rfl) ?_
              first | refine G_orN (pc := 124) f_216_124 ?_ | refine G_S (pc := 124) f_216_124 rfl rfl rfl ?_
              refine G_pI (pc := 125) f_216_125 rfl (by first | assumption | exact hK.1 _ _ rfl) ?_
              refine G_S (pc := 128) f_216_128 rfl rfl rfl ?_
              refine G_gR (pc := 129) f_216_129 (by decide) rfl (by first | assumption | exact hK.1 _ _ rfl) (by first | assumption | exact hK.2 _ _ _ rfl | (try dsimp only) <;> (repeat (first | exact up2_s | refine up2_o (by first | decide | omega) ?_)) <;> first | assumption | exact hK.2 _ _ _ rfl) ?_
              refine G_ic (v := nI 0) (pc := 132) f_216_132 (by decide) ?_
              refine G_S (pc := 133) f_216_133 rfl rfl rfl ?_
              refine G_S (pc := 134) f_216_134 rfl rfl rfl ?_
              refine G_S (pc := 137) f_216_137 rfl rfl rfl ?_
              refine G_zne (pc := 138) f_216_138 rfl (fun b10 => ?_) (fun b10 => ?_)
              · first | exact absurd b10 (by decide) | exact absurd (by decide) b10
              · refine G_ic (v := nI 1) (pc := 141) f_216_141 (by decide) ?_
                refine G_S (pc := 142) f_216_142 rfl rfl rfl ?_
                refine G_isN (pc := 146) f_216_146 (by first | assumption | exact hK.1 _ _ rfl) (by omega) (by omega) ?_
                refine G_S (pc := 147) f_216_147 rfl rfl rfl ?_
                refine G_ic (v := nI 1) (pc := 148) f_216_148 (by decide) ?_
                refine G_ic (v := nI 2) (pc := 149) f_216_149 (by decide) ?_
                refine G_bi (v := nI 10) (pc := 150) f_216_150 (by decide) ?_
                refine G_CV (pc := 152) f_216_152 rfl rfl (by decide) rfl rfl (by first | assumption | exact hK.1 _ _ rfl) (by decide) ⟨Nat.le_of_ble_eq_true rfl, Nat.le_of_ble_eq_true rfl⟩ ?_
                refine CG.mono (tk) ?_
                rintro _ M5 ⟨rfl, hF5, hD5⟩
                refine G_ic (v := nI 1) (pc := 155) f_216_155 (by decide) ?_
                refine G_rz (pc := 156) f_216_156 (by first | exact Or.inl rfl | exact Or.inr rfl | exact b2i_01 _ | assumption) ?_
                have e : tkE 16 0 (vN t n (tkR t n p) : Int) (vN t n (tkR t n (tkR t n p)) : Int) (!decide (vN t n (tkR t n p) < 1 ∨ 15 < vN t n (tkR t n p)) && !decide (vN t n (tkR t n (tkR t n p)) < 1 ∨ 36 < vN t n (tkR t n (tkR t n p)))) E = if E 1 = ((10 : Nat) : Int) then E else ad3 E 1 (2 + 3 * (E 1).toNat) ((1 : Nat) : Int) (vN t n (tkR t n p) : Int) (vN t n (tkR t n (tkR t n p)) : Int) := rfl
                have eT : tkT 16 (vN t n (tkR t n p) : Int) T = T ||| vN t n (tkR t n p) := rfl
                rw [e, eT]
                exact LN_fin (((hF1.tr hF2).tr hF3).tr (hF4.1.sub (by decide) (by decide))) (T3.fw hF4 (by decide) (by decide) (by decide) (by decide)) (hf3.fp hF4.1 (by decide) (by decide)) (by (try dsimp only); exact up2_o (by omega) (by (try dsimp only); exact up2_s)) hlt3 hp3 hF5 hD5
            · exact absurd trivial b9
        · first | exact absurd b3 (by decide) | exact absurd (by decide) b3
      · first | exact absurd b1 (by decide) | exact absurd (by decide) b1
    · rw [if_neg h2]
      refine CG_in (mL := 5) (hl := true) (lv := [some (.ref 98), none, none, some (.int (nI (skp t n p))), none]) (ll := [none, some (27985222756885860), none, none, none]) rfl rfl rfl ?_
      refine G_S (pc := 0) f_216_0 rfl rfl rfl ?_
      refine G_S (pc := 1) f_216_1 rfl rfl rfl ?_
      refine G_S (pc := 4) f_216_4 rfl rfl rfl ?_
      refine G_zne (pc := 5) f_216_5 rfl (fun b1 => ?_) (fun b1 => ?_)
      · refine G_ic (v := nI 0) (pc := 12) f_216_12 (by decide) ?_
        refine G_S (pc := 13) f_216_13 rfl rfl rfl ?_
        refine G_S (pc := 15) f_216_15 rfl rfl rfl ?_
        refine G_S (pc := 17) f_216_17 rfl rfl rfl ?_
        refine G_S (pc := 20) f_216_20 rfl rfl rfl ?_
        refine G_S (pc := 21) f_216_21 rfl rfl rfl ?_
        refine G_S (pc := 24) f_216_24 rfl rfl rfl ?_
        refine G_zeq (pc := 25) f_216_25 rfl (fun b3 => ?_) (fun b3 => ?_)
        · refine G_S (pc := 41) f_216_41 rfl rfl rfl ?_
          refine G_S (pc := 43) f_216_43 rfl rfl rfl ?_
          refine G_S (pc := 46) f_216_46 rfl rfl rfl ?_
          refine G_ic (v := nI 1) (pc := 47) f_216_47 (by decide) ?_
          refine G_bi (v := nI 10) (pc := 48) f_216_48 (by decide) ?_
          refine G_S (pc := 50) f_216_50 rfl rfl rfl ?_
          refine G_CV (pc := 51) f_216_51 rfl rfl (by decide) rfl rfl (by first | assumption | exact hK.1 _ _ rfl) (by decide) ⟨Nat.le_of_ble_eq_true rfl, Nat.le_of_ble_eq_true rfl⟩ ?_
          refine CG.mono (m_full hK hf hlt hn hD (by decide) hE1.1 hE1.2 (by decide)) ?_
          rintro _ M0 ⟨rfl, hF0, hf0⟩
          have hK := hF0.1.K hK
          refine G_S (pc := 54) f_216_54 rfl rfl rfl ?_
          refine G_CV (pc := 55) f_216_55 rfl rfl (by decide) rfl rfl (by first | assumption | exact hK.1 _ _ rfl) (by decide) ⟨Nat.le_of_ble_eq_true rfl, Nat.le_of_ble_eq_true rfl⟩ ?_
          refine CG.mono (m_tokS S hk hF0 hf0) ?_
          rintro _ M1 ⟨rfl, hF1, S1⟩
          obtain ⟨W1, T1, hf1, hD1, j21, j22, hlt1, hp1⟩ := S1
          have hK := W1.1
          have tn := m_num (C := C) (k := 1) (lo := 1) (hi := 15) W1 T1 hf1 hD1 j21 j22 hlt1 hp1 h (by decide) (by decide) (by decide)
          refine G_S (pc := 58) f_216_58 rfl rfl rfl ?_
          refine G_S (pc := 60) f_216_60 rfl rfl rfl ?_
          refine G_S (pc := 89) f_216_89 rfl rfl rfl ?_
          refine G_ic (v := nI 1) (pc := 90) f_216_90 (by decide) ?_
          refine G_ic (v := nI 1) (pc := 91) f_216_91 (by decide) ?_
          refine G_bi (v := nI 15) (pc := 92) f_216_92 (by decide) ?_
          refine G_CV (pc := 94) f_216_94 rfl rfl (by decide) rfl rfl (by first | assumption | exact hK.1 _ _ rfl) (by decide) ⟨Nat.le_of_ble_eq_true rfl, Nat.le_of_ble_eq_true rfl⟩ ?_
          refine CG.mono (tn) ?_
          rintro _ M2 ⟨rfl, hF2, W2, T2, hf2, hD2, g21, g22, hlt2, hp2, r1, ro⟩
          have hK := W2.1
          first | refine G_bEq (pc := 97) f_216_97 rfl (fun b8 => ?_) (fun b8 => ?_) | refine G_zeqZ (pc := 97) f_216_97 rfl (by first | exact nI_toInt (by omega) | exact zI_toInt (by omega) (by omega) | rfl) (fun b8 => ?_) (fun b8 => ?_)
          · exact absurd trivial b8
          · refine G_S (pc := 100) f_216_100 rfl rfl rfl ?_
            refine G_ic (v := nI 2) (pc := 101) f_216_101 (by decide) ?_
            refine G_ic (v := nI 1) (pc := 102) f_216_102 (by decide) ?_
            refine G_bi (v := nI 36) (pc := 103) f_216_103 (by decide) ?_
            refine G_CV (pc := 105) f_216_105 rfl rfl (by decide) rfl rfl (by first | assumption | exact hK.1 _ _ rfl) (by decide) ⟨Nat.le_of_ble_eq_true rfl, Nat.le_of_ble_eq_true rfl⟩ ?_
            refine CG.mono (m_takeN W2 T2 h2) ?_
            rintro _ M3 ⟨rfl, hF3, h16⟩
            first | refine G_bNe (pc := 108) f_216_108 rfl (fun b9 => ?_) (fun b9 => ?_) | refine G_zneZ (pc := 108) f_216_108 rfl (by first | exact nI_toInt (by omega) | exact zI_toInt (by omega) (by omega) | rfl) (fun b9 => ?_) (fun b9 => ?_)
            · exact absurd b9 id
            · refine G_ic (v := nI 0) (pc := 111) f_216_111 (by decide) ?_
              refine G_rz (pc := 112) f_216_112 (by first | exact Or.inl rfl | exact Or.inr rfl | exact b2i_01 _ | assumption) ?_
              exact LN_no ((hF1.tr hF2).tr (hF3.1.sub (by decide) (by decide))) h16
        · first | exact absurd b3 (by decide) | exact absurd (by decide) b3
      · first | exact absurd b1 (by decide) | exact absurd (by decide) b1
  · rw [if_neg h]
    refine CG_in (mL := 5) (hl := true) (lv := [some (.ref 98), none, none, some (.int (nI (skp t n p))), none]) (ll := [none, some (27985222756885860), none, none, none]) rfl rfl rfl ?_
    refine G_S (pc := 0) f_216_0 rfl rfl rfl ?_
    refine G_S (pc := 1) f_216_1 rfl rfl rfl ?_
    refine G_S (pc := 4) f_216_4 rfl rfl rfl ?_
    refine G_zne (pc := 5) f_216_5 rfl (fun b1 => ?_) (fun b1 => ?_)
    · refine G_ic (v := nI 0) (pc := 12) f_216_12 (by decide) ?_
      refine G_S (pc := 13) f_216_13 rfl rfl rfl ?_
      refine G_S (pc := 15) f_216_15 rfl rfl rfl ?_
      refine G_S (pc := 17) f_216_17 rfl rfl rfl ?_
      refine G_S (pc := 20) f_216_20 rfl rfl rfl ?_
      refine G_S (pc := 21) f_216_21 rfl rfl rfl ?_
      refine G_S (pc := 24) f_216_24 rfl rfl rfl ?_
      refine G_zeq (pc := 25) f_216_25 rfl (fun b3 => ?_) (fun b3 => ?_)
      · refine G_S (pc := 41) f_216_41 rfl rfl rfl ?_
        refine G_S (pc := 43) f_216_43 rfl rfl rfl ?_
        refine G_S (pc := 46) f_216_46 rfl rfl rfl ?_
        refine G_ic (v := nI 1) (pc := 47) f_216_47 (by decide) ?_
        refine G_bi (v := nI 10) (pc := 48) f_216_48 (by decide) ?_
        refine G_S (pc := 50) f_216_50 rfl rfl rfl ?_
        refine G_CV (pc := 51) f_216_51 rfl rfl (by decide) rfl rfl (by first | assumption | exact hK.1 _ _ rfl) (by decide) ⟨Nat.le_of_ble_eq_true rfl, Nat.le_of_ble_eq_true rfl⟩ ?_
        refine CG.mono (m_full hK hf hlt hn hD (by decide) hE1.1 hE1.2 (by decide)) ?_
        rintro _ M0 ⟨rfl, hF0, hf0⟩
        have hK := hF0.1.K hK
        refine G_S (pc := 54) f_216_54 rfl rfl rfl ?_
        refine G_CV (pc := 55) f_216_55 rfl rfl (by decide) rfl rfl (by first | assumption | exact hK.1 _ _ rfl) (by decide) ⟨Nat.le_of_ble_eq_true rfl, Nat.le_of_ble_eq_true rfl⟩ ?_
        refine CG.mono (m_tokS S hk hF0 hf0) ?_
        rintro _ M1 ⟨rfl, hF1, S1⟩
        have hK := S1.1.1
        refine G_S (pc := 58) f_216_58 rfl rfl rfl ?_
        refine G_S (pc := 60) f_216_60 rfl rfl rfl ?_
        refine G_S (pc := 89) f_216_89 rfl rfl rfl ?_
        refine G_ic (v := nI 1) (pc := 90) f_216_90 (by decide) ?_
        refine G_ic (v := nI 1) (pc := 91) f_216_91 (by decide) ?_
        refine G_bi (v := nI 15) (pc := 92) f_216_92 (by decide) ?_
        refine G_CV (pc := 94) f_216_94 rfl rfl (by decide) rfl rfl (by first | assumption | exact hK.1 _ _ rfl) (by decide) ⟨Nat.le_of_ble_eq_true rfl, Nat.le_of_ble_eq_true rfl⟩ ?_
        refine CG.mono (m_takeN S1.1 S1.2.1 h) ?_
        rintro _ M2 ⟨rfl, hF2, h16⟩
        first | refine G_bEq (pc := 97) f_216_97 rfl (fun b8 => ?_) (fun b8 => ?_) | refine G_zeqZ (pc := 97) f_216_97 rfl (by first | exact nI_toInt (by omega) | exact zI_toInt (by omega) (by omega) | rfl) (fun b8 => ?_) (fun b8 => ?_)
        · refine G_ic (v := nI 0) (pc := 111) f_216_111 (by decide) ?_
          refine G_rz (pc := 112) f_216_112 (by first | exact Or.inl rfl | exact Or.inr rfl | exact b2i_01 _ | assumption) ?_
          exact LN_no (hF1.tr (hF2.1.sub (by decide) (by decide))) h16
        · exact absurd b8 id
      · first | exact absurd b3 (by decide) | exact absurd (by decide) b3
    · first | exact absurd b1 (by decide) | exact absurd (by decide) b1
theorem m_sight17 (S : MSt M t n p f E T) (hk : tkK t n p ≠ 0) (hn : skp t n p ≤ 600) (hE1 : 0 ≤ E 1 ∧ E 1 ≤ 10) : CG C 216 [.ref 98, .long 32497584101418340, .int (nI (skp t n p))] M (LNq t n M (lnS t n 17 E T (nt f (fulB 17 E) 3 (skp t n p)) (tkR t n p))) := by
  have hK := S.1.1
  have hf := S.2.2.1
  have hD := S.2.2.2.1
  have hlt := S.2.2.2.2.2.2.1
  have e1 : fulB 17 E = decide (((10 : Nat) : Int) ≤ E 1) := rfl
  rw [e1, ln_2 (by decide) (by decide), bad_d (lo := 1) (hi := 15) (i := 0) (by decide) (by decide), bad_d (lo := 1) (hi := 36) (i := 1) (by decide) (by decide)]
  by_cases h : tkK t n (tkR t n p) = 2
  · rw [if_pos h]
    by_cases h2 : tkK t n (tkR t n (tkR t n p)) = 2
    · rw [if_pos h2]
      refine CG_in (mL := 5) (hl := true) (lv := [some (.ref 98), none, none, some (.int (nI (skp t n p))), none]) (ll := [none, some (32497584101418340), none, none, none]) rfl rfl rfl ?_
      refine G_S (pc := 0) f_216_0 rfl rfl rfl ?_
      refine G_S (pc := 1) f_216_1 rfl rfl rfl ?_
      refine G_S (pc := 4) f_216_4 rfl rfl rfl ?_
      refine G_zne (pc := 5) f_216_5 rfl (fun b1 => ?_) (fun b1 => ?_)
      · refine G_ic (v := nI 0) (pc := 12) f_216_12 (by decide) ?_
        refine G_S (pc := 13) f_216_13 rfl rfl rfl ?_
        refine G_S (pc := 15) f_216_15 rfl rfl rfl ?_
        refine G_S (pc := 17) f_216_17 rfl rfl rfl ?_
        refine G_S (pc := 20) f_216_20 rfl rfl rfl ?_
        refine G_S (pc := 21) f_216_21 rfl rfl rfl ?_
        refine G_S (pc := 24) f_216_24 rfl rfl rfl ?_
        refine G_zeq (pc := 25) f_216_25 rfl (fun b3 => ?_) (fun b3 => ?_)
        · first | exact absurd b3 (by decide) | exact absurd (by decide) b3
        · refine G_S (pc := 28) f_216_28 rfl rfl rfl ?_
          refine G_S (pc := 29) f_216_29 rfl rfl rfl ?_
          refine G_S (pc := 32) f_216_32 rfl rfl rfl ?_
          refine G_zeq (pc := 33) f_216_33 rfl (fun b4 => ?_) (fun b4 => ?_)
          · refine G_S (pc := 41) f_216_41 rfl rfl rfl ?_
            refine G_S (pc := 43) f_216_43 rfl rfl rfl ?_
            refine G_S (pc := 46) f_216_46 rfl rfl rfl ?_
            refine G_ic (v := nI 1) (pc := 47) f_216_47 (by decide) ?_
            refine G_bi (v := nI 10) (pc := 48) f_216_48 (by decide) ?_
            refine G_S (pc := 50) f_216_50 rfl rfl rfl ?_
            refine G_CV (pc := 51) f_216_51 rfl rfl (by decide) rfl rfl (by first | assumption | exact hK.1 _ _ rfl) (by decide) ⟨Nat.le_of_ble_eq_true rfl, Nat.le_of_ble_eq_true rfl⟩ ?_
            refine CG.mono (m_full hK hf hlt hn hD (by decide) hE1.1 hE1.2 (by decide)) ?_
            rintro _ M0 ⟨rfl, hF0, hf0⟩
            have hK := hF0.1.K hK
            refine G_S (pc := 54) f_216_54 rfl rfl rfl ?_
            refine G_CV (pc := 55) f_216_55 rfl rfl (by decide) rfl rfl (by first | assumption | exact hK.1 _ _ rfl) (by decide) ⟨Nat.le_of_ble_eq_true rfl, Nat.le_of_ble_eq_true rfl⟩ ?_
            refine CG.mono (m_tokS S hk hF0 hf0) ?_
            rintro _ M1 ⟨rfl, hF1, S1⟩
            obtain ⟨W1, T1, hf1, hD1, j21, j22, hlt1, hp1⟩ := S1
            have hK := W1.1
            have tn := m_num (C := C) (k := 1) (lo := 1) (hi := 15) W1 T1 hf1 hD1 j21 j22 hlt1 hp1 h (by decide) (by decide) (by decide)
            refine G_S (pc := 58) f_216_58 rfl rfl rfl ?_
            refine G_S (pc := 60) f_216_60 rfl rfl rfl ?_
            refine G_S (pc := 89) f_216_89 rfl rfl rfl ?_
            refine G_ic (v := nI 1) (pc := 90) f_216_90 (by decide) ?_
            refine G_ic (v := nI 1) (pc := 91) f_216_91 (by decide) ?_
            refine G_bi (v := nI 15) (pc := 92) f_216_92 (by decide) ?_
            refine G_CV (pc := 94) f_216_94 rfl rfl (by decide) rfl rfl (by first | assumption | exact hK.1 _ _ rfl) (by decide) ⟨Nat.le_of_ble_eq_true rfl, Nat.le_of_ble_eq_true rfl⟩ ?_
            refine CG.mono (tn) ?_
            rintro _ M2 ⟨rfl, hF2, W2, T2, hf2, hD2, g21, g22, hlt2, hp2, r1, ro⟩
            have hK := W2.1
            have tn2 := m_num (C := C) (k := 2) (lo := 1) (hi := 36) W2 T2 hf2 hD2 g21 g22 hlt2 hp2 h2 (by decide) (by decide) (by decide)
            first | refine G_bEq (pc := 97) f_216_97 rfl (fun b8 => ?_) (fun b8 => ?_) | refine G_zeqZ (pc := 97) f_216_97 rfl (by first | exact nI_toInt (by omega) | exact zI_toInt (by omega) (by omega) | rfl) (fun b8 => ?_) (fun b8 => ?_)
            · exact absurd trivial b8
            · refine G_S (pc := 100) f_216_100 rfl rfl rfl ?_
              refine G_ic (v := nI 2) (pc := 101) f_216_101 (by decide) ?_
              refine G_ic (v := nI 1) (pc := 102) f_216_102 (by decide) ?_
              refine G_bi (v := nI 36) (pc := 103) f_216_103 (by decide) ?_
              refine G_CV (pc := 105) f_216_105 rfl rfl (by decide) rfl rfl (by first | assumption | exact hK.1 _ _ rfl) (by decide) ⟨Nat.le_of_ble_eq_true rfl, Nat.le_of_ble_eq_true rfl⟩ ?_
              refine CG.mono (tn2) ?_
              rintro _ M3 ⟨rfl, hF3, W3, T3, hf3, hD3, k21, k22, hlt3, hp3, r2, ro3⟩
              have hK := W3.1
              have r13 : M3.2.1 109 1 = nI (vN t n (tkR t n p)) := (ro3 1 (by decide)).trans r1
              have hF4 : Fw [109] [21] M3 (M3.1, up2 (up2 M3.2.1 98 21 (nI (T ||| vN t n (tkR t n p)))) 109 0 (nI 0), M3.2.2.1, M3.2.2.2) := (Fw.upf (k := 21) (x := nI (T ||| vN t n (tkR t n p))) (by decide)).tr (Fw.up (i := 109) (k := 0) (x := nI 0) (by decide) (by decide))
              have q1 : up2 (up2 M3.2.1 98 21 (nI (T ||| vN t n (tkR t n p)))) 109 0 (nI 0) 109 1 = zI (vN t n (tkR t n p)) := by
                rw [← nI_zI]
                exact (by (try dsimp only); exact up2_o (by omega) (by (try dsimp only); exact up2_o (by omega) r13))
              have q2 : up2 (up2 M3.2.1 98 21 (nI (T ||| vN t n (tkR t n p)))) 109 0 (nI 0) 109 2 = zI (vN t n (tkR t n (tkR t n p))) := by
                rw [← nI_zI]
                exact (by (try dsimp only); exact up2_o (by omega) (by (try dsimp only); exact up2_o (by omega) r2))
              have q0 : up2 (up2 M3.2.1 98 21 (nI (T ||| vN t n (tkR t n p)))) 109 0 (nI 0) 109 0 = zI ((0 : Nat) : Int) := by
                rw [← nI_zI]
                exact (by (try dsimp only); exact up2_s)
              have tk := m_keep (C := C) (c := 1) (a := 2) (m := 10) (x := ((0 : Nat) : Int)) (y := (vN t n (tkR t n p) : Int)) (z := (vN t n (tkR t n (tkR t n p)) : Int)) (M := (M3.1, up2 (up2 M3.2.1 98 21 (nI (T ||| vN t n (tkR t n p)))) 109 0 (nI 0), M3.2.2.1, M3.2.2.2)) (hF4.1.K hK) (hD3.fp hF4.1 (by decide)) hE1.1 hE1.2 (by decide) (by decide) (by decide) q0 q1 q2
              first | refine G_bNe (pc := 108) f_216_108 rfl (fun b9 => ?_) (fun b9 => ?_) | refine G_zneZ (pc := 108) f_216_108 rfl (by first | exact nI_toInt (by omega) | exact zI_toInt (by omega) (by omega) | rfl) (fun b9 => ?_) (fun b9 => ?_)
              · refine G_S (pc := 113) f_216_113 rfl rfl rfl ?_
                refine G_S (pc := 114) f_216_114 rfl rfl rfl ?_
                refine G_gIv (pc := 115) f_216_115 (by decide) rfl (by decide) (by first | assumption | exact hK.1 _ _ rfl) (by first | assumption | exact mI_s | ((refine mI_o (by first | decide | omega) ?_); (repeat (refine mI_o (by first | decide | omega) ?_)); first | exact mI_s | assumption) | rfl) ?_
                refine G_S (pc := 118) f_216_118 rfl rfl rfl ?_
                refine G_gR (pc := 119) f_216_119 (by decide) rfl (by first | assumption | exact hK.1 _ _ rfl) (by first | assumption | exact hK.2 _ _ _ rfl | (try dsimp only) <;> (repeat (first | exact up2_s | refine up2_o (by first | decide | omega) ?_)) <;> first | assumption | exact hK.2 _ _ _ rfl) ?_
                refine G_ic (v := nI 1) (pc := 122) f_216_122 (by decide) ?_
                refine G_iaN (pc := 123) f_216_123 (by first | assumption | exact hK.1 _ _ rfl) (by omega) (by omega) (by first | exact r13 | rfl) ?_
                first | refine G_orN (pc := 124) f_216_124 ?_ | refine G_S (pc := 124) f_216_124 rfl rfl rfl ?_
                refine G_pI (pc := 125) f_216_125 rfl (by first | assumption | exact hK.1 _ _ rfl) ?_
                refine G_S (pc := 128) f_216_128 rfl rfl rfl ?_
                refine G_gR (pc := 129) f_216_129 (by decide) rfl (by first | assumption | exact hK.1 _ _ rfl) (by first | assumption | exact hK.2 _ _ _ rfl | (try dsimp only) <;> (repeat (first | exact up2_s | refine up2_o (by first | decide | omega) ?_)) <;> first | assumption | exact hK.2 _ _ _ rfl) ?_
                refine G_ic (v := nI 0) (pc := 132) f_216_132 (by decide) ?_
                refine G_S (pc := 133) f_216_133 rfl rfl rfl ?_
                refine G_S (pc := 134) f_216_134 rfl rfl rfl ?_
                refine G_S (pc := 137) f_216_137 rfl rfl rfl ?_
                refine G_zne (pc := 138) f_216_138 rfl (fun b10 => ?_) (fun b10 => ?_)
                · refine G_ic (v := nI 0) (pc := 145) f_216_145 (by decide) ?_
                  refine G_isN (pc := 146) f_216_146 (by first | assumption | exact hK.1 _ _ rfl) (by omega) (by omega) ?_
                  refine G_S (pc := 147) f_216_147 rfl rfl rfl ?_
                  refine G_ic (v := nI 1) (pc := 148) f_216_148 (by decide) ?_
                  refine G_ic (v := nI 2) (pc := 149) f_216_149 (by decide) ?_
                  refine G_bi (v := nI 10) (pc := 150) f_216_150 (by decide) ?_
                  refine G_CV (pc := 152) f_216_152 rfl rfl (by decide) rfl rfl (by first | assumption | exact hK.1 _ _ rfl) (by decide) ⟨Nat.le_of_ble_eq_true rfl, Nat.le_of_ble_eq_true rfl⟩ ?_
                  refine CG.mono (tk) ?_
                  rintro _ M5 ⟨rfl, hF5, hD5⟩
                  refine G_ic (v := nI 1) (pc := 155) f_216_155 (by decide) ?_
                  refine G_rz (pc := 156) f_216_156 (by first | exact Or.inl rfl | exact Or.inr rfl | exact b2i_01 _ | assumption) ?_
                  have e : tkE 17 0 (vN t n (tkR t n p) : Int) (vN t n (tkR t n (tkR t n p)) : Int) (!decide (vN t n (tkR t n p) < 1 ∨ 15 < vN t n (tkR t n p)) && !decide (vN t n (tkR t n (tkR t n p)) < 1 ∨ 36 < vN t n (tkR t n (tkR t n p)))) E = if E 1 = ((10 : Nat) : Int) then E else ad3 E 1 (2 + 3 * (E 1).toNat) ((0 : Nat) : Int) (vN t n (tkR t n p) : Int) (vN t n (tkR t n (tkR t n p)) : Int) := rfl
                  have eT : tkT 17 (vN t n (tkR t n p) : Int) T = T ||| vN t n (tkR t n p) := rfl
                  rw [e, eT]
                  exact LN_fin (((hF1.tr hF2).tr hF3).tr (hF4.1.sub (by decide) (by decide))) (T3.fw hF4 (by decide) (by decide) (by decide) (by decide)) (hf3.fp hF4.1 (by decide) (by decide)) (by (try dsimp only); exact up2_o (by omega) (by (try dsimp only); exact up2_s)) hlt3 hp3 hF5 hD5
                · first | exact absurd b10 (by decide) | exact absurd (by decide) b10
              · exact absurd trivial b9
          · first | exact absurd b4 (by decide) | exact absurd (by decide) b4
      · first | exact absurd b1 (by decide) | exact absurd (by decide) b1
    · rw [if_neg h2]
      refine CG_in (mL := 5) (hl := true) (lv := [some (.ref 98), none, none, some (.int (nI (skp t n p))), none]) (ll := [none, some (32497584101418340), none, none, none]) rfl rfl rfl ?_
      refine G_S (pc := 0) f_216_0 rfl rfl rfl ?_
      refine G_S (pc := 1) f_216_1 rfl rfl rfl ?_
      refine G_S (pc := 4) f_216_4 rfl rfl rfl ?_
      refine G_zne (pc := 5) f_216_5 rfl (fun b1 => ?_) (fun b1 => ?_)
      · refine G_ic (v := nI 0) (pc := 12) f_216_12 (by decide) ?_
        refine G_S (pc := 13) f_216_13 rfl rfl rfl ?_
        refine G_S (pc := 15) f_216_15 rfl rfl rfl ?_
        refine G_S (pc := 17) f_216_17 rfl rfl rfl ?_
        refine G_S (pc := 20) f_216_20 rfl rfl rfl ?_
        refine G_S (pc := 21) f_216_21 rfl rfl rfl ?_
        refine G_S (pc := 24) f_216_24 rfl rfl rfl ?_
        refine G_zeq (pc := 25) f_216_25 rfl (fun b3 => ?_) (fun b3 => ?_)
        · first | exact absurd b3 (by decide) | exact absurd (by decide) b3
        · refine G_S (pc := 28) f_216_28 rfl rfl rfl ?_
          refine G_S (pc := 29) f_216_29 rfl rfl rfl ?_
          refine G_S (pc := 32) f_216_32 rfl rfl rfl ?_
          refine G_zeq (pc := 33) f_216_33 rfl (fun b4 => ?_) (fun b4 => ?_)
          · refine G_S (pc := 41) f_216_41 rfl rfl rfl ?_
            refine G_S (pc := 43) f_216_43 rfl rfl rfl ?_
            refine G_S (pc := 46) f_216_46 rfl rfl rfl ?_
            refine G_ic (v := nI 1) (pc := 47) f_216_47 (by decide) ?_
            refine G_bi (v := nI 10) (pc := 48) f_216_48 (by decide) ?_
            refine G_S (pc := 50) f_216_50 rfl rfl rfl ?_
            refine G_CV (pc := 51) f_216_51 rfl rfl (by decide) rfl rfl (by first | assumption | exact hK.1 _ _ rfl) (by decide) ⟨Nat.le_of_ble_eq_true rfl, Nat.le_of_ble_eq_true rfl⟩ ?_
            refine CG.mono (m_full hK hf hlt hn hD (by decide) hE1.1 hE1.2 (by decide)) ?_
            rintro _ M0 ⟨rfl, hF0, hf0⟩
            have hK := hF0.1.K hK
            refine G_S (pc := 54) f_216_54 rfl rfl rfl ?_
            refine G_CV (pc := 55) f_216_55 rfl rfl (by decide) rfl rfl (by first | assumption | exact hK.1 _ _ rfl) (by decide) ⟨Nat.le_of_ble_eq_true rfl, Nat.le_of_ble_eq_true rfl⟩ ?_
            refine CG.mono (m_tokS S hk hF0 hf0) ?_
            rintro _ M1 ⟨rfl, hF1, S1⟩
            obtain ⟨W1, T1, hf1, hD1, j21, j22, hlt1, hp1⟩ := S1
            have hK := W1.1
            have tn := m_num (C := C) (k := 1) (lo := 1) (hi := 15) W1 T1 hf1 hD1 j21 j22 hlt1 hp1 h (by decide) (by decide) (by decide)
            refine G_S (pc := 58) f_216_58 rfl rfl rfl ?_
            refine G_S (pc := 60) f_216_60 rfl rfl rfl ?_
            refine G_S (pc := 89) f_216_89 rfl rfl rfl ?_
            refine G_ic (v := nI 1) (pc := 90) f_216_90 (by decide) ?_
            refine G_ic (v := nI 1) (pc := 91) f_216_91 (by decide) ?_
            refine G_bi (v := nI 15) (pc := 92) f_216_92 (by decide) ?_
            refine G_CV (pc := 94) f_216_94 rfl rfl (by decide) rfl rfl (by first | assumption | exact hK.1 _ _ rfl) (by decide) ⟨Nat.le_of_ble_eq_true rfl, Nat.le_of_ble_eq_true rfl⟩ ?_
            refine CG.mono (tn) ?_
            rintro _ M2 ⟨rfl, hF2, W2, T2, hf2, hD2, g21, g22, hlt2, hp2, r1, ro⟩
            have hK := W2.1
            first | refine G_bEq (pc := 97) f_216_97 rfl (fun b8 => ?_) (fun b8 => ?_) | refine G_zeqZ (pc := 97) f_216_97 rfl (by first | exact nI_toInt (by omega) | exact zI_toInt (by omega) (by omega) | rfl) (fun b8 => ?_) (fun b8 => ?_)
            · exact absurd trivial b8
            · refine G_S (pc := 100) f_216_100 rfl rfl rfl ?_
              refine G_ic (v := nI 2) (pc := 101) f_216_101 (by decide) ?_
              refine G_ic (v := nI 1) (pc := 102) f_216_102 (by decide) ?_
              refine G_bi (v := nI 36) (pc := 103) f_216_103 (by decide) ?_
              refine G_CV (pc := 105) f_216_105 rfl rfl (by decide) rfl rfl (by first | assumption | exact hK.1 _ _ rfl) (by decide) ⟨Nat.le_of_ble_eq_true rfl, Nat.le_of_ble_eq_true rfl⟩ ?_
              refine CG.mono (m_takeN W2 T2 h2) ?_
              rintro _ M3 ⟨rfl, hF3, h16⟩
              first | refine G_bNe (pc := 108) f_216_108 rfl (fun b9 => ?_) (fun b9 => ?_) | refine G_zneZ (pc := 108) f_216_108 rfl (by first | exact nI_toInt (by omega) | exact zI_toInt (by omega) (by omega) | rfl) (fun b9 => ?_) (fun b9 => ?_)
              · exact absurd b9 id
              · refine G_ic (v := nI 0) (pc := 111) f_216_111 (by decide) ?_
                refine G_rz (pc := 112) f_216_112 (by first | exact Or.inl rfl | exact Or.inr rfl | exact b2i_01 _ | assumption) ?_
                exact LN_no ((hF1.tr hF2).tr (hF3.1.sub (by decide) (by decide))) h16
          · first | exact absurd b4 (by decide) | exact absurd (by decide) b4
      · first | exact absurd b1 (by decide) | exact absurd (by decide) b1
  · rw [if_neg h]
    refine CG_in (mL := 5) (hl := true) (lv := [some (.ref 98), none, none, some (.int (nI (skp t n p))), none]) (ll := [none, some (32497584101418340), none, none, none]) rfl rfl rfl ?_
    refine G_S (pc := 0) f_216_0 rfl rfl rfl ?_
    refine G_S (pc := 1) f_216_1 rfl rfl rfl ?_
    refine G_S (pc := 4) f_216_4 rfl rfl rfl ?_
    refine G_zne (pc := 5) f_216_5 rfl (fun b1 => ?_) (fun b1 => ?_)
    · refine G_ic (v := nI 0) (pc := 12) f_216_12 (by decide) ?_
      refine G_S (pc := 13) f_216_13 rfl rfl rfl ?_
      refine G_S (pc := 15) f_216_15 rfl rfl rfl ?_
      refine G_S (pc := 17) f_216_17 rfl rfl rfl ?_
      refine G_S (pc := 20) f_216_20 rfl rfl rfl ?_
      refine G_S (pc := 21) f_216_21 rfl rfl rfl ?_
      refine G_S (pc := 24) f_216_24 rfl rfl rfl ?_
      refine G_zeq (pc := 25) f_216_25 rfl (fun b3 => ?_) (fun b3 => ?_)
      · first | exact absurd b3 (by decide) | exact absurd (by decide) b3
      · refine G_S (pc := 28) f_216_28 rfl rfl rfl ?_
        refine G_S (pc := 29) f_216_29 rfl rfl rfl ?_
        refine G_S (pc := 32) f_216_32 rfl rfl rfl ?_
        refine G_zeq (pc := 33) f_216_33 rfl (fun b4 => ?_) (fun b4 => ?_)
        · refine G_S (pc := 41) f_216_41 rfl rfl rfl ?_
          refine G_S (pc := 43) f_216_43 rfl rfl rfl ?_
          refine G_S (pc := 46) f_216_46 rfl rfl rfl ?_
          refine G_ic (v := nI 1) (pc := 47) f_216_47 (by decide) ?_
          refine G_bi (v := nI 10) (pc := 48) f_216_48 (by decide) ?_
          refine G_S (pc := 50) f_216_50 rfl rfl rfl ?_
          refine G_CV (pc := 51) f_216_51 rfl rfl (by decide) rfl rfl (by first | assumption | exact hK.1 _ _ rfl) (by decide) ⟨Nat.le_of_ble_eq_true rfl, Nat.le_of_ble_eq_true rfl⟩ ?_
          refine CG.mono (m_full hK hf hlt hn hD (by decide) hE1.1 hE1.2 (by decide)) ?_
          rintro _ M0 ⟨rfl, hF0, hf0⟩
          have hK := hF0.1.K hK
          refine G_S (pc := 54) f_216_54 rfl rfl rfl ?_
          refine G_CV (pc := 55) f_216_55 rfl rfl (by decide) rfl rfl (by first | assumption | exact hK.1 _ _ rfl) (by decide) ⟨Nat.le_of_ble_eq_true rfl, Nat.le_of_ble_eq_true rfl⟩ ?_
          refine CG.mono (m_tokS S hk hF0 hf0) ?_
          rintro _ M1 ⟨rfl, hF1, S1⟩
          have hK := S1.1.1
          refine G_S (pc := 58) f_216_58 rfl rfl rfl ?_
          refine G_S (pc := 60) f_216_60 rfl rfl rfl ?_
          refine G_S (pc := 89) f_216_89 rfl rfl rfl ?_
          refine G_ic (v := nI 1) (pc := 90) f_216_90 (by decide) ?_
          refine G_ic (v := nI 1) (pc := 91) f_216_91 (by decide) ?_
          refine G_bi (v := nI 15) (pc := 92) f_216_92 (by decide) ?_
          refine G_CV (pc := 94) f_216_94 rfl rfl (by decide) rfl rfl (by first | assumption | exact hK.1 _ _ rfl) (by decide) ⟨Nat.le_of_ble_eq_true rfl, Nat.le_of_ble_eq_true rfl⟩ ?_
          refine CG.mono (m_takeN S1.1 S1.2.1 h) ?_
          rintro _ M2 ⟨rfl, hF2, h16⟩
          first | refine G_bEq (pc := 97) f_216_97 rfl (fun b8 => ?_) (fun b8 => ?_) | refine G_zeqZ (pc := 97) f_216_97 rfl (by first | exact nI_toInt (by omega) | exact zI_toInt (by omega) (by omega) | rfl) (fun b8 => ?_) (fun b8 => ?_)
          · refine G_ic (v := nI 0) (pc := 111) f_216_111 (by decide) ?_
            refine G_rz (pc := 112) f_216_112 (by first | exact Or.inl rfl | exact Or.inr rfl | exact b2i_01 _ | assumption) ?_
            exact LN_no (hF1.tr (hF2.1.sub (by decide) (by decide))) h16
          · exact absurd b8 id
        · first | exact absurd b4 (by decide) | exact absurd (by decide) b4
    · first | exact absurd b1 (by decide) | exact absurd (by decide) b1
end MLG
