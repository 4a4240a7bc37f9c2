/-! the reference's lines: rides; a line of a sort -/
section MRL
variable {C : Ct} {M : Mm} {t : Nat → Int} {n p T g : Nat} {f : Nat × Nat} {E : Nat → Int} {w : Int64}
theorem m_deedN (h : ∀ g, 5 ≤ g → g < 13 → ¬ w = nL (wk g)) : CG C 212 [.long w] M (fun v M' => v = some (.int (zI (-1))) ∧ M' = M) := by
  have n0 := h 5 (by decide) (by decide)
  have n1 := h 6 (by decide) (by decide)
  have n2 := h 7 (by decide) (by decide)
  have n3 := h 8 (by decide) (by decide)
  have n4 := h 9 (by decide) (by decide)
  have n5 := h 10 (by decide) (by decide)
  have n6 := h 11 (by decide) (by decide)
  have n7 := h 12 (by decide) (by decide)
  rw [kw_f 5 (by decide)] at n0
  rw [kw_f 6 (by decide)] at n1
  rw [kw_f 7 (by decide)] at n2
  rw [kw_f 8 (by decide)] at n3
  rw [kw_f 9 (by decide)] at n4
  rw [kw_f 10 (by decide)] at n5
  rw [kw_f 11 (by decide)] at n6
  rw [kw_f 12 (by decide)] at n7
  refine CG_in (mL := 2) (hl := true) (lv := [none, none]) (ll := [some (w), none]) rfl rfl rfl ?_
  refine G_S (pc := 0) f_212_0 rfl rfl rfl ?_
  refine G_S (pc := 1) f_212_1 rfl rfl rfl ?_
  refine G_S (pc := 4) f_212_4 rfl rfl rfl ?_
  refine G_zeq (pc := 5) f_212_5 rfl (fun b1 => ?_) (fun b1 => ?_)
  · exact absurd (lc_eq.mp b1) n0
  · refine G_S (pc := 8) f_212_8 rfl rfl rfl ?_
    refine G_S (pc := 9) f_212_9 rfl rfl rfl ?_
    refine G_S (pc := 12) f_212_12 rfl rfl rfl ?_
    refine G_zeq (pc := 13) f_212_13 rfl (fun b2 => ?_) (fun b2 => ?_)
    · exact absurd (lc_eq.mp b2) n1
    · refine G_S (pc := 16) f_212_16 rfl rfl rfl ?_
      refine G_S (pc := 17) f_212_17 rfl rfl rfl ?_
      refine G_S (pc := 20) f_212_20 rfl rfl rfl ?_
      refine G_zne (pc := 21) f_212_21 rfl (fun b3 => ?_) (fun b3 => ?_)
      · refine G_S (pc := 50) f_212_50 rfl rfl rfl ?_
        refine G_S (pc := 51) f_212_51 rfl rfl rfl ?_
        refine G_S (pc := 54) f_212_54 rfl rfl rfl ?_
        refine G_zeq (pc := 55) f_212_55 rfl (fun b6 => ?_) (fun b6 => ?_)
        · exact absurd (lc_eq.mp b6) n3
        · refine G_S (pc := 58) f_212_58 rfl rfl rfl ?_
          refine G_S (pc := 59) f_212_59 rfl rfl rfl ?_
          refine G_S (pc := 62) f_212_62 rfl rfl rfl ?_
          refine G_zne (pc := 63) f_212_63 rfl (fun b7 => ?_) (fun b7 => ?_)
          · refine G_S (pc := 80) f_212_80 rfl rfl rfl ?_
            refine G_S (pc := 81) f_212_81 rfl rfl rfl ?_
            refine G_S (pc := 84) f_212_84 rfl rfl rfl ?_
            refine G_zne (pc := 85) f_212_85 rfl (fun b9 => ?_) (fun b9 => ?_)
            · refine G_S (pc := 92) f_212_92 rfl rfl rfl ?_
              refine G_S (pc := 93) f_212_93 rfl rfl rfl ?_
              refine G_S (pc := 96) f_212_96 rfl rfl rfl ?_
              refine G_zne (pc := 97) f_212_97 rfl (fun b10 => ?_) (fun b10 => ?_)
              · refine G_S (pc := 105) f_212_105 rfl rfl rfl ?_
                refine G_S (pc := 106) f_212_106 rfl rfl rfl ?_
                refine G_S (pc := 109) f_212_109 rfl rfl rfl ?_
                refine G_zne (pc := 110) f_212_110 rfl (fun b11 => ?_) (fun b11 => ?_)
                · refine G_ic (v := zI (-1)) (pc := 118) f_212_118 (by decide) ?_
                  refine G_ri (pc := 119) f_212_119 ?_
                  exact ⟨rfl, rfl⟩
                · exact absurd (lc_eq.mp b11) n7
              · exact absurd (lc_eq.mp b10) n6
            · exact absurd (lc_eq.mp b9) n5
          · exact absurd (lc_eq.mp b7) n4
      · exact absurd (lc_eq.mp b3) n2
theorem m_deed5 : CG C 212 [.long 422775452260] M (fun v M' => v = some (.int (nI 0)) ∧ M' = M) := by
  refine CG_in (mL := 2) (hl := true) (lv := [none, none]) (ll := [some (422775452260), none]) rfl rfl rfl ?_
  refine G_S (pc := 0) f_212_0 rfl rfl rfl ?_
  refine G_S (pc := 1) f_212_1 rfl rfl rfl ?_
  refine G_S (pc := 4) f_212_4 rfl rfl rfl ?_
  refine G_zeq (pc := 5) f_212_5 rfl (fun b1 => ?_) (fun b1 => ?_)
  · refine G_S (pc := 24) f_212_24 rfl rfl rfl ?_
    refine G_S (pc := 25) f_212_25 rfl rfl rfl ?_
    refine G_S (pc := 28) f_212_28 rfl rfl rfl ?_
    refine G_zne (pc := 29) f_212_29 rfl (fun b4 => ?_) (fun b4 => ?_)
    · first | exact absurd b4 (by decide) | exact absurd (by decide) b4
    · refine G_ic (v := nI 0) (pc := 32) f_212_32 (by decide) ?_
      refine G_S (pc := 33) f_212_33 rfl rfl rfl ?_
      refine G_ri (pc := 49) f_212_49 ?_
      exact ⟨rfl, rfl⟩
  · first | exact absurd b1 (by decide) | exact absurd (by decide) b1
theorem m_deed6 : CG C 212 [.long 1836021349] M (fun v M' => v = some (.int (nI 1)) ∧ M' = M) := by
  refine CG_in (mL := 2) (hl := true) (lv := [none, none]) (ll := [some (1836021349), none]) rfl rfl rfl ?_
  refine G_S (pc := 0) f_212_0 rfl rfl rfl ?_
  refine G_S (pc := 1) f_212_1 rfl rfl rfl ?_
  refine G_S (pc := 4) f_212_4 rfl rfl rfl ?_
  refine G_zeq (pc := 5) f_212_5 rfl (fun b1 => ?_) (fun b1 => ?_)
  · first | exact absurd b1 (by decide) | exact absurd (by decide) b1
  · refine G_S (pc := 8) f_212_8 rfl rfl rfl ?_
    refine G_S (pc := 9) f_212_9 rfl rfl rfl ?_
    refine G_S (pc := 12) f_212_12 rfl rfl rfl ?_
    refine G_zeq (pc := 13) f_212_13 rfl (fun b2 => ?_) (fun b2 => ?_)
    · refine G_S (pc := 24) f_212_24 rfl rfl rfl ?_
      refine G_S (pc := 25) f_212_25 rfl rfl rfl ?_
      refine G_S (pc := 28) f_212_28 rfl rfl rfl ?_
      refine G_zne (pc := 29) f_212_29 rfl (fun b4 => ?_) (fun b4 => ?_)
      · refine G_S (pc := 36) f_212_36 rfl rfl rfl ?_
        refine G_S (pc := 37) f_212_37 rfl rfl rfl ?_
        refine G_S (pc := 40) f_212_40 rfl rfl rfl ?_
        refine G_zne (pc := 41) f_212_41 rfl (fun b5 => ?_) (fun b5 => ?_)
        · first | exact absurd b5 (by decide) | exact absurd (by decide) b5
        · refine G_ic (v := nI 1) (pc := 44) f_212_44 (by decide) ?_
          refine G_S (pc := 45) f_212_45 rfl rfl rfl ?_
          refine G_ri (pc := 49) f_212_49 ?_
          exact ⟨rfl, rfl⟩
      · first | exact absurd b4 (by decide) | exact absurd (by decide) b4
    · first | exact absurd b2 (by decide) | exact absurd (by decide) b2
theorem m_deed7 : CG C 212 [.long 7300710] M (fun v M' => v = some (.int (nI 2)) ∧ M' = M) := by
  refine CG_in (mL := 2) (hl := true) (lv := [none, none]) (ll := [some (7300710), none]) rfl rfl rfl ?_
  refine G_S (pc := 0) f_212_0 rfl rfl rfl ?_
  refine G_S (pc := 1) f_212_1 rfl rfl rfl ?_
  refine G_S (pc := 4) f_212_4 rfl rfl rfl ?_
  refine G_zeq (pc := 5) f_212_5 rfl (fun b1 => ?_) (fun b1 => ?_)
  · first | exact absurd b1 (by decide) | exact absurd (by decide) b1
  · refine G_S (pc := 8) f_212_8 rfl rfl rfl ?_
    refine G_S (pc := 9) f_212_9 rfl rfl rfl ?_
    refine G_S (pc := 12) f_212_12 rfl rfl rfl ?_
    refine G_zeq (pc := 13) f_212_13 rfl (fun b2 => ?_) (fun b2 => ?_)
    · first | exact absurd b2 (by decide) | exact absurd (by decide) b2
    · refine G_S (pc := 16) f_212_16 rfl rfl rfl ?_
      refine G_S (pc := 17) f_212_17 rfl rfl rfl ?_
      refine G_S (pc := 20) f_212_20 rfl rfl rfl ?_
      refine G_zne (pc := 21) f_212_21 rfl (fun b3 => ?_) (fun b3 => ?_)
      · first | exact absurd b3 (by decide) | exact absurd (by decide) b3
      · refine G_S (pc := 24) f_212_24 rfl rfl rfl ?_
        refine G_S (pc := 25) f_212_25 rfl rfl rfl ?_
        refine G_S (pc := 28) f_212_28 rfl rfl rfl ?_
        refine G_zne (pc := 29) f_212_29 rfl (fun b4 => ?_) (fun b4 => ?_)
        · refine G_S (pc := 36) f_212_36 rfl rfl rfl ?_
          refine G_S (pc := 37) f_212_37 rfl rfl rfl ?_
          refine G_S (pc := 40) f_212_40 rfl rfl rfl ?_
          refine G_zne (pc := 41) f_212_41 rfl (fun b5 => ?_) (fun b5 => ?_)
          · refine G_ic (v := nI 2) (pc := 48) f_212_48 (by decide) ?_
            refine G_ri (pc := 49) f_212_49 ?_
            exact ⟨rfl, rfl⟩
          · first | exact absurd b5 (by decide) | exact absurd (by decide) b5
        · first | exact absurd b4 (by decide) | exact absurd (by decide) b4
theorem m_deed8 : CG C 212 [.long 1952803948] M (fun v M' => v = some (.int (nI 3)) ∧ M' = M) := by
  refine CG_in (mL := 2) (hl := true) (lv := [none, none]) (ll := [some (1952803948), none]) rfl rfl rfl ?_
  refine G_S (pc := 0) f_212_0 rfl rfl rfl ?_
  refine G_S (pc := 1) f_212_1 rfl rfl rfl ?_
  refine G_S (pc := 4) f_212_4 rfl rfl rfl ?_
  refine G_zeq (pc := 5) f_212_5 rfl (fun b1 => ?_) (fun b1 => ?_)
  · first | exact absurd b1 (by decide) | exact absurd (by decide) b1
  · refine G_S (pc := 8) f_212_8 rfl rfl rfl ?_
    refine G_S (pc := 9) f_212_9 rfl rfl rfl ?_
    refine G_S (pc := 12) f_212_12 rfl rfl rfl ?_
    refine G_zeq (pc := 13) f_212_13 rfl (fun b2 => ?_) (fun b2 => ?_)
    · first | exact absurd b2 (by decide) | exact absurd (by decide) b2
    · refine G_S (pc := 16) f_212_16 rfl rfl rfl ?_
      refine G_S (pc := 17) f_212_17 rfl rfl rfl ?_
      refine G_S (pc := 20) f_212_20 rfl rfl rfl ?_
      refine G_zne (pc := 21) f_212_21 rfl (fun b3 => ?_) (fun b3 => ?_)
      · refine G_S (pc := 50) f_212_50 rfl rfl rfl ?_
        refine G_S (pc := 51) f_212_51 rfl rfl rfl ?_
        refine G_S (pc := 54) f_212_54 rfl rfl rfl ?_
        refine G_zeq (pc := 55) f_212_55 rfl (fun b6 => ?_) (fun b6 => ?_)
        · refine G_S (pc := 66) f_212_66 rfl rfl rfl ?_
          refine G_S (pc := 67) f_212_67 rfl rfl rfl ?_
          refine G_S (pc := 70) f_212_70 rfl rfl rfl ?_
          refine G_zne (pc := 71) f_212_71 rfl (fun b8 => ?_) (fun b8 => ?_)
          · first | exact absurd b8 (by decide) | exact absurd (by decide) b8
          · refine G_ic (v := nI 3) (pc := 74) f_212_74 (by decide) ?_
            refine G_S (pc := 75) f_212_75 rfl rfl rfl ?_
            refine G_ri (pc := 79) f_212_79 ?_
            exact ⟨rfl, rfl⟩
        · first | exact absurd b6 (by decide) | exact absurd (by decide) b6
      · first | exact absurd b3 (by decide) | exact absurd (by decide) b3
theorem m_deed9 : CG C 212 [.long 1785686885] M (fun v M' => v = some (.int (nI 4)) ∧ M' = M) := by
  refine CG_in (mL := 2) (hl := true) (lv := [none, none]) (ll := [some (1785686885), none]) rfl rfl rfl ?_
  refine G_S (pc := 0) f_212_0 rfl rfl rfl ?_
  refine G_S (pc := 1) f_212_1 rfl rfl rfl ?_
  refine G_S (pc := 4) f_212_4 rfl rfl rfl ?_
  refine G_zeq (pc := 5) f_212_5 rfl (fun b1 => ?_) (fun b1 => ?_)
  · first | exact absurd b1 (by decide) | exact absurd (by decide) b1
  · refine G_S (pc := 8) f_212_8 rfl rfl rfl ?_
    refine G_S (pc := 9) f_212_9 rfl rfl rfl ?_
    refine G_S (pc := 12) f_212_12 rfl rfl rfl ?_
    refine G_zeq (pc := 13) f_212_13 rfl (fun b2 => ?_) (fun b2 => ?_)
    · first | exact absurd b2 (by decide) | exact absurd (by decide) b2
    · refine G_S (pc := 16) f_212_16 rfl rfl rfl ?_
      refine G_S (pc := 17) f_212_17 rfl rfl rfl ?_
      refine G_S (pc := 20) f_212_20 rfl rfl rfl ?_
      refine G_zne (pc := 21) f_212_21 rfl (fun b3 => ?_) (fun b3 => ?_)
      · refine G_S (pc := 50) f_212_50 rfl rfl rfl ?_
        refine G_S (pc := 51) f_212_51 rfl rfl rfl ?_
        refine G_S (pc := 54) f_212_54 rfl rfl rfl ?_
        refine G_zeq (pc := 55) f_212_55 rfl (fun b6 => ?_) (fun b6 => ?_)
        · first | exact absurd b6 (by decide) | exact absurd (by decide) b6
        · refine G_S (pc := 58) f_212_58 rfl rfl rfl ?_
          refine G_S (pc := 59) f_212_59 rfl rfl rfl ?_
          refine G_S (pc := 62) f_212_62 rfl rfl rfl ?_
          refine G_zne (pc := 63) f_212_63 rfl (fun b7 => ?_) (fun b7 => ?_)
          · first | exact absurd b7 (by decide) | exact absurd (by decide) b7
          · refine G_S (pc := 66) f_212_66 rfl rfl rfl ?_
            refine G_S (pc := 67) f_212_67 rfl rfl rfl ?_
            refine G_S (pc := 70) f_212_70 rfl rfl rfl ?_
            refine G_zne (pc := 71) f_212_71 rfl (fun b8 => ?_) (fun b8 => ?_)
            · refine G_ic (v := nI 4) (pc := 78) f_212_78 (by decide) ?_
              refine G_ri (pc := 79) f_212_79 ?_
              exact ⟨rfl, rfl⟩
            · first | exact absurd b8 (by decide) | exact absurd (by decide) b8
      · first | exact absurd b3 (by decide) | exact absurd (by decide) b3
theorem m_deed10 : CG C 212 [.long 26479] M (fun v M' => v = some (.int (nI 5)) ∧ M' = M) := by
  refine CG_in (mL := 2) (hl := true) (lv := [none, none]) (ll := [some (26479), none]) rfl rfl rfl ?_
  refine G_S (pc := 0) f_212_0 rfl rfl rfl ?_
  refine G_S (pc := 1) f_212_1 rfl rfl rfl ?_
  refine G_S (pc := 4) f_212_4 rfl rfl rfl ?_
  refine G_zeq (pc := 5) f_212_5 rfl (fun b1 => ?_) (fun b1 => ?_)
  · first | exact absurd b1 (by decide) | exact absurd (by decide) b1
  · refine G_S (pc := 8) f_212_8 rfl rfl rfl ?_
    refine G_S (pc := 9) f_212_9 rfl rfl rfl ?_
    refine G_S (pc := 12) f_212_12 rfl rfl rfl ?_
    refine G_zeq (pc := 13) f_212_13 rfl (fun b2 => ?_) (fun b2 => ?_)
    · first | exact absurd b2 (by decide) | exact absurd (by decide) b2
    · refine G_S (pc := 16) f_212_16 rfl rfl rfl ?_
      refine G_S (pc := 17) f_212_17 rfl rfl rfl ?_
      refine G_S (pc := 20) f_212_20 rfl rfl rfl ?_
      refine G_zne (pc := 21) f_212_21 rfl (fun b3 => ?_) (fun b3 => ?_)
      · refine G_S (pc := 50) f_212_50 rfl rfl rfl ?_
        refine G_S (pc := 51) f_212_51 rfl rfl rfl ?_
        refine G_S (pc := 54) f_212_54 rfl rfl rfl ?_
        refine G_zeq (pc := 55) f_212_55 rfl (fun b6 => ?_) (fun b6 => ?_)
        · first | exact absurd b6 (by decide) | exact absurd (by decide) b6
        · refine G_S (pc := 58) f_212_58 rfl rfl rfl ?_
          refine G_S (pc := 59) f_212_59 rfl rfl rfl ?_
          refine G_S (pc := 62) f_212_62 rfl rfl rfl ?_
          refine G_zne (pc := 63) f_212_63 rfl (fun b7 => ?_) (fun b7 => ?_)
          · refine G_S (pc := 80) f_212_80 rfl rfl rfl ?_
            refine G_S (pc := 81) f_212_81 rfl rfl rfl ?_
            refine G_S (pc := 84) f_212_84 rfl rfl rfl ?_
            refine G_zne (pc := 85) f_212_85 rfl (fun b9 => ?_) (fun b9 => ?_)
            · first | exact absurd b9 (by decide) | exact absurd (by decide) b9
            · refine G_ic (v := nI 5) (pc := 88) f_212_88 (by decide) ?_
              refine G_S (pc := 89) f_212_89 rfl rfl rfl ?_
              refine G_ri (pc := 119) f_212_119 ?_
              exact ⟨rfl, rfl⟩
          · first | exact absurd b7 (by decide) | exact absurd (by decide) b7
      · first | exact absurd b3 (by decide) | exact absurd (by decide) b3
theorem m_deed11 : CG C 212 [.long 495672455781] M (fun v M' => v = some (.int (nI 6)) ∧ M' = M) := by
  refine CG_in (mL := 2) (hl := true) (lv := [none, none]) (ll := [some (495672455781), none]) rfl rfl rfl ?_
  refine G_S (pc := 0) f_212_0 rfl rfl rfl ?_
  refine G_S (pc := 1) f_212_1 rfl rfl rfl ?_
  refine G_S (pc := 4) f_212_4 rfl rfl rfl ?_
  refine G_zeq (pc := 5) f_212_5 rfl (fun b1 => ?_) (fun b1 => ?_)
  · first | exact absurd b1 (by decide) | exact absurd (by decide) b1
  · refine G_S (pc := 8) f_212_8 rfl rfl rfl ?_
    refine G_S (pc := 9) f_212_9 rfl rfl rfl ?_
    refine G_S (pc := 12) f_212_12 rfl rfl rfl ?_
    refine G_zeq (pc := 13) f_212_13 rfl (fun b2 => ?_) (fun b2 => ?_)
    · first | exact absurd b2 (by decide) | exact absurd (by decide) b2
    · refine G_S (pc := 16) f_212_16 rfl rfl rfl ?_
      refine G_S (pc := 17) f_212_17 rfl rfl rfl ?_
      refine G_S (pc := 20) f_212_20 rfl rfl rfl ?_
      refine G_zne (pc := 21) f_212_21 rfl (fun b3 => ?_) (fun b3 => ?_)
      · refine G_S (pc := 50) f_212_50 rfl rfl rfl ?_
        refine G_S (pc := 51) f_212_51 rfl rfl rfl ?_
        refine G_S (pc := 54) f_212_54 rfl rfl rfl ?_
        refine G_zeq (pc := 55) f_212_55 rfl (fun b6 => ?_) (fun b6 => ?_)
        · first | exact absurd b6 (by decide) | exact absurd (by decide) b6
        · refine G_S (pc := 58) f_212_58 rfl rfl rfl ?_
          refine G_S (pc := 59) f_212_59 rfl rfl rfl ?_
          refine G_S (pc := 62) f_212_62 rfl rfl rfl ?_
          refine G_zne (pc := 63) f_212_63 rfl (fun b7 => ?_) (fun b7 => ?_)
          · refine G_S (pc := 80) f_212_80 rfl rfl rfl ?_
            refine G_S (pc := 81) f_212_81 rfl rfl rfl ?_
            refine G_S (pc := 84) f_212_84 rfl rfl rfl ?_
            refine G_zne (pc := 85) f_212_85 rfl (fun b9 => ?_) (fun b9 => ?_)
            · refine G_S (pc := 92) f_212_92 rfl rfl rfl ?_
              refine G_S (pc := 93) f_212_93 rfl rfl rfl ?_
              refine G_S (pc := 96) f_212_96 rfl rfl rfl ?_
              refine G_zne (pc := 97) f_212_97 rfl (fun b10 => ?_) (fun b10 => ?_)
              · first | exact absurd b10 (by decide) | exact absurd (by decide) b10
              · refine G_bi (v := nI 6) (pc := 100) f_212_100 (by decide) ?_
                refine G_S (pc := 102) f_212_102 rfl rfl rfl ?_
                refine G_ri (pc := 119) f_212_119 ?_
                exact ⟨rfl, rfl⟩
            · first | exact absurd b9 (by decide) | exact absurd (by decide) b9
          · first | exact absurd b7 (by decide) | exact absurd (by decide) b7
      · first | exact absurd b3 (by decide) | exact absurd (by decide) b3
theorem m_deed12 : CG C 212 [.long 1650549611] M (fun v M' => v = some (.int (nI 7)) ∧ M' = M) := by
  refine CG_in (mL := 2) (hl := true) (lv := [none, none]) (ll := [some (1650549611), none]) rfl rfl rfl ?_
  refine G_S (pc := 0) f_212_0 rfl rfl rfl ?_
  refine G_S (pc := 1) f_212_1 rfl rfl rfl ?_
  refine G_S (pc := 4) f_212_4 rfl rfl rfl ?_
  refine G_zeq (pc := 5) f_212_5 rfl (fun b1 => ?_) (fun b1 => ?_)
  · first | exact absurd b1 (by decide) | exact absurd (by decide) b1
  · refine G_S (pc := 8) f_212_8 rfl rfl rfl ?_
    refine G_S (pc := 9) f_212_9 rfl rfl rfl ?_
    refine G_S (pc := 12) f_212_12 rfl rfl rfl ?_
    refine G_zeq (pc := 13) f_212_13 rfl (fun b2 => ?_) (fun b2 => ?_)
    · first | exact absurd b2 (by decide) | exact absurd (by decide) b2
    · refine G_S (pc := 16) f_212_16 rfl rfl rfl ?_
      refine G_S (pc := 17) f_212_17 rfl rfl rfl ?_
      refine G_S (pc := 20) f_212_20 rfl rfl rfl ?_
      refine G_zne (pc := 21) f_212_21 rfl (fun b3 => ?_) (fun b3 => ?_)
      · refine G_S (pc := 50) f_212_50 rfl rfl rfl ?_
        refine G_S (pc := 51) f_212_51 rfl rfl rfl ?_
        refine G_S (pc := 54) f_212_54 rfl rfl rfl ?_
        refine G_zeq (pc := 55) f_212_55 rfl (fun b6 => ?_) (fun b6 => ?_)
        · first | exact absurd b6 (by decide) | exact absurd (by decide) b6
        · refine G_S (pc := 58) f_212_58 rfl rfl rfl ?_
          refine G_S (pc := 59) f_212_59 rfl rfl rfl ?_
          refine G_S (pc := 62) f_212_62 rfl rfl rfl ?_
          refine G_zne (pc := 63) f_212_63 rfl (fun b7 => ?_) (fun b7 => ?_)
          · refine G_S (pc := 80) f_212_80 rfl rfl rfl ?_
            refine G_S (pc := 81) f_212_81 rfl rfl rfl ?_
            refine G_S (pc := 84) f_212_84 rfl rfl rfl ?_
            refine G_zne (pc := 85) f_212_85 rfl (fun b9 => ?_) (fun b9 => ?_)
            · refine G_S (pc := 92) f_212_92 rfl rfl rfl ?_
              refine G_S (pc := 93) f_212_93 rfl rfl rfl ?_
              refine G_S (pc := 96) f_212_96 rfl rfl rfl ?_
              refine G_zne (pc := 97) f_212_97 rfl (fun b10 => ?_) (fun b10 => ?_)
              · refine G_S (pc := 105) f_212_105 rfl rfl rfl ?_
                refine G_S (pc := 106) f_212_106 rfl rfl rfl ?_
                refine G_S (pc := 109) f_212_109 rfl rfl rfl ?_
                refine G_zne (pc := 110) f_212_110 rfl (fun b11 => ?_) (fun b11 => ?_)
                · first | exact absurd b11 (by decide) | exact absurd (by decide) b11
                · refine G_bi (v := nI 7) (pc := 113) f_212_113 (by decide) ?_
                  refine G_S (pc := 115) f_212_115 rfl rfl rfl ?_
                  refine G_ri (pc := 119) f_212_119 ?_
                  exact ⟨rfl, rfl⟩
              · first | exact absurd b10 (by decide) | exact absurd (by decide) b10
            · first | exact absurd b9 (by decide) | exact absurd (by decide) b9
          · first | exact absurd b7 (by decide) | exact absurd (by decide) b7
      · first | exact absurd b3 (by decide) | exact absurd (by decide) b3
theorem m_deedG (hg : 5 ≤ g ∧ g ≤ 12) (hw : w = nL (wk g)) : CG C 212 [.long w] M (fun v M' => v = some (.int (nI (g - 5))) ∧ M' = M) := by
  subst hw
  rw [kw_f g (by omega)]
  rcases (show g = 5 ∨ g = 6 ∨ g = 7 ∨ g = 8 ∨ g = 9 ∨ g = 10 ∨ g = 11 ∨ g = 12 by omega) with rfl | rfl | rfl | rfl | rfl | rfl | rfl | rfl
  · exact m_deed5
  · exact m_deed6
  · exact m_deed7
  · exact m_deed8
  · exact m_deed9
  · exact m_deed10
  · exact m_deed11
  · exact m_deed12
theorem m_rideN (S : MSt M t n p f E T) (h : ∀ g, 5 ≤ g → g < 13 → ¬ w = nL (wk g)) {at_ : Int32} : CG C 214 [.ref 98, .long w, .int at_] M (LNq t n M (.inl (skp t n p))) := by
  have hK := S.1.1
  refine CG_in (mL := 5) (hl := true) (lv := [some (.ref 98), none, none, some (.int at_), none]) (ll := [none, some (w), none, none, none]) rfl rfl rfl ?_
  refine G_S (pc := 0) f_214_0 rfl rfl rfl ?_
  refine G_CS (pc := 1) f_214_1 rfl rfl (by decide) rfl rfl ⟨Nat.le_of_ble_eq_true rfl, Nat.le_of_ble_eq_true rfl⟩ ?_
  refine CG.go (m_deedN h) ?_
  refine G_S (pc := 4) f_214_4 rfl rfl rfl ?_
  refine G_S (pc := 6) f_214_6 rfl rfl rfl ?_
  refine G_ic (v := zI (-1)) (pc := 8) f_214_8 (by decide) ?_
  refine G_jneZ (pc := 9) f_214_9 rfl (by first | exact nI_toInt (by omega) | exact zI_toInt (by omega) (by omega) | rfl) (by first | exact nI_toInt (by omega) | exact zI_toInt (by omega) (by omega) | rfl) (fun b1 => ?_) (fun b1 => ?_)
  · exact absurd rfl b1
  · refine G_S (pc := 12) f_214_12 rfl rfl rfl ?_
    refine G_CV (pc := 13) f_214_13 rfl rfl (by decide) rfl rfl (by first | assumption | exact hK.1 _ _ rfl) (by decide) ⟨Nat.le_of_ble_eq_true rfl, Nat.le_of_ble_eq_true rfl⟩ ?_
    refine CG.mono (m_fails hK S.2.1.2.1) ?_
    rintro _ M2 ⟨rfl, hF2, h16⟩
    refine G_rz (pc := 16) f_214_16 (by exact Or.inl rfl) ?_
    exact m_fail (w' := none) S hF2 h16
/-- the end of a ride's line -/
theorem m_rideE {M3 : Mm} {d p' : Nat} {f' : Nat × Nat} {V1 V2 : Int} {at_ : Int32} (hF3 : Fp 98 SFo SFs M M3) (W3 : MTp M3 t n) (T3 : MTk M3 t n p') (hf3 : LRd M3 f') (hD3 : TDm M3 E) (k21 : M3.2.1 98 21 = nI T) (hlt3 : f'.1 ≠ 0 → f'.2 < skp t n p') (hp3 : p' ≤ n) (hE0 : 0 ≤ E 0 ∧ E 0 ≤ 40) (r1 : M3.2.1 109 1 = zI V1) (r2 : M3.2.1 109 2 = zI V2) : G C 214 (99, [some (.ref 98), none, none, some (.int at_), some (.int (nI d))], [none, some (w), none, none, none], [], M3) (LNq t n M (.inr (p', f', if E 0 = ((40 : Nat) : Int) then E else ad3 E 0 (1 + 3 * (E 0).toNat) (d : Int) V1 V2, T))) := by
  have hK := W3.1
  have hF4 : Fw [109] [] M3 (M3.1, up2 M3.2.1 109 0 (nI d), M3.2.2.1, M3.2.2.2) := Fw.up (i := 109) (k := 0) (x := nI d) (by decide) (by decide)
  have q1 : up2 M3.2.1 109 0 (nI d) 109 1 = zI V1 := (by (try dsimp only); exact up2_o (by omega) r1)
  have q2 : up2 M3.2.1 109 0 (nI d) 109 2 = zI V2 := (by (try dsimp only); exact up2_o (by omega) r2)
  have q0 : up2 M3.2.1 109 0 (nI d) 109 0 = zI (d : Int) := by
    rw [← nI_zI]
    exact (by (try dsimp only); exact up2_s)
  have tk := m_keep (C := C) (c := 0) (a := 1) (m := 40) (x := (d : Int)) (y := V1) (z := V2) (M := (M3.1, up2 M3.2.1 109 0 (nI d), M3.2.2.1, M3.2.2.2)) (hF4.1.K hK) (hD3.fp hF4.1 (by decide)) hE0.1 hE0.2 (by decide) (by decide) (by decide) q0 q1 q2
  refine G_S (pc := 99) f_214_99 rfl rfl rfl ?_
  refine G_gR (pc := 100) f_214_100 (by decide) rfl (by first | assumption | exact hK.1 _ _ rfl) (by first | assumption | exact hK.2 _ _ _ rfl | (try dsimp only) <;> (repeat (first | exact up2_s | refine up2_o (by first | decide | omega) ?_)) <;> first | assumption | exact hK.2 _ _ _ rfl) ?_
  refine G_ic (v := nI 0) (pc := 103) f_214_103 (by decide) ?_
  refine G_S (pc := 104) f_214_104 rfl rfl rfl ?_
  refine G_isN (pc := 106) f_214_106 (by first | assumption | exact hK.1 _ _ rfl) (by omega) (by omega) ?_
  refine G_S (pc := 107) f_214_107 rfl rfl rfl ?_
  refine G_ic (v := nI 0) (pc := 108) f_214_108 (by decide) ?_
  refine G_ic (v := nI 1) (pc := 109) f_214_109 (by decide) ?_
  refine G_bi (v := nI 40) (pc := 110) f_214_110 (by decide) ?_
  refine G_CV (pc := 112) f_214_112 rfl rfl (by decide) rfl rfl (by first | assumption | exact hK.1 _ _ rfl) (by decide) ⟨Nat.le_of_ble_eq_true rfl, Nat.le_of_ble_eq_true rfl⟩ ?_
  refine CG.mono (tk) ?_
  rintro _ M5 ⟨rfl, hF5, hD5⟩
  refine G_ic (v := nI 1) (pc := 115) f_214_115 (by decide) ?_
  refine G_rz (pc := 116) f_214_116 (by first | exact Or.inl rfl | exact Or.inr rfl | exact b2i_01 _ | assumption) ?_
  exact LN_fin (hF3.tr (hF4.1.sub (by decide) (by decide))) (T3.fw hF4 (by decide) (by decide) (by decide) (by decide)) (hf3.fp hF4.1 (by decide) (by decide)) (by (try dsimp only); exact up2_o (by omega) k21) hlt3 hp3 hF5 hD5
theorem tkE_d {V1 V2 : Int} {gd : Bool} {d : Nat} (hg : 5 ≤ g ∧ g ≤ 12) (hd : d = g - 5) : tkE g 0 V1 V2 gd E = if E 0 = ((40 : Nat) : Int) then E else ad3 E 0 (1 + 3 * (E 0).toNat) (d : Int) V1 V2 := by
  unfold tkE
  rw [if_neg (by omega), if_neg (by omega), if_neg (by omega), if_neg (by omega), if_neg (by omega), if_pos (by omega), show ((g : Int) - 5) = (d : Int) by omega]
  rfl
theorem tkT_d {V1 : Int} (hg : g ≤ 12) : tkT g V1 T = T := if_neg (by omega)
theorem m_rideM {Ma : Mm} {d p1 : Nat} {f1 : Nat × Nat} {at_ : Int32} (hg : 5 ≤ g ∧ g ≤ 12) (hd : d = g - 5) (hFM : Fp 98 SFo SFs M Ma) (Wa : MTp Ma t n) (Ta : MTk Ma t n p1) (fa : LRd Ma f1) (Da : TDm Ma E) (a21 : Ma.2.1 98 21 = nI T) (a22 : Ma.2.1 98 22 = b2i (true = true)) (hlt1 : f1.1 ≠ 0 → f1.2 < skp t n p1) (hp1 : p1 ≤ n) (hE0 : 0 ≤ E 0 ∧ E 0 ≤ 40) (q1 : Ma.2.1 109 1 = zI (-1)) (q2 : Ma.2.1 109 2 = zI (-1)) : G C 214 (43, [some (.ref 98), none, none, some (.int at_), some (.int (nI d))], [none, some (w), none, none, none], [], Ma) (LNq t n M (lnS t n g E T f1 p1)) := by
  have hK := Wa.1
  by_cases gA : g ≤ 6
  · have fA : fmN g 0 = 0 ∧ fmN g 1 = 2 ∧ fmN g (2 + 2 * 0) = 0 ∧ fmN g (3 + 2 * 0) = 7 ∧ fmN g (2 + 2 * 1) = 0 ∧ fmN g (3 + 2 * 1) = 5 := by
      rcases (show g = 5 ∨ g = 6 by omega) with rfl | rfl <;> decide
    obtain ⟨c0, c1, l0, h0, l1, h1⟩ := fA
    rw [ln_2 c0 c1, bad_d l0 h0, bad_d l1 h1, tkE_d hg hd, tkT_d (by omega)]
    by_cases h : tkK t n p1 = 2
    · rw [if_pos h]
      have tn := m_num (C := C) (k := 1) (lo := 0) (hi := 7) Wa Ta fa Da a21 a22 hlt1 hp1 h (by decide) (by decide) (by decide)
      by_cases h2 : tkK t n (tkR t n p1) = 2
      · rw [if_pos h2]
        refine G_S (pc := 43) f_214_43 rfl rfl rfl ?_
        refine G_ic (v := nI 3) (pc := 45) f_214_45 (by decide) ?_
        refine G_jgeZ (pc := 46) f_214_46 rfl (by first | exact nI_toInt (by omega) | exact zI_toInt (by omega) (by omega) | rfl) (by first | exact nI_toInt (by omega) | exact zI_toInt (by omega) (by omega) | rfl) (fun b2 => ?_) (fun b2 => ?_)
        · exfalso; omega
        · refine G_S (pc := 49) f_214_49 rfl rfl rfl ?_
          refine G_ic (v := nI 1) (pc := 50) f_214_50 (by decide) ?_
          refine G_ic (v := nI 0) (pc := 51) f_214_51 (by decide) ?_
          refine G_bi (v := nI 7) (pc := 52) f_214_52 (by decide) ?_
          refine G_CV (pc := 54) f_214_54 rfl rfl (by decide) rfl rfl (by first | assumption | exact hK.1 _ _ rfl) (by decide) ⟨Nat.le_of_ble_eq_true rfl, Nat.le_of_ble_eq_true rfl⟩ ?_
          refine CG.mono (tn) ?_
          rintro _ M2 ⟨rfl, hF2, W2, T2, hf2, hD2, g21, g22, hlt2, hp2, r1, ro⟩
          have hK := W2.1
          have tn2 := m_num (C := C) (k := 2) (lo := 0) (hi := 5) W2 T2 hf2 hD2 g21 g22 hlt2 hp2 h2 (by decide) (by decide) (by decide)
          first | refine G_bEq (pc := 57) f_214_57 rfl (fun b3 => ?_) (fun b3 => ?_) | refine G_zeqZ (pc := 57) f_214_57 rfl (by first | exact nI_toInt (by omega) | exact zI_toInt (by omega) (by omega) | rfl) (fun b3 => ?_) (fun b3 => ?_)
          · exact absurd trivial b3
          · refine G_S (pc := 60) f_214_60 rfl rfl rfl ?_
            refine G_ic (v := nI 2) (pc := 62) f_214_62 (by decide) ?_
            refine G_jgeZ (pc := 63) f_214_63 rfl (by first | exact nI_toInt (by omega) | exact zI_toInt (by omega) (by omega) | rfl) (by first | exact nI_toInt (by omega) | exact zI_toInt (by omega) (by omega) | rfl) (fun b4 => ?_) (fun b4 => ?_)
            · exfalso; omega
            · refine G_S (pc := 66) f_214_66 rfl rfl rfl ?_
              refine G_ic (v := nI 2) (pc := 67) f_214_67 (by decide) ?_
              refine G_ic (v := nI 0) (pc := 68) f_214_68 (by decide) ?_
              refine G_ic (v := nI 5) (pc := 69) f_214_69 (by decide) ?_
              refine G_CV (pc := 70) f_214_70 rfl rfl (by decide) rfl rfl (by first | assumption | exact hK.1 _ _ rfl) (by decide) ⟨Nat.le_of_ble_eq_true rfl, Nat.le_of_ble_eq_true rfl⟩ ?_
              refine CG.mono (tn2) ?_
              rintro _ M3 ⟨rfl, hF3, W3, T3, hf3, hD3, k21, k22, hlt3, hp3, r2, ro3⟩
              have hK := W3.1
              have r13 : M3.2.1 109 1 = zI (vN t n p1) := ((ro3 1 (by decide)).trans r1).trans (nI_zI _)
              first | refine G_bEq (pc := 73) f_214_73 rfl (fun b5 => ?_) (fun b5 => ?_) | refine G_zeqZ (pc := 73) f_214_73 rfl (by first | exact nI_toInt (by omega) | exact zI_toInt (by omega) (by omega) | rfl) (fun b5 => ?_) (fun b5 => ?_)
              · exact absurd trivial b5
              · refine G_S (pc := 76) f_214_76 rfl rfl rfl ?_
                refine G_ic (v := nI 3) (pc := 78) f_214_78 (by decide) ?_
                refine G_ic (v := nI 4) (pc := 79) f_214_79 (by decide) ?_
                refine G_CS (pc := 80) f_214_80 rfl rfl (by decide) rfl rfl ⟨Nat.le_of_ble_eq_true rfl, Nat.le_of_ble_eq_true rfl⟩ ?_
                refine CG.go (m_inZ (by first | exact nI_toInt (by omega) | exact zI_toInt (by omega) (by omega) | rfl) (by first | exact nI_toInt (by omega) | exact zI_toInt (by omega) (by omega) | rfl) (by first | exact nI_toInt (by omega) | exact zI_toInt (by omega) (by omega) | rfl)) ?_
                first | refine G_bEq (pc := 83) f_214_83 rfl (fun b6 => ?_) (fun b6 => ?_) | refine G_zeqZ (pc := 83) f_214_83 rfl (by first | exact nI_toInt (by omega) | exact zI_toInt (by omega) (by omega) | rfl) (fun b6 => ?_) (fun b6 => ?_)
                · exact m_rideE ((hFM.tr hF2).tr hF3) W3 T3 hf3 hD3 k21 hlt3 hp3 hE0 r13 (r2.trans (nI_zI _))
                · exfalso; omega
      · rw [if_neg h2]
        refine G_S (pc := 43) f_214_43 rfl rfl rfl ?_
        refine G_ic (v := nI 3) (pc := 45) f_214_45 (by decide) ?_
        refine G_jgeZ (pc := 46) f_214_46 rfl (by first | exact nI_toInt (by omega) | exact zI_toInt (by omega) (by omega) | rfl) (by first | exact nI_toInt (by omega) | exact zI_toInt (by omega) (by omega) | rfl) (fun b2 => ?_) (fun b2 => ?_)
        · exfalso; omega
        · refine G_S (pc := 49) f_214_49 rfl rfl rfl ?_
          refine G_ic (v := nI 1) (pc := 50) f_214_50 (by decide) ?_
          refine G_ic (v := nI 0) (pc := 51) f_214_51 (by decide) ?_
          refine G_bi (v := nI 7) (pc := 52) f_214_52 (by decide) ?_
          refine G_CV (pc := 54) f_214_54 rfl rfl (by decide) rfl rfl (by first | assumption | exact hK.1 _ _ rfl) (by decide) ⟨Nat.le_of_ble_eq_true rfl, Nat.le_of_ble_eq_true rfl⟩ ?_
          refine CG.mono (tn) ?_
          rintro _ M2 ⟨rfl, hF2, W2, T2, hf2, hD2, g21, g22, hlt2, hp2, r1, ro⟩
          have hK := W2.1
          first | refine G_bEq (pc := 57) f_214_57 rfl (fun b3 => ?_) (fun b3 => ?_) | refine G_zeqZ (pc := 57) f_214_57 rfl (by first | exact nI_toInt (by omega) | exact zI_toInt (by omega) (by omega) | rfl) (fun b3 => ?_) (fun b3 => ?_)
          · exact absurd trivial b3
          · refine G_S (pc := 60) f_214_60 rfl rfl rfl ?_
            refine G_ic (v := nI 2) (pc := 62) f_214_62 (by decide) ?_
            refine G_jgeZ (pc := 63) f_214_63 rfl (by first | exact nI_toInt (by omega) | exact zI_toInt (by omega) (by omega) | rfl) (by first | exact nI_toInt (by omega) | exact zI_toInt (by omega) (by omega) | rfl) (fun b4 => ?_) (fun b4 => ?_)
            · exfalso; omega
            · refine G_S (pc := 66) f_214_66 rfl rfl rfl ?_
              refine G_ic (v := nI 2) (pc := 67) f_214_67 (by decide) ?_
              refine G_ic (v := nI 0) (pc := 68) f_214_68 (by decide) ?_
              refine G_ic (v := nI 5) (pc := 69) f_214_69 (by decide) ?_
              refine G_CV (pc := 70) f_214_70 rfl rfl (by decide) rfl rfl (by first | assumption | exact hK.1 _ _ rfl) (by decide) ⟨Nat.le_of_ble_eq_true rfl, Nat.le_of_ble_eq_true rfl⟩ ?_
              refine CG.mono (m_takeN W2 T2 h2) ?_
              rintro _ M3 ⟨rfl, hF3, h16⟩
              first | refine G_bEq (pc := 73) f_214_73 rfl (fun b5 => ?_) (fun b5 => ?_) | refine G_zeqZ (pc := 73) f_214_73 rfl (by first | exact nI_toInt (by omega) | exact zI_toInt (by omega) (by omega) | rfl) (fun b5 => ?_) (fun b5 => ?_)
              · refine G_ic (v := nI 0) (pc := 97) f_214_97 (by decide) ?_
                refine G_rz (pc := 98) f_214_98 (by first | exact Or.inl rfl | exact Or.inr rfl | exact b2i_01 _ | assumption) ?_
                exact LN_no ((hFM.tr hF2).tr (hF3.1.sub (by decide) (by decide))) h16
              · exact absurd b5 id
    · rw [if_neg h]
      refine G_S (pc := 43) f_214_43 rfl rfl rfl ?_
      refine G_ic (v := nI 3) (pc := 45) f_214_45 (by decide) ?_
      refine G_jgeZ (pc := 46) f_214_46 rfl (by first | exact nI_toInt (by omega) | exact zI_toInt (by omega) (by omega) | rfl) (by first | exact nI_toInt (by omega) | exact zI_toInt (by omega) (by omega) | rfl) (fun b2 => ?_) (fun b2 => ?_)
      · exfalso; omega
      · refine G_S (pc := 49) f_214_49 rfl rfl rfl ?_
        refine G_ic (v := nI 1) (pc := 50) f_214_50 (by decide) ?_
        refine G_ic (v := nI 0) (pc := 51) f_214_51 (by decide) ?_
        refine G_bi (v := nI 7) (pc := 52) f_214_52 (by decide) ?_
        refine G_CV (pc := 54) f_214_54 rfl rfl (by decide) rfl rfl (by first | assumption | exact hK.1 _ _ rfl) (by decide) ⟨Nat.le_of_ble_eq_true rfl, Nat.le_of_ble_eq_true rfl⟩ ?_
        refine CG.mono (m_takeN Wa Ta h) ?_
        rintro _ M2 ⟨rfl, hF2, h16⟩
        first | refine G_bEq (pc := 57) f_214_57 rfl (fun b3 => ?_) (fun b3 => ?_) | refine G_zeqZ (pc := 57) f_214_57 rfl (by first | exact nI_toInt (by omega) | exact zI_toInt (by omega) (by omega) | rfl) (fun b3 => ?_) (fun b3 => ?_)
        · refine G_ic (v := nI 0) (pc := 97) f_214_97 (by decide) ?_
          refine G_rz (pc := 98) f_214_98 (by first | exact Or.inl rfl | exact Or.inr rfl | exact b2i_01 _ | assumption) ?_
          exact LN_no (hFM.tr (hF2.1.sub (by decide) (by decide))) h16
        · exact absurd b3 id
  · by_cases gB : g = 7
    · subst gB
      rw [ln_1 (by decide) (by decide), bad_d (lo := 0) (hi := 7) (by decide) (by decide), tkE_d hg hd, tkT_d (by omega)]
      by_cases h : tkK t n p1 = 2
      · rw [if_pos h]
        have tn := m_num (C := C) (k := 1) (lo := 0) (hi := 7) Wa Ta fa Da a21 a22 hlt1 hp1 h (by decide) (by decide) (by decide)
        refine G_S (pc := 43) f_214_43 rfl rfl rfl ?_
        refine G_ic (v := nI 3) (pc := 45) f_214_45 (by decide) ?_
        refine G_jgeZ (pc := 46) f_214_46 rfl (by first | exact nI_toInt (by omega) | exact zI_toInt (by omega) (by omega) | rfl) (by first | exact nI_toInt (by omega) | exact zI_toInt (by omega) (by omega) | rfl) (fun b2 => ?_) (fun b2 => ?_)
        · exfalso; omega
        · refine G_S (pc := 49) f_214_49 rfl rfl rfl ?_
          refine G_ic (v := nI 1) (pc := 50) f_214_50 (by decide) ?_
          refine G_ic (v := nI 0) (pc := 51) f_214_51 (by decide) ?_
          refine G_bi (v := nI 7) (pc := 52) f_214_52 (by decide) ?_
          refine G_CV (pc := 54) f_214_54 rfl rfl (by decide) rfl rfl (by first | assumption | exact hK.1 _ _ rfl) (by decide) ⟨Nat.le_of_ble_eq_true rfl, Nat.le_of_ble_eq_true rfl⟩ ?_
          refine CG.mono (tn) ?_
          rintro _ M2 ⟨rfl, hF2, W2, T2, hf2, hD2, g21, g22, hlt2, hp2, r1, ro⟩
          have hK := W2.1
          first | refine G_bEq (pc := 57) f_214_57 rfl (fun b3 => ?_) (fun b3 => ?_) | refine G_zeqZ (pc := 57) f_214_57 rfl (by first | exact nI_toInt (by omega) | exact zI_toInt (by omega) (by omega) | rfl) (fun b3 => ?_) (fun b3 => ?_)
          · exact absurd trivial b3
          · refine G_S (pc := 60) f_214_60 rfl rfl rfl ?_
            refine G_ic (v := nI 2) (pc := 62) f_214_62 (by decide) ?_
            refine G_jgeZ (pc := 63) f_214_63 rfl (by first | exact nI_toInt (by omega) | exact zI_toInt (by omega) (by omega) | rfl) (by first | exact nI_toInt (by omega) | exact zI_toInt (by omega) (by omega) | rfl) (fun b4 => ?_) (fun b4 => ?_)
            · refine G_S (pc := 76) f_214_76 rfl rfl rfl ?_
              refine G_ic (v := nI 3) (pc := 78) f_214_78 (by decide) ?_
              refine G_ic (v := nI 4) (pc := 79) f_214_79 (by decide) ?_
              refine G_CS (pc := 80) f_214_80 rfl rfl (by decide) rfl rfl ⟨Nat.le_of_ble_eq_true rfl, Nat.le_of_ble_eq_true rfl⟩ ?_
              refine CG.go (m_inZ (by first | exact nI_toInt (by omega) | exact zI_toInt (by omega) (by omega) | rfl) (by first | exact nI_toInt (by omega) | exact zI_toInt (by omega) (by omega) | rfl) (by first | exact nI_toInt (by omega) | exact zI_toInt (by omega) (by omega) | rfl)) ?_
              first | refine G_bEq (pc := 83) f_214_83 rfl (fun b6 => ?_) (fun b6 => ?_) | refine G_zeqZ (pc := 83) f_214_83 rfl (by first | exact nI_toInt (by omega) | exact zI_toInt (by omega) (by omega) | rfl) (fun b6 => ?_) (fun b6 => ?_)
              · exact m_rideE (hFM.tr hF2) W2 T2 hf2 hD2 g21 hlt2 hp2 hE0 (r1.trans (nI_zI _)) ((ro 2 (by decide)).trans q2)
              · exfalso; omega
            · exfalso; omega
      · rw [if_neg h]
        refine G_S (pc := 43) f_214_43 rfl rfl rfl ?_
        refine G_ic (v := nI 3) (pc := 45) f_214_45 (by decide) ?_
        refine G_jgeZ (pc := 46) f_214_46 rfl (by first | exact nI_toInt (by omega) | exact zI_toInt (by omega) (by omega) | rfl) (by first | exact nI_toInt (by omega) | exact zI_toInt (by omega) (by omega) | rfl) (fun b2 => ?_) (fun b2 => ?_)
        · exfalso; omega
        · refine G_S (pc := 49) f_214_49 rfl rfl rfl ?_
          refine G_ic (v := nI 1) (pc := 50) f_214_50 (by decide) ?_
          refine G_ic (v := nI 0) (pc := 51) f_214_51 (by decide) ?_
          refine G_bi (v := nI 7) (pc := 52) f_214_52 (by decide) ?_
          refine G_CV (pc := 54) f_214_54 rfl rfl (by decide) rfl rfl (by first | assumption | exact hK.1 _ _ rfl) (by decide) ⟨Nat.le_of_ble_eq_true rfl, Nat.le_of_ble_eq_true rfl⟩ ?_
          refine CG.mono (m_takeN Wa Ta h) ?_
          rintro _ M2 ⟨rfl, hF2, h16⟩
          first | refine G_bEq (pc := 57) f_214_57 rfl (fun b3 => ?_) (fun b3 => ?_) | refine G_zeqZ (pc := 57) f_214_57 rfl (by first | exact nI_toInt (by omega) | exact zI_toInt (by omega) (by omega) | rfl) (fun b3 => ?_) (fun b3 => ?_)
          · refine G_ic (v := nI 0) (pc := 97) f_214_97 (by decide) ?_
            refine G_rz (pc := 98) f_214_98 (by first | exact Or.inl rfl | exact Or.inr rfl | exact b2i_01 _ | assumption) ?_
            exact LN_no (hFM.tr (hF2.1.sub (by decide) (by decide))) h16
          · exact absurd b3 id
    · by_cases gC : g ≤ 9
      · have fA : fmN g 0 = 0 ∧ fmN g 1 = 1 ∧ fmN g (2 + 2 * 0) = 1 ∧ fmN g (3 + 2 * 0) = 9 := by
          rcases (show g = 8 ∨ g = 9 by omega) with rfl | rfl <;> decide
        obtain ⟨c0, c1, l0, h0⟩ := fA
        rw [ln_1 c0 c1, bad_d l0 h0, tkE_d hg hd, tkT_d (by omega)]
        by_cases h : tkK t n p1 = 2
        · rw [if_pos h]
          have tn := m_num (C := C) (k := 1) (lo := 1) (hi := 9) Wa Ta fa Da a21 a22 hlt1 hp1 h (by decide) (by decide) (by decide)
          refine G_S (pc := 43) f_214_43 rfl rfl rfl ?_
          refine G_ic (v := nI 3) (pc := 45) f_214_45 (by decide) ?_
          refine G_jgeZ (pc := 46) f_214_46 rfl (by first | exact nI_toInt (by omega) | exact zI_toInt (by omega) (by omega) | rfl) (by first | exact nI_toInt (by omega) | exact zI_toInt (by omega) (by omega) | rfl) (fun b2 => ?_) (fun b2 => ?_)
          · refine G_S (pc := 60) f_214_60 rfl rfl rfl ?_
            refine G_ic (v := nI 2) (pc := 62) f_214_62 (by decide) ?_
            refine G_jgeZ (pc := 63) f_214_63 rfl (by first | exact nI_toInt (by omega) | exact zI_toInt (by omega) (by omega) | rfl) (by first | exact nI_toInt (by omega) | exact zI_toInt (by omega) (by omega) | rfl) (fun b4 => ?_) (fun b4 => ?_)
            · refine G_S (pc := 76) f_214_76 rfl rfl rfl ?_
              refine G_ic (v := nI 3) (pc := 78) f_214_78 (by decide) ?_
              refine G_ic (v := nI 4) (pc := 79) f_214_79 (by decide) ?_
              refine G_CS (pc := 80) f_214_80 rfl rfl (by decide) rfl rfl ⟨Nat.le_of_ble_eq_true rfl, Nat.le_of_ble_eq_true rfl⟩ ?_
              refine CG.go (m_inZ (by first | exact nI_toInt (by omega) | exact zI_toInt (by omega) (by omega) | rfl) (by first | exact nI_toInt (by omega) | exact zI_toInt (by omega) (by omega) | rfl) (by first | exact nI_toInt (by omega) | exact zI_toInt (by omega) (by omega) | rfl)) ?_
              first | refine G_bEq (pc := 83) f_214_83 rfl (fun b6 => ?_) (fun b6 => ?_) | refine G_zeqZ (pc := 83) f_214_83 rfl (by first | exact nI_toInt (by omega) | exact zI_toInt (by omega) (by omega) | rfl) (fun b6 => ?_) (fun b6 => ?_)
              · exfalso; omega
              · refine G_S (pc := 86) f_214_86 rfl rfl rfl ?_
                refine G_ic (v := nI 1) (pc := 87) f_214_87 (by decide) ?_
                refine G_ic (v := nI 1) (pc := 88) f_214_88 (by decide) ?_
                refine G_bi (v := nI 9) (pc := 89) f_214_89 (by decide) ?_
                refine G_CV (pc := 91) f_214_91 rfl rfl (by decide) rfl rfl (by first | assumption | exact hK.1 _ _ rfl) (by decide) ⟨Nat.le_of_ble_eq_true rfl, Nat.le_of_ble_eq_true rfl⟩ ?_
                refine CG.mono (tn) ?_
                rintro _ M2 ⟨rfl, hF2, W2, T2, hf2, hD2, g21, g22, hlt2, hp2, r1, ro⟩
                have hK := W2.1
                first | refine G_bNe (pc := 94) f_214_94 rfl (fun b7 => ?_) (fun b7 => ?_) | refine G_zneZ (pc := 94) f_214_94 rfl (by first | exact nI_toInt (by omega) | exact zI_toInt (by omega) (by omega) | rfl) (fun b7 => ?_) (fun b7 => ?_)
                · exact m_rideE (hFM.tr hF2) W2 T2 hf2 hD2 g21 hlt2 hp2 hE0 (r1.trans (nI_zI _)) ((ro 2 (by decide)).trans q2)
                · exact absurd trivial b7
            · exfalso; omega
          · exfalso; omega
        · rw [if_neg h]
          refine G_S (pc := 43) f_214_43 rfl rfl rfl ?_
          refine G_ic (v := nI 3) (pc := 45) f_214_45 (by decide) ?_
          refine G_jgeZ (pc := 46) f_214_46 rfl (by first | exact nI_toInt (by omega) | exact zI_toInt (by omega) (by omega) | rfl) (by first | exact nI_toInt (by omega) | exact zI_toInt (by omega) (by omega) | rfl) (fun b2 => ?_) (fun b2 => ?_)
          · refine G_S (pc := 60) f_214_60 rfl rfl rfl ?_
            refine G_ic (v := nI 2) (pc := 62) f_214_62 (by decide) ?_
            refine G_jgeZ (pc := 63) f_214_63 rfl (by first | exact nI_toInt (by omega) | exact zI_toInt (by omega) (by omega) | rfl) (by first | exact nI_toInt (by omega) | exact zI_toInt (by omega) (by omega) | rfl) (fun b4 => ?_) (fun b4 => ?_)
            · refine G_S (pc := 76) f_214_76 rfl rfl rfl ?_
              refine G_ic (v := nI 3) (pc := 78) f_214_78 (by decide) ?_
              refine G_ic (v := nI 4) (pc := 79) f_214_79 (by decide) ?_
              refine G_CS (pc := 80) f_214_80 rfl rfl (by decide) rfl rfl ⟨Nat.le_of_ble_eq_true rfl, Nat.le_of_ble_eq_true rfl⟩ ?_
              refine CG.go (m_inZ (by first | exact nI_toInt (by omega) | exact zI_toInt (by omega) (by omega) | rfl) (by first | exact nI_toInt (by omega) | exact zI_toInt (by omega) (by omega) | rfl) (by first | exact nI_toInt (by omega) | exact zI_toInt (by omega) (by omega) | rfl)) ?_
              first | refine G_bEq (pc := 83) f_214_83 rfl (fun b6 => ?_) (fun b6 => ?_) | refine G_zeqZ (pc := 83) f_214_83 rfl (by first | exact nI_toInt (by omega) | exact zI_toInt (by omega) (by omega) | rfl) (fun b6 => ?_) (fun b6 => ?_)
              · exfalso; omega
              · refine G_S (pc := 86) f_214_86 rfl rfl rfl ?_
                refine G_ic (v := nI 1) (pc := 87) f_214_87 (by decide) ?_
                refine G_ic (v := nI 1) (pc := 88) f_214_88 (by decide) ?_
                refine G_bi (v := nI 9) (pc := 89) f_214_89 (by decide) ?_
                refine G_CV (pc := 91) f_214_91 rfl rfl (by decide) rfl rfl (by first | assumption | exact hK.1 _ _ rfl) (by decide) ⟨Nat.le_of_ble_eq_true rfl, Nat.le_of_ble_eq_true rfl⟩ ?_
                refine CG.mono (m_takeN Wa Ta h) ?_
                rintro _ M2 ⟨rfl, hF2, h16⟩
                first | refine G_bNe (pc := 94) f_214_94 rfl (fun b7 => ?_) (fun b7 => ?_) | refine G_zneZ (pc := 94) f_214_94 rfl (by first | exact nI_toInt (by omega) | exact zI_toInt (by omega) (by omega) | rfl) (fun b7 => ?_) (fun b7 => ?_)
                · exact absurd b7 id
                · refine G_ic (v := nI 0) (pc := 97) f_214_97 (by decide) ?_
                  refine G_rz (pc := 98) f_214_98 (by first | exact Or.inl rfl | exact Or.inr rfl | exact b2i_01 _ | assumption) ?_
                  exact LN_no (hFM.tr (hF2.1.sub (by decide) (by decide))) h16
            · exfalso; omega
          · exfalso; omega
      · have fA : fmN g 0 = 0 ∧ fmN g 1 = 0 := by
          rcases (show g = 10 ∨ g = 11 ∨ g = 12 by omega) with rfl | rfl | rfl <;> decide
        rw [ln_0 fA.1 fA.2, tkE_d hg hd, tkT_d (by omega)]
        refine G_S (pc := 43) f_214_43 rfl rfl rfl ?_
        refine G_ic (v := nI 3) (pc := 45) f_214_45 (by decide) ?_
        refine G_jgeZ (pc := 46) f_214_46 rfl (by first | exact nI_toInt (by omega) | exact zI_toInt (by omega) (by omega) | rfl) (by first | exact nI_toInt (by omega) | exact zI_toInt (by omega) (by omega) | rfl) (fun b2 => ?_) (fun b2 => ?_)
        · refine G_S (pc := 60) f_214_60 rfl rfl rfl ?_
          refine G_ic (v := nI 2) (pc := 62) f_214_62 (by decide) ?_
          refine G_jgeZ (pc := 63) f_214_63 rfl (by first | exact nI_toInt (by omega) | exact zI_toInt (by omega) (by omega) | rfl) (by first | exact nI_toInt (by omega) | exact zI_toInt (by omega) (by omega) | rfl) (fun b4 => ?_) (fun b4 => ?_)
          · refine G_S (pc := 76) f_214_76 rfl rfl rfl ?_
            refine G_ic (v := nI 3) (pc := 78) f_214_78 (by decide) ?_
            refine G_ic (v := nI 4) (pc := 79) f_214_79 (by decide) ?_
            refine G_CS (pc := 80) f_214_80 rfl rfl (by decide) rfl rfl ⟨Nat.le_of_ble_eq_true rfl, Nat.le_of_ble_eq_true rfl⟩ ?_
            refine CG.go (m_inZ (by first | exact nI_toInt (by omega) | exact zI_toInt (by omega) (by omega) | rfl) (by first | exact nI_toInt (by omega) | exact zI_toInt (by omega) (by omega) | rfl) (by first | exact nI_toInt (by omega) | exact zI_toInt (by omega) (by omega) | rfl)) ?_
            first | refine G_bEq (pc := 83) f_214_83 rfl (fun b6 => ?_) (fun b6 => ?_) | refine G_zeqZ (pc := 83) f_214_83 rfl (by first | exact nI_toInt (by omega) | exact zI_toInt (by omega) (by omega) | rfl) (fun b6 => ?_) (fun b6 => ?_)
            · exact m_rideE hFM Wa Ta fa Da a21 hlt1 hp1 hE0 q1 q2
            · exfalso; omega
          · exfalso; omega
        · exfalso; omega
theorem m_rideL (S : MSt M t n p f E T) (hk : tkK t n p ≠ 0) (hn : skp t n p ≤ 600) (hE0 : 0 ≤ E 0 ∧ E 0 ≤ 40) (hg : 5 ≤ g ∧ g ≤ 12) (hw : w = nL (wk g)) : CG C 214 [.ref 98, .long w, .int (nI (skp t n p))] M (LNq t n M (lnS t n g E T (nt f (fulB g E) 3 (skp t n p)) (tkR t n p))) := by
  have hK := S.1.1
  have hf := S.2.2.1
  have hD := S.2.2.2.1
  have hlt := S.2.2.2.2.2.2.1
  have e1 : fulB g E = decide (((40 : Nat) : Int) ≤ E 0) := by
    unfold fulB
    rw [if_neg (by omega), if_neg (by omega), if_pos hg]
    rfl
  rw [e1]
  obtain ⟨f1, hf1⟩ : ∃ f1, f1 = nt f (decide (((40 : Nat) : Int) ≤ E 0)) 3 (skp t n p) := ⟨_, rfl⟩
  rw [← hf1]
  obtain ⟨d, hd⟩ : ∃ d, d = g - 5 := ⟨_, rfl⟩
  have td := m_deedG (C := C) (M := M) hg hw
  rw [← hd] at td
  have af : ∀ M1, Fp 98 SFo SFs M M1 → MSt M1 t n (tkR t n p) f1 E T → G C 214 (43, [some (.ref 98), none, none, some (.int (nI (skp t n p))), some (.int (nI d))], [none, some (w), none, none, none], [], (M1.1, up2 (up2 M1.2.1 109 1 (zI (-1))) 109 2 (zI (-1)), M1.2.2.1, M1.2.2.2)) (LNq t n M (lnS t n g E T f1 (tkR t n p))) := by
    intro M1 hF1 S1
    obtain ⟨W1, T1, hf1', hD1, j21, j22, hlt1, hp1⟩ := S1
    have hFa : Fw [109] [] M1 (M1.1, up2 (up2 M1.2.1 109 1 (zI (-1))) 109 2 (zI (-1)), M1.2.2.1, M1.2.2.2) := (Fw.up (i := 109) (k := 1) (x := zI (-1)) (by decide) (by decide)).tr (Fw.up (i := 109) (k := 2) (x := zI (-1)) (by decide) (by decide))
    have q1 : up2 (up2 M1.2.1 109 1 (zI (-1))) 109 2 (zI (-1)) 109 1 = zI (-1) := (by (try dsimp only); exact up2_o (by omega) (by (try dsimp only); exact up2_s))
    have q2 : up2 (up2 M1.2.1 109 1 (zI (-1))) 109 2 (zI (-1)) 109 2 = zI (-1) := (by (try dsimp only); exact up2_s)
    have Wa := W1.fp hFa.1 (by decide) (by decide)
    have Ta := T1.fw hFa (by decide) (by decide) (by decide) (by decide)
    have fa := hf1'.fp hFa.1 (by decide) (by decide)
    have Da := hD1.fp hFa.1 (by decide)
    have a21 : up2 (up2 M1.2.1 109 1 (zI (-1))) 109 2 (zI (-1)) 98 21 = nI T := (by (try dsimp only); exact up2_o (by omega) (by (try dsimp only); exact up2_o (by omega) j21))
    have a22 : up2 (up2 M1.2.1 109 1 (zI (-1))) 109 2 (zI (-1)) 98 22 = b2i (true = true) := (by (try dsimp only); exact up2_o (by omega) (by (try dsimp only); exact up2_o (by omega) j22))
    have hFM := hF1.tr (hFa.1.sub (os' := SFo) (fs' := SFs) (by decide) (by decide))
    exact m_rideM hg hd hFM Wa Ta fa Da a21 a22 hlt1 hp1 hE0 q1 q2
  refine CG_in (mL := 5) (hl := true) (lv := [some (.ref 98), none, none, some (.int (nI (skp t n p))), none]) (ll := [none, some (w), none, none, none]) rfl rfl rfl ?_
  refine G_S (pc := 0) f_214_0 rfl rfl rfl ?_
  refine G_CS (pc := 1) f_214_1 rfl rfl (by decide) rfl rfl ⟨Nat.le_of_ble_eq_true rfl, Nat.le_of_ble_eq_true rfl⟩ ?_
  refine CG.go (td) ?_
  refine G_S (pc := 4) f_214_4 rfl rfl rfl ?_
  refine G_S (pc := 6) f_214_6 rfl rfl rfl ?_
  refine G_ic (v := zI (-1)) (pc := 8) f_214_8 (by decide) ?_
  refine G_jneZ (pc := 9) f_214_9 rfl (by first | exact nI_toInt (by omega) | exact zI_toInt (by omega) (by omega) | rfl) (by first | exact nI_toInt (by omega) | exact zI_toInt (by omega) (by omega) | rfl) (fun b1 => ?_) (fun b1 => ?_)
  · refine G_S (pc := 17) f_214_17 rfl rfl rfl ?_
    refine G_ic (v := nI 0) (pc := 18) f_214_18 (by decide) ?_
    refine G_bi (v := nI 40) (pc := 19) f_214_19 (by decide) ?_
    refine G_S (pc := 21) f_214_21 rfl rfl rfl ?_
    refine G_CV (pc := 22) f_214_22 rfl rfl (by decide) rfl rfl (by first | assumption | exact hK.1 _ _ rfl) (by decide) ⟨Nat.le_of_ble_eq_true rfl, Nat.le_of_ble_eq_true rfl⟩ ?_
    refine CG.mono (m_full hK hf hlt hn hD (by decide) hE0.1 hE0.2 (by decide)) ?_
    rintro _ M0 ⟨rfl, hF0, hf0⟩
    have hK := hF0.1.K hK
    have tt := m_tokS (C := C) S hk hF0 hf0
    rw [← hf1] at tt
    refine G_S (pc := 25) f_214_25 rfl rfl rfl ?_
    refine G_CV (pc := 26) f_214_26 rfl rfl (by decide) rfl rfl (by first | assumption | exact hK.1 _ _ rfl) (by decide) ⟨Nat.le_of_ble_eq_true rfl, Nat.le_of_ble_eq_true rfl⟩ ?_
    refine CG.mono (tt) ?_
    rintro _ M1 ⟨rfl, hF1, S1⟩
    have hK := S1.1.1
    refine G_S (pc := 29) f_214_29 rfl rfl rfl ?_
    refine G_gR (pc := 30) f_214_30 (by decide) rfl (by first | assumption | exact hK.1 _ _ rfl) (by first | assumption | exact hK.2 _ _ _ rfl | (try dsimp only) <;> (repeat (first | exact up2_s | refine up2_o (by first | decide | omega) ?_)) <;> first | assumption | exact hK.2 _ _ _ rfl) ?_
    refine G_ic (v := nI 1) (pc := 33) f_214_33 (by decide) ?_
    refine G_ic (v := zI (-1)) (pc := 34) f_214_34 (by decide) ?_
    refine G_isN (pc := 35) f_214_35 (by first | assumption | exact hK.1 _ _ rfl) (by omega) (by omega) ?_
    refine G_S (pc := 36) f_214_36 rfl rfl rfl ?_
    refine G_gR (pc := 37) f_214_37 (by decide) rfl (by first | assumption | exact hK.1 _ _ rfl) (by first | assumption | exact hK.2 _ _ _ rfl | (try dsimp only) <;> (repeat (first | exact up2_s | refine up2_o (by first | decide | omega) ?_)) <;> first | assumption | exact hK.2 _ _ _ rfl) ?_
    refine G_ic (v := nI 2) (pc := 40) f_214_40 (by decide) ?_
    refine G_ic (v := zI (-1)) (pc := 41) f_214_41 (by decide) ?_
    refine G_isN (pc := 42) f_214_42 (by first | assumption | exact hK.1 _ _ rfl) (by omega) (by omega) ?_
    exact af M1 hF1 S1
  · exfalso; omega
end MRL
