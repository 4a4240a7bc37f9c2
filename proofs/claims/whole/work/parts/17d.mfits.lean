/-! the reference goes through all ways -/
def lI : Option Nat → Int32
  | none => zI 1000000
  | some m => nI m
def MRC (M : Mm) (Z : Nat → Nat) (w : Nat) : Prop := M.2.1 98 47 = nI (cntF (ftB Z) w) ∧ (∀ s, s < 4 → M.2.1 122 s = lI (loO Z s w) ∧ M.2.1 123 s = oI (hiO Z s w)) ∧ ∀ set, 1 ≤ set → set < 2 ^ Z 0 → ∀ h, h ≤ 36 → M.2.1 124 (40 * set + h) = nI (cntF (tlB Z set h) w)
def g2N : Option (Nat × Nat) → Nat
  | none => 1000000
  | some q => q.2
def JO : List Nat := [121, 122, 123, 124]
section MFI
variable {C : Ct} {M : Mm} {n g w : Nat} {L : Nat → Nat → Nat} {k x : Int32} {Z : Nat → Nat}
theorem z_findFits (W : mS M g Z) : CG C 297 [.ref 98] M (fun v M' => v = none ∧ Fm JO [47] M M' ∧ MRC M' Z (10 ^ Z 0)) := by
  have hz := W.2.2.2.1.1
  have hp := p2 hz.2
  have hp10 := p10 hz.2
  have l6 : ∀ {Q} w, w < 10000 → ftB Z w = true → (∀ M1 a, mS M1 g Z → Fm JO [47] M M1 → MRC M1 Z (w + 1) → G C 297 (200, [some (.ref 98), some (.int (nI (10 ^ Z 0))), some (.int (nI w)), a], [], [], M1) Q) → ∀ i, i ≤ 2 ^ Z 0 → 1 ≤ i → ∀ M1, mS M1 g Z → Fm JO [47] M M1 → MO M1 w → M1.2.1 98 47 = nI (cntF (ftB Z) (w + 1)) → (∀ s, s < 4 → M1.2.1 122 s = lI (loO Z s (w + 1)) ∧ M1.2.1 123 s = oI (hiO Z s (w + 1))) → (∀ set, 1 ≤ set → set < i → ∀ h, h ≤ 36 → M1.2.1 124 (40 * set + h) = nI (cntF (tlB Z set h) (w + 1))) → (∀ set, i ≤ set → set < 2 ^ Z 0 → ∀ h, h ≤ 36 → M1.2.1 124 (40 * set + h) = nI (cntF (tlB Z set h) w)) → G C 297 (165, [some (.ref 98), some (.int (nI (10 ^ Z 0))), some (.int (nI w)), some (.int (nI i))], [], [], M1) Q := by
    intro Q w hw hf K
    refine upto (fun i hi ih h1 M1 W1 hF hO e6 els g1 g2 => ?_)
    have hK := W1.1
    obtain ⟨v0, hg8, hZ, ao⟩ := W1.2
    have hz0 := hZ.1
    have hz1 := hZ.2.1
    have hzf := hZ.2.2
    have ht := tg_le w i
    have q4 : i < 2 ^ Z 0 → M1.2.1 124 (40 * i + tg w i) = nI (cntF (tlB Z i (tg w i)) w) := fun q => g2 i (Nat.le_refl i) q _ ht
    have hcc := cntF_le (U := tlB Z i (tg w i)) w
    refine G_S (pc := 165) f_297_165 rfl rfl rfl ?_
    refine G_ic (v := nI 1) (pc := 166) f_297_166 (by decide) ?_
    refine G_S (pc := 167) f_297_167 rfl rfl rfl ?_
    refine G_CV (pc := 168) f_297_168 rfl rfl (by decide) rfl rfl (by first | assumption | exact hK.1 _ _ rfl) (by decide) ⟨Nat.le_of_ble_eq_true rfl, Nat.le_of_ble_eq_true rfl⟩ ?_
    refine CG.go (z_strangers W1) ?_
    first | refine G_shl1 (pc := 171) f_297_171 (by omega) ?_ | refine G_S (pc := 171) f_297_171 rfl rfl rfl ?_
    refine G_jgeZ (pc := 172) f_297_172 rfl (by first | exact nI_toInt (by omega) | exact zI_toInt (by omega) (by omega) | rfl) (by first | exact nI_toInt (by omega) | exact zI_toInt (by omega) (by omega) | rfl) (fun b7 => ?_) (fun b7 => ?_)
    · exact K M1 _ W1 hF ⟨e6, els, fun set a1 a2 h a3 => g1 set a1 (by omega) h a3⟩
    · refine G_S (pc := 175) f_297_175 rfl rfl rfl ?_
      refine G_gR (pc := 176) f_297_176 (by decide) rfl (by first | assumption | exact hK.1 _ _ rfl) (by first | assumption | exact hK.2 _ _ _ rfl | (try dsimp only) <;> (repeat (first | exact up2_s | refine up2_o (by first | decide | omega) ?_)) <;> first | assumption | exact hK.2 _ _ _ rfl) ?_
      refine G_bi (v := nI 40) (pc := 179) f_297_179 (by decide) ?_
      refine G_S (pc := 181) f_297_181 rfl rfl rfl ?_
      first | refine G_mulN (pc := 182) f_297_182 ?_ | refine G_mulZ (pc := 182) f_297_182 (by first | rfl | exact nI_zI _) (by first | rfl | exact nI_zI _) ?_ | refine G_S (pc := 182) f_297_182 rfl rfl rfl ?_
      refine G_S (pc := 183) f_297_183 rfl rfl rfl ?_
      refine G_S (pc := 184) f_297_184 rfl rfl rfl ?_
      refine G_CV (pc := 185) f_297_185 rfl rfl (by decide) rfl rfl (by first | assumption | exact hK.1 _ _ rfl) (by decide) ⟨Nat.le_of_ble_eq_true rfl, Nat.le_of_ble_eq_true rfl⟩ ?_
      refine CG.go (z_together W1 hO (by omega)) ?_
      first | refine G_addN (pc := 188) f_297_188 ?_ | refine G_addZ (pc := 188) f_297_188 (by first | rfl | exact nI_zI _) (by first | rfl | exact nI_zI _) ?_ | refine G_S (pc := 188) f_297_188 rfl rfl rfl ?_
      refine G_S (pc := 189) f_297_189 rfl rfl rfl ?_
      refine G_iaN (pc := 190) f_297_190 (by first | assumption | exact hK.1 _ _ rfl) (by omega) (by omega) (by first | exact q4 (by omega) | rfl) ?_
      refine G_ic (v := nI 1) (pc := 191) f_297_191 (by decide) ?_
      first | refine G_addN (pc := 192) f_297_192 ?_ | refine G_addZ (pc := 192) f_297_192 (by first | rfl | exact nI_zI _) (by first | rfl | exact nI_zI _) ?_ | refine G_S (pc := 192) f_297_192 rfl rfl rfl ?_
      refine G_isN (pc := 193) f_297_193 (by first | assumption | exact hK.1 _ _ rfl) (by omega) (by omega) ?_
      first | refine G_inc1 (pc := 194) f_297_194 rfl ?_ | refine G_S (pc := 194) f_297_194 rfl rfl rfl ?_
      refine G_S (pc := 197) f_297_197 rfl rfl rfl ?_
      have hF3 : Fm JO [47] M1 _ := Fm.up (i := 124) (k := 40 * i + tg w i) (x := nI (cntF (tlB Z i (tg w i)) w + 1)) (by decide) (by decide)
      refine ih (by omega) (by omega) _ (W1.fm hF3 (by decide) (by decide)) (hF.tr hF3) (fun s hs => (by (try dsimp only); exact up2_o (by omega) (hO s hs))) (by (try dsimp only); exact up2_o (by omega) e6) (fun s hs => ⟨(by (try dsimp only); exact up2_o (by omega) (els s hs).1), (by (try dsimp only); exact up2_o (by omega) (els s hs).2)⟩) (fun set a1 a2 h a3 => ?_) (fun set a1 a2 h a3 => (by (try dsimp only); exact up2_o (by omega) (g2 set (by omega) a2 h a3)))
      by_cases q : set = i
      · subst q
        by_cases q2 : h = tg w set
        · subst q2
          rw [cntF, if_pos (show tlB Z set (tg w set) w = true from band.mpr ⟨hf, decide_eq_true rfl⟩)]
          exact (by (try dsimp only); exact up2_s)
        · rw [cntF, if_neg (show ¬ tlB Z set h w = true from fun z => q2 (of_decide_eq_true (band.mp z).2).symm)]
          exact (by (try dsimp only); exact up2_o (by omega) (g2 set (Nat.le_refl set) (by omega) h a3))
      · exact (by (try dsimp only); exact up2_o (by omega) (g1 set a1 (by omega) h a3))
  have l5 : ∀ {Q} w, w < 10000 → ftB Z w = true → (∀ M1 a, mS M1 g Z → Fm JO [47] M M1 → MRC M1 Z (w + 1) → G C 297 (200, [some (.ref 98), some (.int (nI (10 ^ Z 0))), some (.int (nI w)), a], [], [], M1) Q) → ∀ i, i ≤ 4 → ∀ M1, mS M1 g Z → Fm JO [47] M M1 → MO M1 w → M1.2.1 98 47 = nI (cntF (ftB Z) (w + 1)) → (∀ s, s < i → M1.2.1 122 s = lI (loO Z s (w + 1)) ∧ M1.2.1 123 s = oI (hiO Z s (w + 1))) → (∀ s, i ≤ s → s < 4 → M1.2.1 122 s = lI (loO Z s w) ∧ M1.2.1 123 s = oI (hiO Z s w)) → (∀ set, 1 ≤ set → set < 2 ^ Z 0 → ∀ h, h ≤ 36 → M1.2.1 124 (40 * set + h) = nI (cntF (tlB Z set h) w)) → G C 297 (110, [some (.ref 98), some (.int (nI (10 ^ Z 0))), some (.int (nI w)), some (.int (nI i))], [], [], M1) Q := by
    intro Q w hw hf K
    refine upto (fun i hi ih M1 W1 hF hO e6 g1 g2 g3 => ?_)
    have hK := W1.1
    obtain ⟨v0, hg8, hZ, ao⟩ := W1.2
    have hz0 := hZ.1
    have hz1 := hZ.2.1
    have hzf := hZ.2.2
    have hb := brw_le w i
    have hlc := lo_c (Z := Z) (s := i) w
    have fin : ∀ x y, i < 4 → x = lI (loO Z i (w + 1)) → y = oI (hiO Z i (w + 1)) → G C 297 (110, [some (.ref 98), some (.int (nI (10 ^ Z 0))), some (.int (nI w)), some (.int (nI (i + 1)))], [], [], (M1.1, up2 (up2 M1.2.1 122 i x) 123 i y, M1.2.2.1, M1.2.2.2)) Q := by
      intro x y hi2 hx hy
      subst hx hy
      have hF3 : Fm JO [47] M1 (M1.1, up2 (up2 M1.2.1 122 i (lI (loO Z i (w + 1)))) 123 i (oI (hiO Z i (w + 1))), M1.2.2.1, M1.2.2.2) := (Fm.up (i := 122) (k := i) (x := lI (loO Z i (w + 1))) (by decide) (by decide)).tr (Fm.up (i := 123) (k := i) (x := oI (hiO Z i (w + 1))) (by decide) (by decide))
      refine ih hi2 _ (W1.fm hF3 (by decide) (by decide)) (hF.tr hF3) (fun s hs => (by (try dsimp only); exact up2_o (by omega) (by (try dsimp only); exact up2_o (by omega) (hO s hs)))) (by (try dsimp only); exact up2_o (by omega) (by (try dsimp only); exact up2_o (by omega) e6)) (fun s hs => ?_) (fun s a1 a2 => ⟨(by (try dsimp only); exact up2_o (by omega) (by (try dsimp only); exact up2_o (by omega) (g2 s (by omega) a2).1)), (by (try dsimp only); exact up2_o (by omega) (by (try dsimp only); exact up2_o (by omega) (g2 s (by omega) a2).2))⟩) (fun set a1 a2 h a3 => (by (try dsimp only); exact up2_o (by omega) (by (try dsimp only); exact up2_o (by omega) (g3 set a1 a2 h a3))))
      by_cases q : s = i
      · subst q
        exact ⟨(by (try dsimp only); exact up2_o (by omega) (by (try dsimp only); exact up2_s)), (by (try dsimp only); exact up2_s)⟩
      · exact ⟨(by (try dsimp only); exact up2_o (by omega) (by (try dsimp only); exact up2_o (by omega) (g1 s (by omega)).1)), (by (try dsimp only); exact up2_o (by omega) (by (try dsimp only); exact up2_o (by omega) (g1 s (by omega)).2))⟩
    by_cases h4 : i = 4
    · subst h4
      refine G_S (pc := 110) f_297_110 rfl rfl rfl ?_
      refine G_ic (v := nI 4) (pc := 111) f_297_111 (by decide) ?_
      refine G_jgeZ (pc := 112) f_297_112 rfl (by first | exact nI_toInt (by omega) | exact zI_toInt (by omega) (by omega) | rfl) (by first | exact nI_toInt (by omega) | exact zI_toInt (by omega) (by omega) | rfl) (fun b6 => ?_) (fun b6 => ?_)
      · refine G_ic (v := nI 1) (pc := 163) f_297_163 (by decide) ?_
        refine G_S (pc := 164) f_297_164 rfl rfl rfl ?_
        exact l6 w hw hf K 1 (by omega) (by omega) M1 W1 hF hO e6 (fun s hs => g1 s (by omega)) (fun set a1 a2 => absurd a2 (by omega)) (fun set a1 a2 => g3 set a1 a2)
      · exfalso; omega
    · obtain ⟨p1, p2⟩ := g2 i (Nat.le_refl i) (by omega)
      have p3 := hO i (by omega)
      by_cases hc0 : cntF (ftB Z) w = 0
      · obtain ⟨n1, n2⟩ := hlc.1 hc0
        rw [n1] at p1
        rw [n2] at p2
        have p1 : M1.2.1 122 i = zI 1000000 := p1
        have p2 : M1.2.1 123 i = zI (-1) := p2
        refine G_S (pc := 110) f_297_110 rfl rfl rfl ?_
        refine G_ic (v := nI 4) (pc := 111) f_297_111 (by decide) ?_
        refine G_jgeZ (pc := 112) f_297_112 rfl (by first | exact nI_toInt (by omega) | exact zI_toInt (by omega) (by omega) | rfl) (by first | exact nI_toInt (by omega) | exact zI_toInt (by omega) (by omega) | rfl) (fun b6 => ?_) (fun b6 => ?_)
        · exfalso; omega
        · refine G_S (pc := 115) f_297_115 rfl rfl rfl ?_
          refine G_gR (pc := 116) f_297_116 (by decide) rfl (by first | assumption | exact hK.1 _ _ rfl) (by first | assumption | exact hK.2 _ _ _ rfl | (try dsimp only) <;> (repeat (first | exact up2_s | refine up2_o (by first | decide | omega) ?_)) <;> first | assumption | exact hK.2 _ _ _ rfl) ?_
          refine G_S (pc := 119) f_297_119 rfl rfl rfl ?_
          refine G_S (pc := 120) f_297_120 rfl rfl rfl ?_
          refine G_gR (pc := 121) f_297_121 (by decide) rfl (by first | assumption | exact hK.1 _ _ rfl) (by first | assumption | exact hK.2 _ _ _ rfl | (try dsimp only) <;> (repeat (first | exact up2_s | refine up2_o (by first | decide | omega) ?_)) <;> first | assumption | exact hK.2 _ _ _ rfl) ?_
          refine G_S (pc := 124) f_297_124 rfl rfl rfl ?_
          refine G_iaN (pc := 125) f_297_125 (by first | assumption | exact hK.1 _ _ rfl) (by omega) (by omega) (by first | exact (by assumption) | rfl) ?_
          refine G_S (pc := 126) f_297_126 rfl rfl rfl ?_
          refine G_gR (pc := 127) f_297_127 (by decide) rfl (by first | assumption | exact hK.1 _ _ rfl) (by first | assumption | exact hK.2 _ _ _ rfl | (try dsimp only) <;> (repeat (first | exact up2_s | refine up2_o (by first | decide | omega) ?_)) <;> first | assumption | exact hK.2 _ _ _ rfl) ?_
          refine G_S (pc := 130) f_297_130 rfl rfl rfl ?_
          refine G_iaN (pc := 131) f_297_131 (by first | assumption | exact hK.1 _ _ rfl) (by omega) (by omega) (by first | exact (by assumption) | rfl) ?_
          refine G_CS (pc := 132) f_297_132 rfl rfl (by decide) rfl rfl ⟨Nat.le_of_ble_eq_true rfl, Nat.le_of_ble_eq_true rfl⟩ ?_
          refine CG.go (by first | exact m_lesserN (by omega) (by omega) | exact m_lesserZ (by first | exact nI_toInt (by omega) | exact zI_toInt (by omega) (by omega) | rfl) (by first | exact nI_toInt (by omega) | exact zI_toInt (by omega) (by omega) | rfl)) ?_
          refine G_isN (pc := 135) f_297_135 (by first | assumption | exact hK.1 _ _ rfl) (by omega) (by omega) ?_
          refine G_S (pc := 136) f_297_136 rfl rfl rfl ?_
          refine G_gR (pc := 137) f_297_137 (by decide) rfl (by first | assumption | exact hK.1 _ _ rfl) (by first | assumption | exact hK.2 _ _ _ rfl | (try dsimp only) <;> (repeat (first | exact up2_s | refine up2_o (by first | decide | omega) ?_)) <;> first | assumption | exact hK.2 _ _ _ rfl) ?_
          refine G_S (pc := 140) f_297_140 rfl rfl rfl ?_
          refine G_S (pc := 141) f_297_141 rfl rfl rfl ?_
          refine G_gR (pc := 142) f_297_142 (by decide) rfl (by first | assumption | exact hK.1 _ _ rfl) (by first | assumption | exact hK.2 _ _ _ rfl | (try dsimp only) <;> (repeat (first | exact up2_s | refine up2_o (by first | decide | omega) ?_)) <;> first | assumption | exact hK.2 _ _ _ rfl) ?_
          refine G_S (pc := 145) f_297_145 rfl rfl rfl ?_
          refine G_iaN (pc := 146) f_297_146 (by first | assumption | exact hK.1 _ _ rfl) (by omega) (by omega) (by first | exact (mI_o (by omega) p2) | rfl) ?_
          refine G_S (pc := 147) f_297_147 rfl rfl rfl ?_
          refine G_gR (pc := 148) f_297_148 (by decide) rfl (by first | assumption | exact hK.1 _ _ rfl) (by first | assumption | exact hK.2 _ _ _ rfl | (try dsimp only) <;> (repeat (first | exact up2_s | refine up2_o (by first | decide | omega) ?_)) <;> first | assumption | exact hK.2 _ _ _ rfl) ?_
          refine G_S (pc := 151) f_297_151 rfl rfl rfl ?_
          refine G_iaN (pc := 152) f_297_152 (by first | assumption | exact hK.1 _ _ rfl) (by omega) (by omega) (by first | exact (mI_o (by omega) p3) | rfl) ?_
          refine G_CS (pc := 153) f_297_153 rfl rfl (by decide) rfl rfl ⟨Nat.le_of_ble_eq_true rfl, Nat.le_of_ble_eq_true rfl⟩ ?_
          refine CG.go (by first | exact m_greaterN (by omega) (by omega) | exact m_greaterZ (by first | exact nI_toInt (by omega) | exact zI_toInt (by omega) (by omega) | rfl) (by first | exact nI_toInt (by omega) | exact zI_toInt (by omega) (by omega) | rfl)) ?_
          refine G_isN (pc := 156) f_297_156 (by first | assumption | exact hK.1 _ _ rfl) (by omega) (by omega) ?_
          first | refine G_inc1 (pc := 157) f_297_157 rfl ?_ | refine G_S (pc := 157) f_297_157 rfl rfl rfl ?_
          refine G_S (pc := 160) f_297_160 rfl rfl rfl ?_
          refine fin _ _ (by omega) ?_ ?_
          · rw [loO, if_pos hf, n1]
            rw [show min (1000000 : Int) ((brw w i : Nat) : Int) = ((brw w i : Nat) : Int) by omega, ← nI_zI]
            rfl
          · rw [hiO, if_pos hf, n2]
            rw [show max (-1 : Int) ((brw w i : Nat) : Int) = ((brw w i : Nat) : Int) by omega, ← nI_zI]
            rfl
      · obtain ⟨a, b, n1, n2, n3, n4⟩ := hlc.2 hc0
        rw [n1] at p1
        rw [n2] at p2
        have p1 : M1.2.1 122 i = nI a := p1
        have p2 : M1.2.1 123 i = nI b := p2
        refine G_S (pc := 110) f_297_110 rfl rfl rfl ?_
        refine G_ic (v := nI 4) (pc := 111) f_297_111 (by decide) ?_
        refine G_jgeZ (pc := 112) f_297_112 rfl (by first | exact nI_toInt (by omega) | exact zI_toInt (by omega) (by omega) | rfl) (by first | exact nI_toInt (by omega) | exact zI_toInt (by omega) (by omega) | rfl) (fun b6 => ?_) (fun b6 => ?_)
        · exfalso; omega
        · refine G_S (pc := 115) f_297_115 rfl rfl rfl ?_
          refine G_gR (pc := 116) f_297_116 (by decide) rfl (by first | assumption | exact hK.1 _ _ rfl) (by first | assumption | exact hK.2 _ _ _ rfl | (try dsimp only) <;> (repeat (first | exact up2_s | refine up2_o (by first | decide | omega) ?_)) <;> first | assumption | exact hK.2 _ _ _ rfl) ?_
          refine G_S (pc := 119) f_297_119 rfl rfl rfl ?_
          refine G_S (pc := 120) f_297_120 rfl rfl rfl ?_
          refine G_gR (pc := 121) f_297_121 (by decide) rfl (by first | assumption | exact hK.1 _ _ rfl) (by first | assumption | exact hK.2 _ _ _ rfl | (try dsimp only) <;> (repeat (first | exact up2_s | refine up2_o (by first | decide | omega) ?_)) <;> first | assumption | exact hK.2 _ _ _ rfl) ?_
          refine G_S (pc := 124) f_297_124 rfl rfl rfl ?_
          refine G_iaN (pc := 125) f_297_125 (by first | assumption | exact hK.1 _ _ rfl) (by omega) (by omega) (by first | exact (by assumption) | rfl) ?_
          refine G_S (pc := 126) f_297_126 rfl rfl rfl ?_
          refine G_gR (pc := 127) f_297_127 (by decide) rfl (by first | assumption | exact hK.1 _ _ rfl) (by first | assumption | exact hK.2 _ _ _ rfl | (try dsimp only) <;> (repeat (first | exact up2_s | refine up2_o (by first | decide | omega) ?_)) <;> first | assumption | exact hK.2 _ _ _ rfl) ?_
          refine G_S (pc := 130) f_297_130 rfl rfl rfl ?_
          refine G_iaN (pc := 131) f_297_131 (by first | assumption | exact hK.1 _ _ rfl) (by omega) (by omega) (by first | exact (by assumption) | rfl) ?_
          refine G_CS (pc := 132) f_297_132 rfl rfl (by decide) rfl rfl ⟨Nat.le_of_ble_eq_true rfl, Nat.le_of_ble_eq_true rfl⟩ ?_
          refine CG.go (by first | exact m_lesserN (by omega) (by omega) | exact m_lesserZ (by first | exact nI_toInt (by omega) | exact zI_toInt (by omega) (by omega) | rfl) (by first | exact nI_toInt (by omega) | exact zI_toInt (by omega) (by omega) | rfl)) ?_
          refine G_isN (pc := 135) f_297_135 (by first | assumption | exact hK.1 _ _ rfl) (by omega) (by omega) ?_
          refine G_S (pc := 136) f_297_136 rfl rfl rfl ?_
          refine G_gR (pc := 137) f_297_137 (by decide) rfl (by first | assumption | exact hK.1 _ _ rfl) (by first | assumption | exact hK.2 _ _ _ rfl | (try dsimp only) <;> (repeat (first | exact up2_s | refine up2_o (by first | decide | omega) ?_)) <;> first | assumption | exact hK.2 _ _ _ rfl) ?_
          refine G_S (pc := 140) f_297_140 rfl rfl rfl ?_
          refine G_S (pc := 141) f_297_141 rfl rfl rfl ?_
          refine G_gR (pc := 142) f_297_142 (by decide) rfl (by first | assumption | exact hK.1 _ _ rfl) (by first | assumption | exact hK.2 _ _ _ rfl | (try dsimp only) <;> (repeat (first | exact up2_s | refine up2_o (by first | decide | omega) ?_)) <;> first | assumption | exact hK.2 _ _ _ rfl) ?_
          refine G_S (pc := 145) f_297_145 rfl rfl rfl ?_
          refine G_iaN (pc := 146) f_297_146 (by first | assumption | exact hK.1 _ _ rfl) (by omega) (by omega) (by first | exact (mI_o (by omega) p2) | rfl) ?_
          refine G_S (pc := 147) f_297_147 rfl rfl rfl ?_
          refine G_gR (pc := 148) f_297_148 (by decide) rfl (by first | assumption | exact hK.1 _ _ rfl) (by first | assumption | exact hK.2 _ _ _ rfl | (try dsimp only) <;> (repeat (first | exact up2_s | refine up2_o (by first | decide | omega) ?_)) <;> first | assumption | exact hK.2 _ _ _ rfl) ?_
          refine G_S (pc := 151) f_297_151 rfl rfl rfl ?_
          refine G_iaN (pc := 152) f_297_152 (by first | assumption | exact hK.1 _ _ rfl) (by omega) (by omega) (by first | exact (mI_o (by omega) p3) | rfl) ?_
          refine G_CS (pc := 153) f_297_153 rfl rfl (by decide) rfl rfl ⟨Nat.le_of_ble_eq_true rfl, Nat.le_of_ble_eq_true rfl⟩ ?_
          refine CG.go (by first | exact m_greaterN (by omega) (by omega) | exact m_greaterZ (by first | exact nI_toInt (by omega) | exact zI_toInt (by omega) (by omega) | rfl) (by first | exact nI_toInt (by omega) | exact zI_toInt (by omega) (by omega) | rfl)) ?_
          refine G_isN (pc := 156) f_297_156 (by first | assumption | exact hK.1 _ _ rfl) (by omega) (by omega) ?_
          first | refine G_inc1 (pc := 157) f_297_157 rfl ?_ | refine G_S (pc := 157) f_297_157 rfl rfl rfl ?_
          refine G_S (pc := 160) f_297_160 rfl rfl rfl ?_
          refine fin _ _ (by omega) ?_ ?_
          · rw [loO, if_pos hf, n1]
            rfl
          · rw [hiO, if_pos hf, n2]
            rfl
  have l4 : ∀ i, i ≤ 10 ^ Z 0 → ∀ M1 a, mS M1 g Z → Fm JO [47] M M1 → MRC M1 Z i → G C 297 (81, [some (.ref 98), some (.int (nI (10 ^ Z 0))), some (.int (nI i)), a], [], [], M1) (fun v M' => v = none ∧ Fm JO [47] M M' ∧ MRC M' Z (10 ^ Z 0)) := by
    refine upto (fun i hi ih M1 a W1 hF hR => ?_)
    have hK := W1.1
    obtain ⟨v0, hg8, hZ, ao⟩ := W1.2
    have hz0 := hZ.1
    have hz1 := hZ.2.1
    have hzf := hZ.2.2
    refine G_S (pc := 81) f_297_81 rfl rfl rfl ?_
    refine G_S (pc := 82) f_297_82 rfl rfl rfl ?_
    refine G_jgeZ (pc := 83) f_297_83 rfl (by first | exact nI_toInt (by omega) | exact zI_toInt (by omega) (by omega) | rfl) (by first | exact nI_toInt (by omega) | exact zI_toInt (by omega) (by omega) | rfl) (fun b4 => ?_) (fun b4 => ?_)
    · refine G_rv (pc := 206) f_297_206 ?_
      rw [show i = 10 ^ Z 0 by omega] at hR
      exact ⟨rfl, hF, hR⟩
    · refine G_S (pc := 86) f_297_86 rfl rfl rfl ?_
      refine G_S (pc := 87) f_297_87 rfl rfl rfl ?_
      refine G_CV (pc := 88) f_297_88 rfl rfl (by decide) rfl rfl (by first | assumption | exact hK.1 _ _ rfl) (by decide) ⟨Nat.le_of_ble_eq_true rfl, Nat.le_of_ble_eq_true rfl⟩ ?_
      refine CG.mono (z_layBear W1 (by omega)) ?_
      rintro _ M2 ⟨rfl, hF2, hO⟩
      have hF2' : Fm JO [47] M1 M2 := hF2.sub (by decide) (by decide)
      have W2 := W1.fm hF2' (by decide) (by decide)
      have hK := W2.1
      have hR2 : MRC M2 Z i := by
        unfold MRC at hR ⊢
        rw [hF2.2.2 47 (by decide), (hF2.2.1 122 (by decide) (by decide)).1, (hF2.2.1 123 (by decide) (by decide)).1, (hF2.2.1 124 (by decide) (by decide)).1]
        exact hR
      obtain ⟨e6, els, etl⟩ := hR2
      have hcw := cntF_le (U := ftB Z) i
      refine G_S (pc := 91) f_297_91 rfl rfl rfl ?_
      refine G_CV (pc := 92) f_297_92 rfl rfl (by decide) rfl rfl (by first | assumption | exact hK.1 _ _ rfl) (by decide) ⟨Nat.le_of_ble_eq_true rfl, Nat.le_of_ble_eq_true rfl⟩ ?_
      refine CG.go (z_isFit W2 hO) ?_
      first | refine G_bEq (pc := 95) f_297_95 rfl (fun b5 => ?_) (fun b5 => ?_) | refine G_zeqZ (pc := 95) f_297_95 rfl (by first | exact nI_toInt (by omega) | exact zI_toInt (by omega) (by omega) | rfl) (fun b5 => ?_) (fun b5 => ?_)
      · first | refine G_inc1 (pc := 200) f_297_200 rfl ?_ | refine G_S (pc := 200) f_297_200 rfl rfl rfl ?_
        refine G_S (pc := 203) f_297_203 rfl rfl rfl ?_
        refine ih (by omega) M2 _ W2 (hF.tr hF2') ⟨by rw [cntF, if_neg b5]; exact e6, fun s hs => by rw [loO, hiO, if_neg b5, if_neg b5]; exact els s hs, fun set a1 a2 h a3 => ?_⟩
        rw [cntF, if_neg (show ¬ tlB Z set h i = true from fun q => b5 (band.mp q).1)]
        exact etl set a1 a2 h a3
      · refine G_S (pc := 98) f_297_98 rfl rfl rfl ?_
        refine G_S (pc := 99) f_297_99 rfl rfl rfl ?_
        refine G_gIv (pc := 100) f_297_100 (by decide) rfl (by decide) (by first | assumption | exact hK.1 _ _ rfl) (by first | assumption | exact mI_s | ((refine mI_o (by first | decide | omega) ?_); (repeat (refine mI_o (by first | decide | omega) ?_)); first | exact mI_s | assumption) | rfl) ?_
        refine G_ic (v := nI 1) (pc := 103) f_297_103 (by decide) ?_
        first | refine G_addN (pc := 104) f_297_104 ?_ | refine G_addZ (pc := 104) f_297_104 (by first | rfl | exact nI_zI _) (by first | rfl | exact nI_zI _) ?_ | refine G_S (pc := 104) f_297_104 rfl rfl rfl ?_
        refine G_pI (pc := 105) f_297_105 rfl (by first | assumption | exact hK.1 _ _ rfl) ?_
        refine G_ic (v := nI 0) (pc := 108) f_297_108 (by decide) ?_
        refine G_S (pc := 109) f_297_109 rfl rfl rfl ?_
        have e7 : cntF (ftB Z) (i + 1) = cntF (ftB Z) i + 1 := by rw [cntF, if_pos b5]
        have hF3 : Fm JO [47] M2 _ := Fm.upf (k := 47) (x := nI (cntF (ftB Z) i + 1)) (by decide)
        refine l5 i (by omega) b5 ?_ 0 (Nat.zero_le _) _ (W2.fm hF3 (by decide) (by decide)) ((hF.tr hF2').tr hF3) (fun s hs => (by (try dsimp only); exact up2_o (by omega) (hO s hs))) (by rw [e7]; exact (by (try dsimp only); exact up2_s)) (fun s hs => absurd hs (by omega)) (fun s a1 a2 => ⟨(by (try dsimp only); exact up2_o (by omega) (els s a2).1), (by (try dsimp only); exact up2_o (by omega) (els s a2).2)⟩) (fun set a1 a2 h a3 => (by (try dsimp only); exact up2_o (by omega) (etl set a1 a2 h a3)))
        intro M5 a5 W5 hF5 hR5
        first | refine G_inc1 (pc := 200) f_297_200 rfl ?_ | refine G_S (pc := 200) f_297_200 rfl rfl rfl ?_
        refine G_S (pc := 203) f_297_203 rfl rfl rfl ?_
        exact ih (by omega) M5 _ W5 hF5 hR5
  have l3 : ∀ i, i ≤ Z 0 → ∀ M1, mS M1 g Z → Fm JO [47] M M1 → MRC M1 Z 0 → G C 297 (60, [some (.ref 98), some (.int (nI (10 ^ i))), some (.int (nI i)), none], [], [], M1) (fun v M' => v = none ∧ Fm JO [47] M M' ∧ MRC M' Z (10 ^ Z 0)) := by
    refine upto (fun i hi ih M1 W1 hF hR => ?_)
    have hK := W1.1
    obtain ⟨v0, hg8, hZ, ao⟩ := W1.2
    have hz0 := hZ.1
    have hz1 := hZ.2.1
    have hzf := hZ.2.2
    refine G_S (pc := 60) f_297_60 rfl rfl rfl ?_
    refine G_S (pc := 61) f_297_61 rfl rfl rfl ?_
    refine G_CV (pc := 62) f_297_62 rfl rfl (by decide) rfl rfl (by first | assumption | exact hK.1 _ _ rfl) (by decide) ⟨Nat.le_of_ble_eq_true rfl, Nat.le_of_ble_eq_true rfl⟩ ?_
    refine CG.go (z_strangers W1) ?_
    refine G_jgeZ (pc := 65) f_297_65 rfl (by first | exact nI_toInt (by omega) | exact zI_toInt (by omega) (by omega) | rfl) (by first | exact nI_toInt (by omega) | exact zI_toInt (by omega) (by omega) | rfl) (fun b3 => ?_) (fun b3 => ?_)
    · refine G_ic (v := nI 0) (pc := 79) f_297_79 (by decide) ?_
      refine G_S (pc := 80) f_297_80 rfl rfl rfl ?_
      rw [show i = Z 0 by omega]
      exact l4 0 (Nat.zero_le _) M1 _ W1 hF hR
    · refine G_S (pc := 68) f_297_68 rfl rfl rfl ?_
      refine G_bi (v := nI 10) (pc := 69) f_297_69 (by decide) ?_
      first | refine G_mulN (pc := 71) f_297_71 ?_ | refine G_mulZ (pc := 71) f_297_71 (by first | rfl | exact nI_zI _) (by first | rfl | exact nI_zI _) ?_ | refine G_S (pc := 71) f_297_71 rfl rfl rfl ?_
      refine G_S (pc := 72) f_297_72 rfl rfl rfl ?_
      first | refine G_inc1 (pc := 73) f_297_73 rfl ?_ | refine G_S (pc := 73) f_297_73 rfl rfl rfl ?_
      refine G_S (pc := 76) f_297_76 rfl rfl rfl ?_
      have e := ih (by omega) M1 W1 hF hR
      rw [Nat.pow_succ] at e
      exact e
  have l2 : ∀ i, i ≤ 640 → ∀ M1, mS M1 g Z → Fm JO [47] M M1 → M1.2.1 98 47 = nI 0 → (∀ s, s < 4 → M1.2.1 122 s = zI 1000000 ∧ M1.2.1 123 s = zI (-1)) → (∀ k, k < i → M1.2.1 124 k = nI 0) → G C 297 (36, [some (.ref 98), some (.int (nI i)), none, none], [], [], M1) (fun v M' => v = none ∧ Fm JO [47] M M' ∧ MRC M' Z (10 ^ Z 0)) := by
    refine upto (fun i hi ih M1 W1 hF e6 els q1 => ?_)
    have hK := W1.1
    obtain ⟨v0, hg8, hZ, ao⟩ := W1.2
    have hz0 := hZ.1
    have hz1 := hZ.2.1
    have hzf := hZ.2.2
    refine G_S (pc := 36) f_297_36 rfl rfl rfl ?_
    refine G_si (v := nI 640) (pc := 37) f_297_37 (by decide) ?_
    refine G_jgeZ (pc := 40) f_297_40 rfl (by first | exact nI_toInt (by omega) | exact zI_toInt (by omega) (by omega) | rfl) (by first | exact nI_toInt (by omega) | exact zI_toInt (by omega) (by omega) | rfl) (fun b2 => ?_) (fun b2 => ?_)
    · refine G_ic (v := nI 1) (pc := 56) f_297_56 (by decide) ?_
      refine G_S (pc := 57) f_297_57 rfl rfl rfl ?_
      refine G_ic (v := nI 0) (pc := 58) f_297_58 (by decide) ?_
      refine G_S (pc := 59) f_297_59 rfl rfl rfl ?_
      exact l3 0 (Nat.zero_le _) M1 W1 hF ⟨e6, els, fun set a1 a2 h a3 => q1 _ (by omega)⟩
    · refine G_S (pc := 43) f_297_43 rfl rfl rfl ?_
      refine G_gR (pc := 44) f_297_44 (by decide) rfl (by first | assumption | exact hK.1 _ _ rfl) (by first | assumption | exact hK.2 _ _ _ rfl | (try dsimp only) <;> (repeat (first | exact up2_s | refine up2_o (by first | decide | omega) ?_)) <;> first | assumption | exact hK.2 _ _ _ rfl) ?_
      refine G_S (pc := 47) f_297_47 rfl rfl rfl ?_
      refine G_ic (v := nI 0) (pc := 48) f_297_48 (by decide) ?_
      refine G_isN (pc := 49) f_297_49 (by first | assumption | exact hK.1 _ _ rfl) (by omega) (by omega) ?_
      first | refine G_inc1 (pc := 50) f_297_50 rfl ?_ | refine G_S (pc := 50) f_297_50 rfl rfl rfl ?_
      refine G_S (pc := 53) f_297_53 rfl rfl rfl ?_
      have hF3 : Fm JO [47] M1 _ := Fm.up (i := 124) (k := i) (x := nI 0) (by decide) (by decide)
      refine ih (by omega) _ (W1.fm hF3 (by decide) (by decide)) (hF.tr hF3) (by (try dsimp only); exact up2_o (by omega) e6) (fun s hs => ⟨(by (try dsimp only); exact up2_o (by omega) (els s hs).1), (by (try dsimp only); exact up2_o (by omega) (els s hs).2)⟩) (fun j hj => ?_)
      by_cases q : j = i
      · subst q
        exact (by (try dsimp only); exact up2_s)
      · exact (by (try dsimp only); exact up2_o (by omega) (q1 j (by omega)))
  have l1 : ∀ i, i ≤ 4 → ∀ M1, mS M1 g Z → Fm JO [47] M M1 → M1.2.1 98 47 = nI 0 → (∀ s, s < i → M1.2.1 122 s = zI 1000000 ∧ M1.2.1 123 s = zI (-1)) → G C 297 (7, [some (.ref 98), some (.int (nI i)), none, none], [], [], M1) (fun v M' => v = none ∧ Fm JO [47] M M' ∧ MRC M' Z (10 ^ Z 0)) := by
    refine upto (fun i hi ih M1 W1 hF e6 q1 => ?_)
    have hK := W1.1
    obtain ⟨v0, hg8, hZ, ao⟩ := W1.2
    have hz0 := hZ.1
    have hz1 := hZ.2.1
    have hzf := hZ.2.2
    refine G_S (pc := 7) f_297_7 rfl rfl rfl ?_
    refine G_ic (v := nI 4) (pc := 8) f_297_8 (by decide) ?_
    refine G_jgeZ (pc := 9) f_297_9 rfl (by first | exact nI_toInt (by omega) | exact zI_toInt (by omega) (by omega) | rfl) (by first | exact nI_toInt (by omega) | exact zI_toInt (by omega) (by omega) | rfl) (fun b1 => ?_) (fun b1 => ?_)
    · refine G_ic (v := nI 0) (pc := 34) f_297_34 (by decide) ?_
      refine G_S (pc := 35) f_297_35 rfl rfl rfl ?_
      exact l2 0 (Nat.zero_le _) M1 W1 hF e6 (fun s hs => q1 s (by omega)) (fun k hk => absurd hk (by omega))
    · refine G_S (pc := 12) f_297_12 rfl rfl rfl ?_
      refine G_gR (pc := 13) f_297_13 (by decide) rfl (by first | assumption | exact hK.1 _ _ rfl) (by first | assumption | exact hK.2 _ _ _ rfl | (try dsimp only) <;> (repeat (first | exact up2_s | refine up2_o (by first | decide | omega) ?_)) <;> first | assumption | exact hK.2 _ _ _ rfl) ?_
      refine G_S (pc := 16) f_297_16 rfl rfl rfl ?_
      refine G_lc (v := zI 1000000) (pc := 17) f_297_17 rfl (by decide) ?_
      refine G_isN (pc := 20) f_297_20 (by first | assumption | exact hK.1 _ _ rfl) (by omega) (by omega) ?_
      refine G_S (pc := 21) f_297_21 rfl rfl rfl ?_
      refine G_gR (pc := 22) f_297_22 (by decide) rfl (by first | assumption | exact hK.1 _ _ rfl) (by first | assumption | exact hK.2 _ _ _ rfl | (try dsimp only) <;> (repeat (first | exact up2_s | refine up2_o (by first | decide | omega) ?_)) <;> first | assumption | exact hK.2 _ _ _ rfl) ?_
      refine G_S (pc := 25) f_297_25 rfl rfl rfl ?_
      refine G_ic (v := zI (-1)) (pc := 26) f_297_26 (by decide) ?_
      refine G_isN (pc := 27) f_297_27 (by first | assumption | exact hK.1 _ _ rfl) (by omega) (by omega) ?_
      first | refine G_inc1 (pc := 28) f_297_28 rfl ?_ | refine G_S (pc := 28) f_297_28 rfl rfl rfl ?_
      refine G_S (pc := 31) f_297_31 rfl rfl rfl ?_
      have hF3 : Fm JO [47] M1 _ := (Fm.up (i := 122) (k := i) (x := zI 1000000) (by decide) (by decide)).tr (Fm.up (i := 123) (k := i) (x := zI (-1)) (by decide) (by decide))
      refine ih (by omega) _ (W1.fm hF3 (by decide) (by decide)) (hF.tr hF3) (by (try dsimp only); exact up2_o (by omega) (by (try dsimp only); exact up2_o (by omega) e6)) (fun j hj => ?_)
      by_cases q : j = i
      · subst q
        exact ⟨(by (try dsimp only); exact up2_o (by omega) (by (try dsimp only); exact up2_s)), (by (try dsimp only); exact up2_s)⟩
      · exact ⟨(by (try dsimp only); exact up2_o (by omega) (by (try dsimp only); exact up2_o (by omega) (q1 j (by omega)).1)), (by (try dsimp only); exact up2_o (by omega) (by (try dsimp only); exact up2_o (by omega) (q1 j (by omega)).2))⟩
  have hK := W.1
  obtain ⟨v0, hg8, hZ, ao⟩ := W.2
  have hz0 := hZ.1
  have hz1 := hZ.2.1
  have hzf := hZ.2.2
  refine CG_in (mL := 4) (hl := false) (lv := [some (.ref 98), none, none, none]) (ll := []) rfl rfl rfl ?_
  refine G_S (pc := 0) f_297_0 rfl rfl rfl ?_
  refine G_ic (v := nI 0) (pc := 1) f_297_1 (by decide) ?_
  refine G_pI (pc := 2) f_297_2 rfl (by first | assumption | exact hK.1 _ _ rfl) ?_
  refine G_ic (v := nI 0) (pc := 5) f_297_5 (by decide) ?_
  refine G_S (pc := 6) f_297_6 rfl rfl rfl ?_
  have hF3 : Fm JO [47] M _ := Fm.upf (k := 47) (x := nI 0) (by decide)
  exact l1 0 (Nat.zero_le _) _ (W.fm hF3 (by decide) (by decide)) hF3 (by (try dsimp only); exact up2_s) (fun s hs => absurd hs (by omega))
theorem z_ask (W : mS M g Z) (hR : MRC M Z (10 ^ Z 0)) : CG C 298 [.ref 98] M (fun v M' => v = some (.int (q1I (qS Z (10 ^ Z 0) (2 ^ Z 0)))) ∧ M' = M) := by
  have hK := W.1
  obtain ⟨v0, hg8, hZ, ao⟩ := W.2
  have hz0 := hZ.1
  have hz1 := hZ.2.1
  have hzf := hZ.2.2
  have hp := p2 hz0.2
  have hp10 := p10 hz0.2
  obtain ⟨e6, els, etl⟩ := hR
  have hcw := cntF_le (U := ftB Z) (10 ^ Z 0)
  have inner : ∀ {Q} set, 1 ≤ set → set < 2 ^ Z 0 → (∀ a, G C 298 (101, [some (.ref 98), some (.int ((q1I (qI Z (10 ^ Z 0) set 36 (qS Z (10 ^ Z 0) set))))), some (.int (nI ((g2N (qI Z (10 ^ Z 0) set 36 (qS Z (10 ^ Z 0) set)))))), some (.int (nI set)), some (.int (nI ((blN Z set (10 ^ Z 0) 37)))), some (.int (nI 37)), a], [], [], M) Q) → ∀ m, m ≤ 36 → ∀ a, G C 298 (32, [some (.ref 98), some (.int ((q1I (qI Z (10 ^ Z 0) set m (qS Z (10 ^ Z 0) set))))), some (.int (nI ((g2N (qI Z (10 ^ Z 0) set m (qS Z (10 ^ Z 0) set)))))), some (.int (nI set)), some (.int (nI ((blN Z set (10 ^ Z 0) (m + 1))))), some (.int (nI (m + 1))), a], [], [], M) Q := by
    intro Q set h1 h2 K
    refine upto (fun m hm ih a => ?_)
    have hbl := blN_le (Z := Z) (set := set) (m := m + 1) (10 ^ Z 0)
    have hbs : blN Z set (10 ^ Z 0) (m + 1 + 1) = blN Z set (10 ^ Z 0) (m + 1) + cntF (tlB Z set (m + 1)) (10 ^ Z 0) := rfl
    have qx : m + 1 ≤ 36 → M.2.1 124 (40 * set + (m + 1)) = nI (cntF (tlB Z set (m + 1)) (10 ^ Z 0)) := fun q => etl set h1 h2 (m + 1) q
    have hgr : grN Z (10 ^ Z 0) set (m + 1) = max (blN Z set (10 ^ Z 0) (m + 1)) (cntF (ftB Z) (10 ^ Z 0) - blN Z set (10 ^ Z 0) (m + 1)) := rfl
    have hgl := grN_le (Z := Z) (N := 10 ^ Z 0) (set := set) (h := m + 1)
    have hql := q_le (Z := Z) (N := 10 ^ Z 0) set m _ (qS_le set)
    have hgb : g2N (qI Z (10 ^ Z 0) set m (qS Z (10 ^ Z 0) set)) ≤ 1000000 := by
      cases hc : qI Z (10 ^ Z 0) set m (qS Z (10 ^ Z 0) set) with
      | none => exact Nat.le_refl _
      | some q => have := hql q hc; show q.2 ≤ _; omega
    refine G_S (pc := 32) f_298_32 rfl rfl rfl ?_
    refine G_bi (v := nI 36) (pc := 34) f_298_34 (by decide) ?_
    refine G_jgtZ (pc := 36) f_298_36 rfl (by first | exact nI_toInt (by omega) | exact zI_toInt (by omega) (by omega) | rfl) (by first | exact nI_toInt (by omega) | exact zI_toInt (by omega) (by omega) | rfl) (fun b2 => ?_) (fun b2 => ?_)
    · have e5 : m = 36 := by omega
      subst e5
      exact K a
    · refine G_S (pc := 39) f_298_39 rfl rfl rfl ?_
      refine G_S (pc := 41) f_298_41 rfl rfl rfl ?_
      refine G_gIv (pc := 42) f_298_42 (by decide) rfl (by decide) (by first | assumption | exact hK.1 _ _ rfl) (by first | assumption | exact mI_s | ((refine mI_o (by first | decide | omega) ?_); (repeat (refine mI_o (by first | decide | omega) ?_)); first | exact mI_s | assumption) | rfl) ?_
      refine G_S (pc := 45) f_298_45 rfl rfl rfl ?_
      first | refine G_subN (pc := 47) f_298_47 (by omega) ?_ | refine G_subZ (pc := 47) f_298_47 (by first | rfl | exact nI_zI _) (by first | rfl | exact nI_zI _) ?_ | refine G_S (pc := 47) f_298_47 rfl rfl rfl ?_
      refine G_CS (pc := 48) f_298_48 rfl rfl (by decide) rfl rfl ⟨Nat.le_of_ble_eq_true rfl, Nat.le_of_ble_eq_true rfl⟩ ?_
      refine CG.go (by first | exact m_greaterN (by omega) (by omega) | exact m_greaterZ (by first | exact nI_toInt (by omega) | exact zI_toInt (by omega) (by omega) | rfl) (by first | exact nI_toInt (by omega) | exact zI_toInt (by omega) (by omega) | rfl)) ?_
      refine G_S (pc := 51) f_298_51 rfl rfl rfl ?_
      refine G_S (pc := 53) f_298_53 rfl rfl rfl ?_
      refine G_S (pc := 55) f_298_55 rfl rfl rfl ?_
      refine G_jgeZ (pc := 56) f_298_56 rfl (by first | exact nI_toInt (by omega) | exact zI_toInt (by omega) (by omega) | rfl) (by first | exact nI_toInt (by omega) | exact zI_toInt (by omega) (by omega) | rfl) (fun b3 => ?_) (fun b3 => ?_)
      · refine G_S (pc := 69) f_298_69 rfl rfl rfl ?_
        refine G_S (pc := 70) f_298_70 rfl rfl rfl ?_
        refine G_S (pc := 71) f_298_71 rfl rfl rfl ?_
        refine G_S (pc := 72) f_298_72 rfl rfl rfl ?_
        refine G_CS (pc := 74) f_298_74 rfl rfl (by decide) rfl rfl ⟨Nat.le_of_ble_eq_true rfl, Nat.le_of_ble_eq_true rfl⟩ ?_
        refine CG.go (by first | exact m_lesserN (by omega) (by omega) | exact m_lesserZ (by first | exact nI_toInt (by omega) | exact zI_toInt (by omega) (by omega) | rfl) (by first | exact nI_toInt (by omega) | exact zI_toInt (by omega) (by omega) | rfl)) ?_
        refine G_S (pc := 77) f_298_77 rfl rfl rfl ?_
        refine G_S (pc := 78) f_298_78 rfl rfl rfl ?_
        refine G_S (pc := 80) f_298_80 rfl rfl rfl ?_
        refine G_gR (pc := 81) f_298_81 (by decide) rfl (by first | assumption | exact hK.1 _ _ rfl) (by first | assumption | exact hK.2 _ _ _ rfl | (try dsimp only) <;> (repeat (first | exact up2_s | refine up2_o (by first | decide | omega) ?_)) <;> first | assumption | exact hK.2 _ _ _ rfl) ?_
        refine G_bi (v := nI 40) (pc := 84) f_298_84 (by decide) ?_
        refine G_S (pc := 86) f_298_86 rfl rfl rfl ?_
        first | refine G_mulN (pc := 87) f_298_87 ?_ | refine G_mulZ (pc := 87) f_298_87 (by first | rfl | exact nI_zI _) (by first | rfl | exact nI_zI _) ?_ | refine G_S (pc := 87) f_298_87 rfl rfl rfl ?_
        refine G_S (pc := 88) f_298_88 rfl rfl rfl ?_
        first | refine G_addN (pc := 90) f_298_90 ?_ | refine G_addZ (pc := 90) f_298_90 (by first | rfl | exact nI_zI _) (by first | rfl | exact nI_zI _) ?_ | refine G_S (pc := 90) f_298_90 rfl rfl rfl ?_
        refine G_iaN (pc := 91) f_298_91 (by first | assumption | exact hK.1 _ _ rfl) (by omega) (by omega) (by first | exact qx (by omega) | rfl) ?_
        first | refine G_addN (pc := 92) f_298_92 ?_ | refine G_addZ (pc := 92) f_298_92 (by first | rfl | exact nI_zI _) (by first | rfl | exact nI_zI _) ?_ | refine G_S (pc := 92) f_298_92 rfl rfl rfl ?_
        refine G_S (pc := 93) f_298_93 rfl rfl rfl ?_
        first | refine G_inc1 (pc := 95) f_298_95 rfl ?_ | refine G_S (pc := 95) f_298_95 rfl rfl rfl ?_
        refine G_S (pc := 98) f_298_98 rfl rfl rfl ?_
        have e := ih (by omega)
        rw [qI] at e
        rw [← hgr, ← hbs]
        cases hc : qI Z (10 ^ Z 0) set m (qS Z (10 ^ Z 0) set) with
        | none =>
          have hg : g2N (qI Z (10 ^ Z 0) set m (qS Z (10 ^ Z 0) set)) = 1000000 := by rw [hc]; rfl
          rw [hc] at e
          first
            | (exfalso; omega)
            | (rw [show min (g2N none) (grN Z (10 ^ Z 0) set (m + 1)) = grN Z (10 ^ Z 0) set (m + 1) from Nat.min_eq_right (by show _ ≤ 1000000; omega)]
               exact e _)
        | some q =>
          have hg : g2N (qI Z (10 ^ Z 0) set m (qS Z (10 ^ Z 0) set)) = q.2 := by rw [hc]; rfl
          rw [hc] at e
          first
            | (rw [qB, if_pos (by omega)] at e
               rw [show min (g2N (some q)) (grN Z (10 ^ Z 0) set (m + 1)) = grN Z (10 ^ Z 0) set (m + 1) from Nat.min_eq_right (by show _ ≤ q.2; omega)]
               exact e _)
            | (rw [qB, if_neg (by omega)] at e
               rw [show min (g2N (some q)) (grN Z (10 ^ Z 0) set (m + 1)) = g2N (some q) from Nat.min_eq_left (by show q.2 ≤ _; omega)]
               exact e _)
      · refine G_bi (v := nI 40) (pc := 59) f_298_59 (by decide) ?_
        refine G_S (pc := 61) f_298_61 rfl rfl rfl ?_
        first | refine G_mulN (pc := 62) f_298_62 ?_ | refine G_mulZ (pc := 62) f_298_62 (by first | rfl | exact nI_zI _) (by first | rfl | exact nI_zI _) ?_ | refine G_S (pc := 62) f_298_62 rfl rfl rfl ?_
        refine G_S (pc := 63) f_298_63 rfl rfl rfl ?_
        first | refine G_addN (pc := 65) f_298_65 ?_ | refine G_addZ (pc := 65) f_298_65 (by first | rfl | exact nI_zI _) (by first | rfl | exact nI_zI _) ?_ | refine G_S (pc := 65) f_298_65 rfl rfl rfl ?_
        refine G_S (pc := 66) f_298_66 rfl rfl rfl ?_
        refine G_S (pc := 70) f_298_70 rfl rfl rfl ?_
        refine G_S (pc := 71) f_298_71 rfl rfl rfl ?_
        refine G_S (pc := 72) f_298_72 rfl rfl rfl ?_
        refine G_CS (pc := 74) f_298_74 rfl rfl (by decide) rfl rfl ⟨Nat.le_of_ble_eq_true rfl, Nat.le_of_ble_eq_true rfl⟩ ?_
        refine CG.go (by first | exact m_lesserN (by omega) (by omega) | exact m_lesserZ (by first | exact nI_toInt (by omega) | exact zI_toInt (by omega) (by omega) | rfl) (by first | exact nI_toInt (by omega) | exact zI_toInt (by omega) (by omega) | rfl)) ?_
        refine G_S (pc := 77) f_298_77 rfl rfl rfl ?_
        refine G_S (pc := 78) f_298_78 rfl rfl rfl ?_
        refine G_S (pc := 80) f_298_80 rfl rfl rfl ?_
        refine G_gR (pc := 81) f_298_81 (by decide) rfl (by first | assumption | exact hK.1 _ _ rfl) (by first | assumption | exact hK.2 _ _ _ rfl | (try dsimp only) <;> (repeat (first | exact up2_s | refine up2_o (by first | decide | omega) ?_)) <;> first | assumption | exact hK.2 _ _ _ rfl) ?_
        refine G_bi (v := nI 40) (pc := 84) f_298_84 (by decide) ?_
        refine G_S (pc := 86) f_298_86 rfl rfl rfl ?_
        first | refine G_mulN (pc := 87) f_298_87 ?_ | refine G_mulZ (pc := 87) f_298_87 (by first | rfl | exact nI_zI _) (by first | rfl | exact nI_zI _) ?_ | refine G_S (pc := 87) f_298_87 rfl rfl rfl ?_
        refine G_S (pc := 88) f_298_88 rfl rfl rfl ?_
        first | refine G_addN (pc := 90) f_298_90 ?_ | refine G_addZ (pc := 90) f_298_90 (by first | rfl | exact nI_zI _) (by first | rfl | exact nI_zI _) ?_ | refine G_S (pc := 90) f_298_90 rfl rfl rfl ?_
        refine G_iaN (pc := 91) f_298_91 (by first | assumption | exact hK.1 _ _ rfl) (by omega) (by omega) (by first | exact qx (by omega) | rfl) ?_
        first | refine G_addN (pc := 92) f_298_92 ?_ | refine G_addZ (pc := 92) f_298_92 (by first | rfl | exact nI_zI _) (by first | rfl | exact nI_zI _) ?_ | refine G_S (pc := 92) f_298_92 rfl rfl rfl ?_
        refine G_S (pc := 93) f_298_93 rfl rfl rfl ?_
        first | refine G_inc1 (pc := 95) f_298_95 rfl ?_ | refine G_S (pc := 95) f_298_95 rfl rfl rfl ?_
        refine G_S (pc := 98) f_298_98 rfl rfl rfl ?_
        have e := ih (by omega)
        rw [qI] at e
        rw [← hgr, ← hbs]
        cases hc : qI Z (10 ^ Z 0) set m (qS Z (10 ^ Z 0) set) with
        | none =>
          have hg : g2N (qI Z (10 ^ Z 0) set m (qS Z (10 ^ Z 0) set)) = 1000000 := by rw [hc]; rfl
          rw [hc] at e
          first
            | (exfalso; omega)
            | (rw [show min (g2N none) (grN Z (10 ^ Z 0) set (m + 1)) = grN Z (10 ^ Z 0) set (m + 1) from Nat.min_eq_right (by show _ ≤ 1000000; omega)]
               exact e _)
        | some q =>
          have hg : g2N (qI Z (10 ^ Z 0) set m (qS Z (10 ^ Z 0) set)) = q.2 := by rw [hc]; rfl
          rw [hc] at e
          first
            | (rw [qB, if_pos (by omega)] at e
               rw [show min (g2N (some q)) (grN Z (10 ^ Z 0) set (m + 1)) = grN Z (10 ^ Z 0) set (m + 1) from Nat.min_eq_right (by show _ ≤ q.2; omega)]
               exact e _)
            | (rw [qB, if_neg (by omega)] at e
               rw [show min (g2N (some q)) (grN Z (10 ^ Z 0) set (m + 1)) = g2N (some q) from Nat.min_eq_left (by show q.2 ≤ _; omega)]
               exact e _)
  have loop : ∀ set, set ≤ 2 ^ Z 0 → 1 ≤ set → ∀ a b c, G C 298 (8, [some (.ref 98), some (.int ((q1I (qS Z (10 ^ Z 0) set)))), some (.int (nI ((g2N (qS Z (10 ^ Z 0) set))))), some (.int (nI set)), a, b, c], [], [], M) (fun v M' => v = some (.int (q1I (qS Z (10 ^ Z 0) (2 ^ Z 0)))) ∧ M' = M) := by
    refine upto (fun set hs ih h1 a b c => ?_)
    have q4 : set < 2 ^ Z 0 → M.2.1 124 (40 * set) = nI (cntF (tlB Z set 0) (10 ^ Z 0)) := fun q => etl set h1 q 0 (by omega)
    have e1 : blN Z set (10 ^ Z 0) (0 + 1) = cntF (tlB Z set 0) (10 ^ Z 0) := by rw [blN, blN, Nat.zero_add]
    refine G_S (pc := 8) f_298_8 rfl rfl rfl ?_
    refine G_ic (v := nI 1) (pc := 9) f_298_9 (by decide) ?_
    refine G_S (pc := 10) f_298_10 rfl rfl rfl ?_
    refine G_CV (pc := 11) f_298_11 rfl rfl (by decide) rfl rfl (by first | assumption | exact hK.1 _ _ rfl) (by decide) ⟨Nat.le_of_ble_eq_true rfl, Nat.le_of_ble_eq_true rfl⟩ ?_
    refine CG.go (z_strangers W) ?_
    first | refine G_shl1 (pc := 14) f_298_14 (by omega) ?_ | refine G_S (pc := 14) f_298_14 rfl rfl rfl ?_
    refine G_jgeZ (pc := 15) f_298_15 rfl (by first | exact nI_toInt (by omega) | exact zI_toInt (by omega) (by omega) | rfl) (by first | exact nI_toInt (by omega) | exact zI_toInt (by omega) (by omega) | rfl) (fun b1 => ?_) (fun b1 => ?_)
    · refine G_S (pc := 107) f_298_107 rfl rfl rfl ?_
      refine G_ri (pc := 108) f_298_108 ?_
      rw [show set = 2 ^ Z 0 by omega]
      exact ⟨rfl, rfl⟩
    · refine G_S (pc := 18) f_298_18 rfl rfl rfl ?_
      refine G_gR (pc := 19) f_298_19 (by decide) rfl (by first | assumption | exact hK.1 _ _ rfl) (by first | assumption | exact hK.2 _ _ _ rfl | (try dsimp only) <;> (repeat (first | exact up2_s | refine up2_o (by first | decide | omega) ?_)) <;> first | assumption | exact hK.2 _ _ _ rfl) ?_
      refine G_bi (v := nI 40) (pc := 22) f_298_22 (by decide) ?_
      refine G_S (pc := 24) f_298_24 rfl rfl rfl ?_
      first | refine G_mulN (pc := 25) f_298_25 ?_ | refine G_mulZ (pc := 25) f_298_25 (by first | rfl | exact nI_zI _) (by first | rfl | exact nI_zI _) ?_ | refine G_S (pc := 25) f_298_25 rfl rfl rfl ?_
      refine G_iaN (pc := 26) f_298_26 (by first | assumption | exact hK.1 _ _ rfl) (by omega) (by omega) (by first | exact q4 (by omega) | rfl) ?_
      refine G_S (pc := 27) f_298_27 rfl rfl rfl ?_
      refine G_ic (v := nI 1) (pc := 29) f_298_29 (by decide) ?_
      refine G_S (pc := 30) f_298_30 rfl rfl rfl ?_
      have e := inner (Q := fun v M' => v = some (.int (q1I (qS Z (10 ^ Z 0) (2 ^ Z 0)))) ∧ M' = M) set h1 (by omega) (by
        intro a
        first | refine G_inc1 (pc := 101) f_298_101 rfl ?_ | refine G_S (pc := 101) f_298_101 rfl rfl rfl ?_
        refine G_S (pc := 104) f_298_104 rfl rfl rfl ?_
        have e := ih (by omega) (by omega) (some (.int (nI (blN Z set (10 ^ Z 0) 37)))) (some (.int (nI 37))) a
        rw [qS, if_neg (by omega)] at e
        exact e
        ) 0 (Nat.zero_le _) c
      rw [e1] at e
      exact e
  refine CG_in (mL := 7) (hl := false) (lv := [some (.ref 98), none, none, none, none, none, none]) (ll := []) rfl rfl rfl ?_
  refine G_ic (v := zI (-1)) (pc := 0) f_298_0 (by decide) ?_
  refine G_S (pc := 1) f_298_1 rfl rfl rfl ?_
  refine G_lc (v := zI 1000000) (pc := 2) f_298_2 rfl (by decide) ?_
  refine G_S (pc := 5) f_298_5 rfl rfl rfl ?_
  refine G_ic (v := nI 1) (pc := 6) f_298_6 (by decide) ?_
  refine G_S (pc := 7) f_298_7 rfl rfl rfl ?_
  rw [show zI 1000000 = nI 1000000 from (nI_zI 1000000).symm]
  exact loop 1 (by omega) (by omega) _ _ _
theorem z_fits (W : MSs M n L) : CG C 299 [.ref 98, .int k, .int x] M (fun w M' => w = some (.int (aLin (lin n L k) (zI (-2)) (fun Z => fiF Z x))) ∧ mQ M M') := by
  have hK := W.1
  cases hl : lin n L k with
  | none =>
    refine CG_in (mL := 4) (hl := false) (lv := [some (.ref 98), some (.int k), some (.int x), none]) (ll := []) rfl rfl rfl ?_
    refine G_S (pc := 0) f_299_0 rfl rfl rfl ?_
    refine G_ic (v := nI 0) (pc := 1) f_299_1 (by decide) ?_
    refine G_pI (pc := 2) f_299_2 rfl (by first | assumption | exact hK.1 _ _ rfl) ?_
    refine G_S (pc := 5) f_299_5 rfl rfl rfl ?_
    refine G_S (pc := 6) f_299_6 rfl rfl rfl ?_
    refine G_CV (pc := 7) f_299_7 rfl rfl (by decide) rfl rfl (by first | assumption | exact hK.1 _ _ rfl) (by decide) ⟨Nat.le_of_ble_eq_true rfl, Nat.le_of_ble_eq_true rfl⟩ ?_
    refine CG.mono (z_hasN (W.q mQ.cod) hl) ?_
    rintro _ M1 ⟨rfl, hQ⟩
    first | refine G_bNe (pc := 10) f_299_10 rfl (fun b1 => ?_) (fun b1 => ?_) | refine G_zneZ (pc := 10) f_299_10 rfl (by first | exact nI_toInt (by omega) | exact zI_toInt (by omega) (by omega) | rfl) (fun b1 => ?_) (fun b1 => ?_)
    · exact absurd b1 id
    · refine G_bi (v := zI (-2)) (pc := 13) f_299_13 (by decide) ?_
      refine G_ri (pc := 15) f_299_15 ?_
      exact ⟨rfl, mQ.cod.tr hQ⟩
  | some Z =>
    show CG C 299 [.ref 98, .int k, .int x] M (fun w M' => w = some (.int (fiF Z x)) ∧ mQ M M')
    have hZ0 : 1 ≤ Z 0 ∧ Z 0 ≤ 4 := by
      obtain ⟨l, h1, h2, h3⟩ := lin_some hl
      rw [h3]
      exact (W.2.2.2 l h1).1.1
    by_cases hv : x.toInt = 0 ∨ x.toInt = 1 ∨ (10 ≤ x.toInt ∧ x.toInt < 10 + (Z 0 : Int)) ∨ (20 ≤ x.toInt ∧ x.toInt < 20 + (Z 0 : Int))
    · obtain ⟨c, hc, rfl⟩ := i_nat (x := x) (n := 24) (by omega) (by omega)
      rw [nI_toInt (by omega)] at hv
      have after : ∀ M1 g, mS M1 g Z → mQ M M1 → G C 299 (59, [some (.ref 98), some (.int k), some (.int (nI c)), some (.int (nI (Z 0)))], [], [], M1) (fun w M' => w = some (.int (fiF Z (nI c))) ∧ mQ M M') := by
        intro M1 g W1 hQ
        have hK := W1.1
        obtain ⟨v0, hg8, hZ, ao⟩ := W1.2
        have hz0 := hZ.1
        have hz1 := hZ.2.1
        have hzf := hZ.2.2
        have hp10 := p10 hz0.2
        have hcw := cntF_le (U := ftB Z) (10 ^ Z 0)
        refine G_S (pc := 59) f_299_59 rfl rfl rfl ?_
        refine G_CV (pc := 60) f_299_60 rfl rfl (by decide) rfl rfl (by first | assumption | exact hK.1 _ _ rfl) (by decide) ⟨Nat.le_of_ble_eq_true rfl, Nat.le_of_ble_eq_true rfl⟩ ?_
        refine CG.mono (z_findFits W1) ?_
        rintro _ M2 ⟨rfl, hF, hR⟩
        have W2 := W1.fm hF (by decide) (by decide)
        have hK := W2.1
        have hQ2 := hQ.tr (hF.q (by decide))
        have hR' := hR
        obtain ⟨e6, els, etl⟩ := hR
        refine G_S (pc := 63) f_299_63 rfl rfl rfl ?_
        first | refine G_bNe (pc := 64) f_299_64 rfl (fun b5 => ?_) (fun b5 => ?_) | refine G_zneZ (pc := 64) f_299_64 rfl (by first | exact nI_toInt (by omega) | exact zI_toInt (by omega) (by omega) | rfl) (fun b5 => ?_) (fun b5 => ?_)
        · refine G_S (pc := 72) f_299_72 rfl rfl rfl ?_
          refine G_gIv (pc := 73) f_299_73 (by decide) rfl (by decide) (by first | assumption | exact hK.1 _ _ rfl) (by first | assumption | exact mI_s | ((refine mI_o (by first | decide | omega) ?_); (repeat (refine mI_o (by first | decide | omega) ?_)); first | exact mI_s | assumption) | rfl) ?_
          first | refine G_bNe (pc := 76) f_299_76 rfl (fun b6 => ?_) (fun b6 => ?_) | refine G_zneZ (pc := 76) f_299_76 rfl (by first | exact nI_toInt (by omega) | exact zI_toInt (by omega) (by omega) | rfl) (fun b6 => ?_) (fun b6 => ?_)
          · refine G_S (pc := 83) f_299_83 rfl rfl rfl ?_
            refine G_ic (v := nI 1) (pc := 84) f_299_84 (by decide) ?_
            refine G_jneZ (pc := 85) f_299_85 rfl (by first | exact nI_toInt (by omega) | exact zI_toInt (by omega) (by omega) | rfl) (by first | exact nI_toInt (by omega) | exact zI_toInt (by omega) (by omega) | rfl) (fun b7 => ?_) (fun b7 => ?_)
            · refine G_S (pc := 95) f_299_95 rfl rfl rfl ?_
              refine G_bi (v := nI 20) (pc := 96) f_299_96 (by decide) ?_
              refine G_jgeZ (pc := 98) f_299_98 rfl (by first | exact nI_toInt (by omega) | exact zI_toInt (by omega) (by omega) | rfl) (by first | exact nI_toInt (by omega) | exact zI_toInt (by omega) (by omega) | rfl) (fun b8 => ?_) (fun b8 => ?_)
              · refine G_S (pc := 113) f_299_113 rfl rfl rfl ?_
                refine G_gR (pc := 114) f_299_114 (by decide) rfl (by first | assumption | exact hK.1 _ _ rfl) (by first | assumption | exact hK.2 _ _ _ rfl | (try dsimp only) <;> (repeat (first | exact up2_s | refine up2_o (by first | decide | omega) ?_)) <;> first | assumption | exact hK.2 _ _ _ rfl) ?_
                refine G_S (pc := 117) f_299_117 rfl rfl rfl ?_
                refine G_bi (v := nI 20) (pc := 118) f_299_118 (by decide) ?_
                first | refine G_subN (pc := 120) f_299_120 (by omega) ?_ | refine G_subZ (pc := 120) f_299_120 (by first | rfl | exact nI_zI _) (by first | rfl | exact nI_zI _) ?_ | refine G_S (pc := 120) f_299_120 rfl rfl rfl ?_
                refine G_iaN (pc := 121) f_299_121 (by first | assumption | exact hK.1 _ _ rfl) (by omega) (by omega) (by first | exact (els (c - 20) (by omega)).2 | rfl) ?_
                refine G_ri (pc := 122) f_299_122 ?_
                refine ⟨?_, hQ2⟩
                congr 2
                unfold fiF
                rw [nI_toInt (by omega), Int.toNat_natCast]
                first
                  | (exfalso; omega)
                  | rw [if_pos (show (c : Int) = 0 by omega)]
                  | (rw [if_neg (show ¬ (c : Int) = 0 by omega), if_pos (show (c : Int) = 1 by omega), if_neg (show ¬ cntF (ftB Z) (10 ^ Z 0) = 0 by omega)])
                  | (obtain ⟨a, b, n1, n2, n3, n4⟩ := (lo_c (Z := Z) (s := c - 10) (10 ^ Z 0)).2 (by omega)
                     rw [if_neg (show ¬ (c : Int) = 0 by omega), if_neg (show ¬ (c : Int) = 1 by omega), if_pos (by omega), n1]
                     rfl)
                  | (obtain ⟨a, b, n1, n2, n3, n4⟩ := (lo_c (Z := Z) (s := c - 20) (10 ^ Z 0)).2 (by omega)
                     rw [if_neg (show ¬ (c : Int) = 0 by omega), if_neg (show ¬ (c : Int) = 1 by omega), if_neg (by omega), if_pos (by omega)])
                  | (have z1 := (lo_c (Z := Z) (s := c - 10) (10 ^ Z 0)).1 (by omega)
                     have z2 := (lo_c (Z := Z) (s := c - 20) (10 ^ Z 0)).1 (by omega)
                     rw [if_neg (show ¬ (c : Int) = 0 by omega), if_pos (show cntF (ftB Z) (10 ^ Z 0) = 0 by omega), z1.1, z2.2]
                     split
                     · rfl
                     · split
                       · rfl
                       · rw [if_pos (by omega)]
                         rfl)
              · refine G_S (pc := 101) f_299_101 rfl rfl rfl ?_
                refine G_gR (pc := 102) f_299_102 (by decide) rfl (by first | assumption | exact hK.1 _ _ rfl) (by first | assumption | exact hK.2 _ _ _ rfl | (try dsimp only) <;> (repeat (first | exact up2_s | refine up2_o (by first | decide | omega) ?_)) <;> first | assumption | exact hK.2 _ _ _ rfl) ?_
                refine G_S (pc := 105) f_299_105 rfl rfl rfl ?_
                refine G_bi (v := nI 10) (pc := 106) f_299_106 (by decide) ?_
                first | refine G_subN (pc := 108) f_299_108 (by omega) ?_ | refine G_subZ (pc := 108) f_299_108 (by first | rfl | exact nI_zI _) (by first | rfl | exact nI_zI _) ?_ | refine G_S (pc := 108) f_299_108 rfl rfl rfl ?_
                refine G_iaN (pc := 109) f_299_109 (by first | assumption | exact hK.1 _ _ rfl) (by omega) (by omega) (by first | exact (els (c - 10) (by omega)).1 | rfl) ?_
                refine G_S (pc := 110) f_299_110 rfl rfl rfl ?_
                refine G_ri (pc := 122) f_299_122 ?_
                refine ⟨?_, hQ2⟩
                congr 2
                unfold fiF
                rw [nI_toInt (by omega), Int.toNat_natCast]
                first
                  | (exfalso; omega)
                  | rw [if_pos (show (c : Int) = 0 by omega)]
                  | (rw [if_neg (show ¬ (c : Int) = 0 by omega), if_pos (show (c : Int) = 1 by omega), if_neg (show ¬ cntF (ftB Z) (10 ^ Z 0) = 0 by omega)])
                  | (obtain ⟨a, b, n1, n2, n3, n4⟩ := (lo_c (Z := Z) (s := c - 10) (10 ^ Z 0)).2 (by omega)
                     rw [if_neg (show ¬ (c : Int) = 0 by omega), if_neg (show ¬ (c : Int) = 1 by omega), if_pos (by omega), n1]
                     rfl)
                  | (obtain ⟨a, b, n1, n2, n3, n4⟩ := (lo_c (Z := Z) (s := c - 20) (10 ^ Z 0)).2 (by omega)
                     rw [if_neg (show ¬ (c : Int) = 0 by omega), if_neg (show ¬ (c : Int) = 1 by omega), if_neg (by omega), if_pos (by omega)])
                  | (have z1 := (lo_c (Z := Z) (s := c - 10) (10 ^ Z 0)).1 (by omega)
                     have z2 := (lo_c (Z := Z) (s := c - 20) (10 ^ Z 0)).1 (by omega)
                     rw [if_neg (show ¬ (c : Int) = 0 by omega), if_pos (show cntF (ftB Z) (10 ^ Z 0) = 0 by omega), z1.1, z2.2]
                     split
                     · rfl
                     · split
                       · rfl
                       · rw [if_pos (by omega)]
                         rfl)
            · refine G_S (pc := 88) f_299_88 rfl rfl rfl ?_
              refine G_CV (pc := 89) f_299_89 rfl rfl (by decide) rfl rfl (by first | assumption | exact hK.1 _ _ rfl) (by decide) ⟨Nat.le_of_ble_eq_true rfl, Nat.le_of_ble_eq_true rfl⟩ ?_
              refine CG.go (z_ask W2 hR') ?_
              refine G_S (pc := 92) f_299_92 rfl rfl rfl ?_
              refine G_ri (pc := 122) f_299_122 ?_
              refine ⟨?_, hQ2⟩
              congr 2
              unfold fiF
              rw [nI_toInt (by omega), Int.toNat_natCast]
              first
                | (exfalso; omega)
                | rw [if_pos (show (c : Int) = 0 by omega)]
                | (rw [if_neg (show ¬ (c : Int) = 0 by omega), if_pos (show (c : Int) = 1 by omega), if_neg (show ¬ cntF (ftB Z) (10 ^ Z 0) = 0 by omega)])
                | (obtain ⟨a, b, n1, n2, n3, n4⟩ := (lo_c (Z := Z) (s := c - 10) (10 ^ Z 0)).2 (by omega)
                   rw [if_neg (show ¬ (c : Int) = 0 by omega), if_neg (show ¬ (c : Int) = 1 by omega), if_pos (by omega), n1]
                   rfl)
                | (obtain ⟨a, b, n1, n2, n3, n4⟩ := (lo_c (Z := Z) (s := c - 20) (10 ^ Z 0)).2 (by omega)
                   rw [if_neg (show ¬ (c : Int) = 0 by omega), if_neg (show ¬ (c : Int) = 1 by omega), if_neg (by omega), if_pos (by omega)])
                | (have z1 := (lo_c (Z := Z) (s := c - 10) (10 ^ Z 0)).1 (by omega)
                   have z2 := (lo_c (Z := Z) (s := c - 20) (10 ^ Z 0)).1 (by omega)
                   rw [if_neg (show ¬ (c : Int) = 0 by omega), if_pos (show cntF (ftB Z) (10 ^ Z 0) = 0 by omega), z1.1, z2.2]
                   split
                   · rfl
                   · split
                     · rfl
                     · rw [if_pos (by omega)]
                       rfl)
          · refine G_ic (v := zI (-1)) (pc := 79) f_299_79 (by decide) ?_
            refine G_S (pc := 80) f_299_80 rfl rfl rfl ?_
            refine G_ri (pc := 122) f_299_122 ?_
            refine ⟨?_, hQ2⟩
            congr 2
            unfold fiF
            rw [nI_toInt (by omega), Int.toNat_natCast]
            first
              | (exfalso; omega)
              | rw [if_pos (show (c : Int) = 0 by omega)]
              | (rw [if_neg (show ¬ (c : Int) = 0 by omega), if_pos (show (c : Int) = 1 by omega), if_neg (show ¬ cntF (ftB Z) (10 ^ Z 0) = 0 by omega)])
              | (obtain ⟨a, b, n1, n2, n3, n4⟩ := (lo_c (Z := Z) (s := c - 10) (10 ^ Z 0)).2 (by omega)
                 rw [if_neg (show ¬ (c : Int) = 0 by omega), if_neg (show ¬ (c : Int) = 1 by omega), if_pos (by omega), n1]
                 rfl)
              | (obtain ⟨a, b, n1, n2, n3, n4⟩ := (lo_c (Z := Z) (s := c - 20) (10 ^ Z 0)).2 (by omega)
                 rw [if_neg (show ¬ (c : Int) = 0 by omega), if_neg (show ¬ (c : Int) = 1 by omega), if_neg (by omega), if_pos (by omega)])
              | (have z1 := (lo_c (Z := Z) (s := c - 10) (10 ^ Z 0)).1 (by omega)
                 have z2 := (lo_c (Z := Z) (s := c - 20) (10 ^ Z 0)).1 (by omega)
                 rw [if_neg (show ¬ (c : Int) = 0 by omega), if_pos (show cntF (ftB Z) (10 ^ Z 0) = 0 by omega), z1.1, z2.2]
                 split
                 · rfl
                 · split
                   · rfl
                   · rw [if_pos (by omega)]
                     rfl)
        · refine G_S (pc := 67) f_299_67 rfl rfl rfl ?_
          refine G_gIv (pc := 68) f_299_68 (by decide) rfl (by decide) (by first | assumption | exact hK.1 _ _ rfl) (by first | assumption | exact mI_s | ((refine mI_o (by first | decide | omega) ?_); (repeat (refine mI_o (by first | decide | omega) ?_)); first | exact mI_s | assumption) | rfl) ?_
          refine G_ri (pc := 71) f_299_71 ?_
          refine ⟨?_, hQ2⟩
          congr 2
          unfold fiF
          rw [nI_toInt (by omega), Int.toNat_natCast]
          first
            | (exfalso; omega)
            | rw [if_pos (show (c : Int) = 0 by omega)]
            | (rw [if_neg (show ¬ (c : Int) = 0 by omega), if_pos (show (c : Int) = 1 by omega), if_neg (show ¬ cntF (ftB Z) (10 ^ Z 0) = 0 by omega)])
            | (obtain ⟨a, b, n1, n2, n3, n4⟩ := (lo_c (Z := Z) (s := c - 10) (10 ^ Z 0)).2 (by omega)
               rw [if_neg (show ¬ (c : Int) = 0 by omega), if_neg (show ¬ (c : Int) = 1 by omega), if_pos (by omega), n1]
               rfl)
            | (obtain ⟨a, b, n1, n2, n3, n4⟩ := (lo_c (Z := Z) (s := c - 20) (10 ^ Z 0)).2 (by omega)
               rw [if_neg (show ¬ (c : Int) = 0 by omega), if_neg (show ¬ (c : Int) = 1 by omega), if_neg (by omega), if_pos (by omega)])
            | (have z1 := (lo_c (Z := Z) (s := c - 10) (10 ^ Z 0)).1 (by omega)
               have z2 := (lo_c (Z := Z) (s := c - 20) (10 ^ Z 0)).1 (by omega)
               rw [if_neg (show ¬ (c : Int) = 0 by omega), if_pos (show cntF (ftB Z) (10 ^ Z 0) = 0 by omega), z1.1, z2.2]
               split
               · rfl
               · split
                 · rfl
                 · rw [if_pos (by omega)]
                   rfl)
      refine CG_in (mL := 4) (hl := false) (lv := [some (.ref 98), some (.int k), some (.int (nI c)), none]) (ll := []) rfl rfl rfl ?_
      refine G_S (pc := 0) f_299_0 rfl rfl rfl ?_
      refine G_ic (v := nI 0) (pc := 1) f_299_1 (by decide) ?_
      refine G_pI (pc := 2) f_299_2 rfl (by first | assumption | exact hK.1 _ _ rfl) ?_
      refine G_S (pc := 5) f_299_5 rfl rfl rfl ?_
      refine G_S (pc := 6) f_299_6 rfl rfl rfl ?_
      refine G_CV (pc := 7) f_299_7 rfl rfl (by decide) rfl rfl (by first | assumption | exact hK.1 _ _ rfl) (by decide) ⟨Nat.le_of_ble_eq_true rfl, Nat.le_of_ble_eq_true rfl⟩ ?_
      refine CG.mono (z_hasS (W.q mQ.cod) hl) ?_
      rintro _ M1 ⟨rfl, hQ, g, W1⟩
      have hK := W1.1
      obtain ⟨v0, hg8, hZ, ao⟩ := W1.2
      have hz0 := hZ.1
      have hz1 := hZ.2.1
      have hzf := hZ.2.2
      have hQ := mQ.cod.tr hQ
      first | refine G_bNe (pc := 10) f_299_10 rfl (fun b1 => ?_) (fun b1 => ?_) | refine G_zneZ (pc := 10) f_299_10 rfl (by first | exact nI_toInt (by omega) | exact zI_toInt (by omega) (by omega) | rfl) (fun b1 => ?_) (fun b1 => ?_)
      · refine G_S (pc := 16) f_299_16 rfl rfl rfl ?_
        refine G_CV (pc := 17) f_299_17 rfl rfl (by decide) rfl rfl (by first | assumption | exact hK.1 _ _ rfl) (by decide) ⟨Nat.le_of_ble_eq_true rfl, Nat.le_of_ble_eq_true rfl⟩ ?_
        refine CG.go (z_strangers W1) ?_
        refine G_S (pc := 20) f_299_20 rfl rfl rfl ?_
        refine G_S (pc := 21) f_299_21 rfl rfl rfl ?_
        refine G_ic (v := nI 0) (pc := 22) f_299_22 (by decide) ?_
        refine G_ic (v := nI 1) (pc := 23) f_299_23 (by decide) ?_
        refine G_CS (pc := 24) f_299_24 rfl rfl (by decide) rfl rfl ⟨Nat.le_of_ble_eq_true rfl, Nat.le_of_ble_eq_true rfl⟩ ?_
        refine CG.go (m_inZ (by first | exact nI_toInt (by omega) | exact zI_toInt (by omega) (by omega) | rfl) (by first | exact nI_toInt (by omega) | exact zI_toInt (by omega) (by omega) | rfl) (by first | exact nI_toInt (by omega) | exact zI_toInt (by omega) (by omega) | rfl)) ?_
        first | refine G_bNe (pc := 27) f_299_27 rfl (fun b2 => ?_) (fun b2 => ?_) | refine G_zneZ (pc := 27) f_299_27 rfl (by first | exact nI_toInt (by omega) | exact zI_toInt (by omega) (by omega) | rfl) (fun b2 => ?_) (fun b2 => ?_)
        · exact after M1 g W1 hQ
        · refine G_S (pc := 30) f_299_30 rfl rfl rfl ?_
          refine G_bi (v := nI 10) (pc := 31) f_299_31 (by decide) ?_
          refine G_bi (v := nI 9) (pc := 33) f_299_33 (by decide) ?_
          refine G_S (pc := 35) f_299_35 rfl rfl rfl ?_
          first | refine G_addN (pc := 36) f_299_36 ?_ | refine G_addZ (pc := 36) f_299_36 (by first | rfl | exact nI_zI _) (by first | rfl | exact nI_zI _) ?_ | refine G_S (pc := 36) f_299_36 rfl rfl rfl ?_
          refine G_CS (pc := 37) f_299_37 rfl rfl (by decide) rfl rfl ⟨Nat.le_of_ble_eq_true rfl, Nat.le_of_ble_eq_true rfl⟩ ?_
          refine CG.go (m_inZ (by first | exact nI_toInt (by omega) | exact zI_toInt (by omega) (by omega) | rfl) (by first | exact nI_toInt (by omega) | exact zI_toInt (by omega) (by omega) | rfl) (by first | exact nI_toInt (by omega) | exact zI_toInt (by omega) (by omega) | rfl)) ?_
          first | refine G_bNe (pc := 40) f_299_40 rfl (fun b3 => ?_) (fun b3 => ?_) | refine G_zneZ (pc := 40) f_299_40 rfl (by first | exact nI_toInt (by omega) | exact zI_toInt (by omega) (by omega) | rfl) (fun b3 => ?_) (fun b3 => ?_)
          · exact after M1 g W1 hQ
          · refine G_S (pc := 43) f_299_43 rfl rfl rfl ?_
            refine G_bi (v := nI 20) (pc := 44) f_299_44 (by decide) ?_
            refine G_bi (v := nI 19) (pc := 46) f_299_46 (by decide) ?_
            refine G_S (pc := 48) f_299_48 rfl rfl rfl ?_
            first | refine G_addN (pc := 49) f_299_49 ?_ | refine G_addZ (pc := 49) f_299_49 (by first | rfl | exact nI_zI _) (by first | rfl | exact nI_zI _) ?_ | refine G_S (pc := 49) f_299_49 rfl rfl rfl ?_
            refine G_CS (pc := 50) f_299_50 rfl rfl (by decide) rfl rfl ⟨Nat.le_of_ble_eq_true rfl, Nat.le_of_ble_eq_true rfl⟩ ?_
            refine CG.go (m_inZ (by first | exact nI_toInt (by omega) | exact zI_toInt (by omega) (by omega) | rfl) (by first | exact nI_toInt (by omega) | exact zI_toInt (by omega) (by omega) | rfl) (by first | exact nI_toInt (by omega) | exact zI_toInt (by omega) (by omega) | rfl)) ?_
            first | refine G_bNe (pc := 53) f_299_53 rfl (fun b4 => ?_) (fun b4 => ?_) | refine G_zneZ (pc := 53) f_299_53 rfl (by first | exact nI_toInt (by omega) | exact zI_toInt (by omega) (by omega) | rfl) (fun b4 => ?_) (fun b4 => ?_)
            · exact after M1 g W1 hQ
            · refine G_bi (v := zI (-2)) (pc := 56) f_299_56 (by decide) ?_
              refine G_ri (pc := 58) f_299_58 ?_
              exfalso
              omega
      · exact absurd trivial b1
    · refine CG_in (mL := 4) (hl := false) (lv := [some (.ref 98), some (.int k), some (.int x), none]) (ll := []) rfl rfl rfl ?_
      refine G_S (pc := 0) f_299_0 rfl rfl rfl ?_
      refine G_ic (v := nI 0) (pc := 1) f_299_1 (by decide) ?_
      refine G_pI (pc := 2) f_299_2 rfl (by first | assumption | exact hK.1 _ _ rfl) ?_
      refine G_S (pc := 5) f_299_5 rfl rfl rfl ?_
      refine G_S (pc := 6) f_299_6 rfl rfl rfl ?_
      refine G_CV (pc := 7) f_299_7 rfl rfl (by decide) rfl rfl (by first | assumption | exact hK.1 _ _ rfl) (by decide) ⟨Nat.le_of_ble_eq_true rfl, Nat.le_of_ble_eq_true rfl⟩ ?_
      refine CG.mono (z_hasS (W.q mQ.cod) hl) ?_
      rintro _ M1 ⟨rfl, hQ, g, W1⟩
      have hK := W1.1
      obtain ⟨v0, hg8, hZ, ao⟩ := W1.2
      have hz0 := hZ.1
      have hz1 := hZ.2.1
      have hzf := hZ.2.2
      have hQ := mQ.cod.tr hQ
      first | refine G_bNe (pc := 10) f_299_10 rfl (fun b1 => ?_) (fun b1 => ?_) | refine G_zneZ (pc := 10) f_299_10 rfl (by first | exact nI_toInt (by omega) | exact zI_toInt (by omega) (by omega) | rfl) (fun b1 => ?_) (fun b1 => ?_)
      · refine G_S (pc := 16) f_299_16 rfl rfl rfl ?_
        refine G_CV (pc := 17) f_299_17 rfl rfl (by decide) rfl rfl (by first | assumption | exact hK.1 _ _ rfl) (by decide) ⟨Nat.le_of_ble_eq_true rfl, Nat.le_of_ble_eq_true rfl⟩ ?_
        refine CG.go (z_strangers W1) ?_
        refine G_S (pc := 20) f_299_20 rfl rfl rfl ?_
        refine G_S (pc := 21) f_299_21 rfl rfl rfl ?_
        refine G_ic (v := nI 0) (pc := 22) f_299_22 (by decide) ?_
        refine G_ic (v := nI 1) (pc := 23) f_299_23 (by decide) ?_
        refine G_CS (pc := 24) f_299_24 rfl rfl (by decide) rfl rfl ⟨Nat.le_of_ble_eq_true rfl, Nat.le_of_ble_eq_true rfl⟩ ?_
        refine CG.go (m_inZ (by first | exact nI_toInt (by omega) | exact zI_toInt (by omega) (by omega) | rfl) (by first | exact nI_toInt (by omega) | exact zI_toInt (by omega) (by omega) | rfl) (by first | exact nI_toInt (by omega) | exact zI_toInt (by omega) (by omega) | rfl)) ?_
        first | refine G_bNe (pc := 27) f_299_27 rfl (fun b2 => ?_) (fun b2 => ?_) | refine G_zneZ (pc := 27) f_299_27 rfl (by first | exact nI_toInt (by omega) | exact zI_toInt (by omega) (by omega) | rfl) (fun b2 => ?_) (fun b2 => ?_)
        · exfalso
          omega
        · refine G_S (pc := 30) f_299_30 rfl rfl rfl ?_
          refine G_bi (v := nI 10) (pc := 31) f_299_31 (by decide) ?_
          refine G_bi (v := nI 9) (pc := 33) f_299_33 (by decide) ?_
          refine G_S (pc := 35) f_299_35 rfl rfl rfl ?_
          first | refine G_addN (pc := 36) f_299_36 ?_ | refine G_addZ (pc := 36) f_299_36 (by first | rfl | exact nI_zI _) (by first | rfl | exact nI_zI _) ?_ | refine G_S (pc := 36) f_299_36 rfl rfl rfl ?_
          refine G_CS (pc := 37) f_299_37 rfl rfl (by decide) rfl rfl ⟨Nat.le_of_ble_eq_true rfl, Nat.le_of_ble_eq_true rfl⟩ ?_
          refine CG.go (m_inZ (by first | exact nI_toInt (by omega) | exact zI_toInt (by omega) (by omega) | rfl) (by first | exact nI_toInt (by omega) | exact zI_toInt (by omega) (by omega) | rfl) (by first | exact nI_toInt (by omega) | exact zI_toInt (by omega) (by omega) | rfl)) ?_
          first | refine G_bNe (pc := 40) f_299_40 rfl (fun b3 => ?_) (fun b3 => ?_) | refine G_zneZ (pc := 40) f_299_40 rfl (by first | exact nI_toInt (by omega) | exact zI_toInt (by omega) (by omega) | rfl) (fun b3 => ?_) (fun b3 => ?_)
          · exfalso
            omega
          · refine G_S (pc := 43) f_299_43 rfl rfl rfl ?_
            refine G_bi (v := nI 20) (pc := 44) f_299_44 (by decide) ?_
            refine G_bi (v := nI 19) (pc := 46) f_299_46 (by decide) ?_
            refine G_S (pc := 48) f_299_48 rfl rfl rfl ?_
            first | refine G_addN (pc := 49) f_299_49 ?_ | refine G_addZ (pc := 49) f_299_49 (by first | rfl | exact nI_zI _) (by first | rfl | exact nI_zI _) ?_ | refine G_S (pc := 49) f_299_49 rfl rfl rfl ?_
            refine G_CS (pc := 50) f_299_50 rfl rfl (by decide) rfl rfl ⟨Nat.le_of_ble_eq_true rfl, Nat.le_of_ble_eq_true rfl⟩ ?_
            refine CG.go (m_inZ (by first | exact nI_toInt (by omega) | exact zI_toInt (by omega) (by omega) | rfl) (by first | exact nI_toInt (by omega) | exact zI_toInt (by omega) (by omega) | rfl) (by first | exact nI_toInt (by omega) | exact zI_toInt (by omega) (by omega) | rfl)) ?_
            first | refine G_bNe (pc := 53) f_299_53 rfl (fun b4 => ?_) (fun b4 => ?_) | refine G_zneZ (pc := 53) f_299_53 rfl (by first | exact nI_toInt (by omega) | exact zI_toInt (by omega) (by omega) | rfl) (fun b4 => ?_) (fun b4 => ?_)
            · exfalso
              omega
            · refine G_bi (v := zI (-2)) (pc := 56) f_299_56 (by decide) ?_
              refine G_ri (pc := 58) f_299_58 ?_
              refine ⟨?_, hQ⟩
              unfold fiF
              rw [if_neg (by omega), if_neg (by omega), if_neg (by omega), if_neg (by omega)]
      · exact absurd trivial b1
end MFI
