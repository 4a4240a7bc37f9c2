/-! orders: the reference -/
theorem mQ.upL {M : Mm} {i k : Nat} {x : Int64} (hi : 108 ≤ i ∧ i ≤ 129) : mQ M (M.1, M.2.1, up2 M.2.2.1 i k x, M.2.2.2) := ⟨⟨rfl, rfl⟩, fun j hj => ⟨rfl, up2_ne (fun q => hj (by omega))⟩⟩
section ORM
variable {C : Ct} {M : Mm} {n l S : Nat} {L : Nat → Nat → Nat} {k x : Int32} {D b : Nat → Nat}
theorem MB.fo {M' : Mm} {os : List Nat} (W : MB M l D b) (hF : Fo os M M') (h1 : 98 ∉ os) (h2 : 104 ∉ os) (h3 : 110 ∉ os) : MB M' l D b := ⟨W.1.fo hF h1 h2, by rw [(hF.2 110 h3).1]; exact W.2⟩
theorem g_orders2 (W : mH M l D) (hP : ∀ j, j < D 0 → M.2.1 128 j = nI (puF D S j)) : ∀ a, a ≤ 2 ^ D 0 - 1 → ∀ y u v (f : Nat → Nat → Int64), mQ M (M.1, M.2.1, f, M.2.2.2) → (∀ c, a ≤ c → c < 2 ^ D 0 → f 129 c = nL (rwF D S c)) → G C 317 (76, [some (.ref 98), some (.int k), some (.int (nI S)), some (.int (nI (2 ^ D 0 - 1))), some (.int ((zI ((a : Int) - 1)))), none, none, u, v], [none, none, none, none, none, y, none, none, none], [], (M.1, M.2.1, f, M.2.2.2)) (fun w M' => w = some (.long (nL (prF D S (D 0)))) ∧ mQ M M') := by
  have hK := W.1
  have hH := W.2
  obtain ⟨⟨a0, a1, a2, a3⟩, hl8, hD, ao⟩ := W.2
  have hn0 : _ ≤ 8 := hD.1
  have hn1 : _ ≤ 6 := hD.2.1.2
  have hn2 : _ ≤ 8 := hD.2.2.1
  have hp0 := pw_le (D 0) (by omega)
  have hp1 := Nat.two_pow_pos (D 0)
  intro a
  induction a with
  | zero =>
    intro hi y u v f hQ hr
    have r0 : f 129 0 = nL (prF D S (D 0)) := by
      rw [hr 0 (Nat.le_refl _) (by omega), rwF_0]
    refine G_S (pc := 76) f_317_76 rfl rfl rfl ?_
    refine G_zltZ (pc := 78) f_317_78 rfl (by first | exact nI_toInt (by omega) | exact zI_toInt (by omega) (by omega) | rfl) (fun b3 => ?_) (fun b3 => ?_)
    · refine G_S (pc := 181) f_317_181 rfl rfl rfl ?_
      refine G_gR (pc := 182) f_317_182 (by decide) rfl (by first | assumption | exact hK.1 _ _ rfl) (by first | assumption | exact hK.2 _ _ _ rfl | (try dsimp only) <;> (repeat (first | exact up2_s | refine up2_o (by first | decide | omega) ?_)) <;> first | assumption | exact hK.2 _ _ _ rfl) ?_
      refine G_ic (v := nI 0) (pc := 185) f_317_185 (by decide) ?_
      refine G_laN (pc := 186) f_317_186 (by first | assumption | exact hK.1 _ _ rfl) (by omega) (by omega) (by first | exact r0 | rfl) ?_
      refine G_rl (pc := 187) f_317_187 ?_
      exact ⟨rfl, hQ⟩
    · exfalso; omega
  | succ a ih =>
    intro hi y u v f hQ hr
    have ei : zI (((a + 1 : Nat) : Int) - 1) = nI a := by
      rw [nI_zI]
      congr 1
      omega
    rw [ei]
    have hlt := pc8_lt (D 0) (by omega) a (by omega) (by omega)
    have p1 := hP (pc8 a) hlt
    have hq := puF_le D S (pc8 a) hn2
    have loop3 : ∀ i, i ≤ D 0 → ∀ v, G C 317 (87, [some (.ref 98), some (.int k), some (.int (nI S)), some (.int (nI (2 ^ D 0 - 1))), some (.int (nI a)), none, none, some (.int (nI i)), v], [none, none, none, none, none, some (nL (sN (rwT D S a) i)), none, none, none], [], (M.1, M.2.1, f, M.2.2.2)) (fun w M' => w = some (.long (nL (prF D S (D 0)))) ∧ mQ M M') := by
      refine upto (fun i hi ih3 v => ?_)
      have hh9 : i < D 0 → D (3 + i) ≤ 99 := fun q => hD.2.2.2.1 i (by omega)
      have r1 : a.testBit i = false → i < D 0 → f 129 (a ||| 2 ^ i) = nL (rwF D S (a ||| 2 ^ i)) ∧ a ||| 2 ^ i < 256 := by
        intro h1 h2
        have h3 := Nat.or_lt_two_pow (x := a) (y := 2 ^ i) (n := D 0) (by omega) (Nat.pow_lt_pow_right (by decide) h2)
        have h4 := (pc8_or a (by omega) i (by omega) h1).2
        have h5 := Nat.two_pow_pos i
        exact ⟨hr _ (by omega) h3, by omega⟩
      have es : sN (rwT D S a) (i + 1) = sN (rwT D S a) i + rwT D S a i := rfl
      have z0 : nL (sN (rwT D S a) i) + Int64.ofNat 0 = nL (sN (rwT D S a) i) := nL_add _ 0
      refine G_S (pc := 87) f_317_87 rfl rfl rfl ?_
      refine G_S (pc := 89) f_317_89 rfl rfl rfl ?_
      refine G_gIv (pc := 90) f_317_90 (by decide) rfl (by decide) (by first | assumption | exact hK.1 _ _ rfl) (by first | assumption | exact mI_s | ((refine mI_o (by first | decide | omega) ?_); (repeat (refine mI_o (by first | decide | omega) ?_)); first | exact mI_s | assumption) | rfl) ?_
      refine G_jgeZ (pc := 93) f_317_93 rfl (by first | exact nI_toInt (by omega) | exact zI_toInt (by omega) (by omega) | rfl) (by first | exact nI_toInt (by omega) | exact zI_toInt (by omega) (by omega) | rfl) (fun b4 => ?_) (fun b4 => ?_)
      · refine G_S (pc := 166) f_317_166 rfl rfl rfl ?_
        refine G_gR (pc := 167) f_317_167 (by decide) rfl (by first | assumption | exact hK.1 _ _ rfl) (by first | assumption | exact hK.2 _ _ _ rfl | (try dsimp only) <;> (repeat (first | exact up2_s | refine up2_o (by first | decide | omega) ?_)) <;> first | assumption | exact hK.2 _ _ _ rfl) ?_
        refine G_S (pc := 170) f_317_170 rfl rfl rfl ?_
        refine G_S (pc := 172) f_317_172 rfl rfl rfl ?_
        refine G_lsN (pc := 174) f_317_174 (by first | assumption | exact hK.1 _ _ rfl) (by omega) (by omega) ?_
        first | refine G_dec1 (pc := 175) f_317_175 rfl (by omega) ?_ | refine G_incZ (pc := 175) f_317_175 rfl (by first | rfl | exact nI_zI _) ?_
        refine G_S (pc := 178) f_317_178 rfl rfl rfl ?_
        have e : i = D 0 := by omega
        subst e
        rw [rwF_sum D S a hn0 (by omega)]
        refine ih (by omega) _ _ _ _ (hQ.tr (mQ.upL (i := 129) (by decide))) (fun c h1 h2 => ?_)
        by_cases q : c = a
        · subst q
          exact (by (try dsimp only); exact up2_s)
        · exact (by (try dsimp only); exact up2_o (by omega) (hr c (by omega) h2))
      · have hh9 := hh9 (by omega)
        refine G_S (pc := 96) f_317_96 rfl rfl rfl ?_
        refine G_S (pc := 98) f_317_98 rfl rfl rfl ?_
        refine G_CS (pc := 100) f_317_100 rfl rfl (by decide) rfl rfl ⟨Nat.le_of_ble_eq_true rfl, Nat.le_of_ble_eq_true rfl⟩ ?_
        refine CG.go (m_hasN (by omega) (by omega)) ?_
        first | refine G_bNe (pc := 103) f_317_103 rfl (fun b5 => ?_) (fun b5 => ?_) | refine G_zneZ (pc := 103) f_317_103 rfl (by first | exact nI_toInt (by omega) | exact zI_toInt (by omega) (by omega) | rfl) (fun b5 => ?_) (fun b5 => ?_)
        · refine G_ic (v := nI 0) (pc := 131) f_317_131 (by decide) ?_
          refine G_S (pc := 132) f_317_132 rfl rfl rfl ?_
          refine G_S (pc := 134) f_317_134 rfl rfl rfl ?_
          refine G_S (pc := 136) f_317_136 rfl rfl rfl ?_
          refine G_S (pc := 138) f_317_138 rfl rfl rfl ?_
          refine G_S (pc := 156) f_317_156 rfl rfl rfl ?_
          refine G_S (pc := 157) f_317_157 rfl rfl rfl ?_
          refine G_S (pc := 158) f_317_158 rfl rfl rfl ?_
          first | refine G_inc1 (pc := 160) f_317_160 rfl ?_ | refine G_S (pc := 160) f_317_160 rfl rfl rfl ?_
          refine G_S (pc := 163) f_317_163 rfl rfl rfl ?_
          have e := ih3 (by omega)
          first
            | (rw [es, rwT, if_pos ⟨b5, by omega⟩, ← nL_add] at e; exact e _)
            | (have e0 : rwT D S a i = 0 := if_neg (fun z => absurd z.2 (by omega))
               rw [es, e0, ← nL_add] at e
               exact e _)
            | (have e0 : rwT D S a i = 0 := if_neg (fun z => absurd (b5.symm.trans z.1) (by decide))
               rw [es, e0, ← nL_add] at e
               exact e _)
        · have b5 := (Bool.not_eq_true _).mp b5
          have r1 := r1 b5 (by omega)
          have r2 := r1.1
          have r3 := r1.2
          refine G_S (pc := 106) f_317_106 rfl rfl rfl ?_
          refine G_gR (pc := 107) f_317_107 (by decide) rfl (by first | assumption | exact hK.1 _ _ rfl) (by first | assumption | exact hK.2 _ _ _ rfl | (try dsimp only) <;> (repeat (first | exact up2_s | refine up2_o (by first | decide | omega) ?_)) <;> first | assumption | exact hK.2 _ _ _ rfl) ?_
          refine G_S (pc := 110) f_317_110 rfl rfl rfl ?_
          refine G_CS (pc := 112) f_317_112 rfl rfl (by decide) rfl rfl ⟨Nat.le_of_ble_eq_true rfl, Nat.le_of_ble_eq_true rfl⟩ ?_
          refine CG.go (m_onesN (by omega)) ?_
          refine G_iaN (pc := 115) f_317_115 (by first | assumption | exact hK.1 _ _ rfl) (by omega) (by omega) (by first | exact p1 | rfl) ?_
          refine G_S (pc := 116) f_317_116 rfl rfl rfl ?_
          refine G_ic (v := nI 3) (pc := 117) f_317_117 (by decide) ?_
          refine G_S (pc := 118) f_317_118 rfl rfl rfl ?_
          first | refine G_addN (pc := 120) f_317_120 ?_ | refine G_addZ (pc := 120) f_317_120 (by first | rfl | exact nI_zI _) (by first | rfl | exact nI_zI _) ?_ | refine G_S (pc := 120) f_317_120 rfl rfl rfl ?_
          refine G_CV (pc := 121) f_317_121 rfl rfl (by decide) rfl rfl (by first | assumption | exact hK.1 _ _ rfl) (by decide) ⟨Nat.le_of_ble_eq_true rfl, Nat.le_of_ble_eq_true rfl⟩ ?_
          refine CG.go (m_ofD hK hH (by omega)) ?_
          refine G_jltZ (pc := 124) f_317_124 rfl (by first | exact nI_toInt (by omega) | exact zI_toInt (by omega) (by omega) | rfl) (by first | exact nI_toInt (by omega) | exact zI_toInt (by omega) (by omega) | rfl) (fun b6 => ?_) (fun b6 => ?_)
          · refine G_ic (v := nI 0) (pc := 131) f_317_131 (by decide) ?_
            refine G_S (pc := 132) f_317_132 rfl rfl rfl ?_
            refine G_S (pc := 134) f_317_134 rfl rfl rfl ?_
            refine G_S (pc := 136) f_317_136 rfl rfl rfl ?_
            refine G_S (pc := 138) f_317_138 rfl rfl rfl ?_
            refine G_S (pc := 156) f_317_156 rfl rfl rfl ?_
            refine G_S (pc := 157) f_317_157 rfl rfl rfl ?_
            refine G_S (pc := 158) f_317_158 rfl rfl rfl ?_
            first | refine G_inc1 (pc := 160) f_317_160 rfl ?_ | refine G_S (pc := 160) f_317_160 rfl rfl rfl ?_
            refine G_S (pc := 163) f_317_163 rfl rfl rfl ?_
            have e := ih3 (by omega)
            first
              | (rw [es, rwT, if_pos ⟨b5, by omega⟩, ← nL_add] at e; exact e _)
              | (have e0 : rwT D S a i = 0 := if_neg (fun z => absurd z.2 (by omega))
                 rw [es, e0, ← nL_add] at e
                 exact e _)
              | (have e0 : rwT D S a i = 0 := if_neg (fun z => absurd (b5.symm.trans z.1) (by decide))
                 rw [es, e0, ← nL_add] at e
                 exact e _)
          · refine G_ic (v := nI 1) (pc := 127) f_317_127 (by decide) ?_
            refine G_S (pc := 128) f_317_128 rfl rfl rfl ?_
            refine G_S (pc := 132) f_317_132 rfl rfl rfl ?_
            refine G_S (pc := 134) f_317_134 rfl rfl rfl ?_
            refine G_S (pc := 136) f_317_136 rfl rfl rfl ?_
            refine G_S (pc := 138) f_317_138 rfl rfl rfl ?_
            refine G_S (pc := 141) f_317_141 rfl rfl rfl ?_
            refine G_gR (pc := 142) f_317_142 (by decide) rfl (by first | assumption | exact hK.1 _ _ rfl) (by first | assumption | exact hK.2 _ _ _ rfl | (try dsimp only) <;> (repeat (first | exact up2_s | refine up2_o (by first | decide | omega) ?_)) <;> first | assumption | exact hK.2 _ _ _ rfl) ?_
            refine G_S (pc := 145) f_317_145 rfl rfl rfl ?_
            refine G_ic (v := nI 1) (pc := 147) f_317_147 (by decide) ?_
            refine G_S (pc := 148) f_317_148 rfl rfl rfl ?_
            first | refine G_shl1 (pc := 150) f_317_150 (by omega) ?_ | refine G_S (pc := 150) f_317_150 rfl rfl rfl ?_
            first | refine G_orN (pc := 151) f_317_151 ?_ | refine G_S (pc := 151) f_317_151 rfl rfl rfl ?_
            refine G_laN (pc := 152) f_317_152 (by first | assumption | exact hK.1 _ _ rfl) (by omega) (by omega) (by first | exact r2 | rfl) ?_
            refine G_S (pc := 153) f_317_153 rfl rfl rfl ?_
            refine G_S (pc := 157) f_317_157 rfl rfl rfl ?_
            refine G_S (pc := 158) f_317_158 rfl rfl rfl ?_
            first | refine G_inc1 (pc := 160) f_317_160 rfl ?_ | refine G_S (pc := 160) f_317_160 rfl rfl rfl ?_
            refine G_S (pc := 163) f_317_163 rfl rfl rfl ?_
            have e := ih3 (by omega)
            first
              | (rw [es, rwT, if_pos ⟨b5, by omega⟩, ← nL_add] at e; exact e _)
              | (have e0 : rwT D S a i = 0 := if_neg (fun z => absurd z.2 (by omega))
                 rw [es, e0, ← nL_add] at e
                 exact e _)
              | (have e0 : rwT D S a i = 0 := if_neg (fun z => absurd (b5.symm.trans z.1) (by decide))
                 rw [es, e0, ← nL_add] at e
                 exact e _)
    refine G_S (pc := 76) f_317_76 rfl rfl rfl ?_
    refine G_zltZ (pc := 78) f_317_78 rfl (by first | exact nI_toInt (by omega) | exact zI_toInt (by omega) (by omega) | rfl) (fun b3 => ?_) (fun b3 => ?_)
    · exfalso; omega
    · refine G_S (pc := 81) f_317_81 rfl rfl rfl ?_
      refine G_S (pc := 82) f_317_82 rfl rfl rfl ?_
      refine G_ic (v := nI 0) (pc := 84) f_317_84 (by decide) ?_
      refine G_S (pc := 85) f_317_85 rfl rfl rfl ?_
      exact loop3 0 (Nat.zero_le _) _
theorem g_orders (W : MLs M n L) : CG C 317 [.ref 98, .int k, .int x] M (fun w M' => w = some (.long (aForL (slin n L k x))) ∧ mQ M M') := by
  have hK := W.1
  cases hx : slin n L k x with
  | none =>
    refine CG_in (mL := 9) (hl := true) (lv := [some (.ref 98), some (.int k), some (.int x), none, none, none, none, none, none]) (ll := [none, none, none, none, none, none, none, none, none]) rfl rfl rfl ?_
    refine G_S (pc := 0) f_317_0 rfl rfl rfl ?_
    refine G_ic (v := nI 0) (pc := 1) f_317_1 (by decide) ?_
    refine G_pI (pc := 2) f_317_2 rfl (by first | assumption | exact hK.1 _ _ rfl) ?_
    refine G_S (pc := 5) f_317_5 rfl rfl rfl ?_
    refine G_S (pc := 6) f_317_6 rfl rfl rfl ?_
    refine G_S (pc := 7) f_317_7 rfl rfl rfl ?_
    refine G_CV (pc := 8) f_317_8 rfl rfl (by decide) rfl rfl (by first | assumption | exact hK.1 _ _ rfl) (by decide) ⟨Nat.le_of_ble_eq_true rfl, Nat.le_of_ble_eq_true rfl⟩ ?_
    refine CG.mono (g_for0 (W.q mQ.cod) hx) ?_
    rintro _ M1 ⟨rfl, hQ⟩
    first | refine G_bNe (pc := 11) f_317_11 rfl (fun b1 => ?_) (fun b1 => ?_) | refine G_zneZ (pc := 11) f_317_11 rfl (by first | exact nI_toInt (by omega) | exact zI_toInt (by omega) (by omega) | rfl) (fun b1 => ?_) (fun b1 => ?_)
    · exact absurd b1 id
    · refine G_S (pc := 14) f_317_14 rfl rfl rfl ?_
      refine G_rl (pc := 17) f_317_17 ?_
      exact ⟨rfl, mQ.cod.tr hQ⟩
  | some q =>
    obtain ⟨D, S⟩ := q
    obtain ⟨hS, rfl, hse⟩ := sea_some (slin_some hx).2
    show CG C 317 [.ref 98, .int k, .int (nI S)] M (fun w M' => w = some (.long (nL (prF D S (D 0)))) ∧ mQ M M')
    have loop1 : ∀ l i, i ≤ D 0 → ∀ M1, mQ M M1 → MB M1 l D (itw D S i) → (∀ j, j < i → M1.2.1 128 j = nI (puF D S j)) → G C 317 (25, [some (.ref 98), some (.int k), some (.int (nI S)), some (.int (nI i)), none, none, none, none, none], [none, none, none, none, none, none, none, none, none], [], M1) (fun w M' => w = some (.long (nL (prF D S (D 0)))) ∧ mQ M M') := by
      intro l
      refine upto (fun i hi ih M1 hQ W1 hp => ?_)
      have W0 := W1.1
      have hK := W0.1
      have hH := W0.2
      obtain ⟨⟨a0, a1, a2, a3⟩, hl8, hD, ao⟩ := W0.2
      have hn0 : _ ≤ 8 := hD.1
      have hn1 : _ ≤ 6 := hD.2.1.2
      have hn2 : _ ≤ 8 := hD.2.2.1
      have hS8 := pw2 hn2 hS
      have hp0 := pw_le (D 0) (by omega)
      have hp1 := Nat.two_pow_pos (D 0)
      refine G_S (pc := 25) f_317_25 rfl rfl rfl ?_
      refine G_S (pc := 26) f_317_26 rfl rfl rfl ?_
      refine G_gIv (pc := 27) f_317_27 (by decide) rfl (by decide) (by first | assumption | exact hK.1 _ _ rfl) (by first | assumption | exact mI_s | ((refine mI_o (by first | decide | omega) ?_); (repeat (refine mI_o (by first | decide | omega) ?_)); first | exact mI_s | assumption) | rfl) ?_
      refine G_jgeZ (pc := 30) f_317_30 rfl (by first | exact nI_toInt (by omega) | exact zI_toInt (by omega) (by omega) | rfl) (by first | exact nI_toInt (by omega) | exact zI_toInt (by omega) (by omega) | rfl) (fun b2 => ?_) (fun b2 => ?_)
      · refine G_ic (v := nI 1) (pc := 55) f_317_55 (by decide) ?_
        refine G_S (pc := 56) f_317_56 rfl rfl rfl ?_
        refine G_gIv (pc := 57) f_317_57 (by decide) rfl (by decide) (by first | assumption | exact hK.1 _ _ rfl) (by first | assumption | exact mI_s | ((refine mI_o (by first | decide | omega) ?_); (repeat (refine mI_o (by first | decide | omega) ?_)); first | exact mI_s | assumption) | rfl) ?_
        first | refine G_shl1 (pc := 60) f_317_60 (by omega) ?_ | refine G_S (pc := 60) f_317_60 rfl rfl rfl ?_
        refine G_ic (v := nI 1) (pc := 61) f_317_61 (by decide) ?_
        first | refine G_subN (pc := 62) f_317_62 (by omega) ?_ | refine G_subZ (pc := 62) f_317_62 (by first | rfl | exact nI_zI _) (by first | rfl | exact nI_zI _) ?_ | refine G_S (pc := 62) f_317_62 rfl rfl rfl ?_
        refine G_S (pc := 63) f_317_63 rfl rfl rfl ?_
        refine G_S (pc := 64) f_317_64 rfl rfl rfl ?_
        refine G_gR (pc := 65) f_317_65 (by decide) rfl (by first | assumption | exact hK.1 _ _ rfl) (by first | assumption | exact hK.2 _ _ _ rfl | (try dsimp only) <;> (repeat (first | exact up2_s | refine up2_o (by first | decide | omega) ?_)) <;> first | assumption | exact hK.2 _ _ _ rfl) ?_
        refine G_S (pc := 68) f_317_68 rfl rfl rfl ?_
        refine G_S (pc := 69) f_317_69 rfl rfl rfl ?_
        refine G_lsN (pc := 70) f_317_70 (by first | assumption | exact hK.1 _ _ rfl) (by omega) (by omega) ?_
        refine G_S (pc := 71) f_317_71 rfl rfl rfl ?_
        refine G_ic (v := nI 1) (pc := 72) f_317_72 (by decide) ?_
        first | refine G_subN (pc := 73) f_317_73 (by omega) ?_ | refine G_subZ (pc := 73) f_317_73 (by first | rfl | exact nI_zI _) (by first | rfl | exact nI_zI _) ?_ | refine G_S (pc := 73) f_317_73 rfl rfl rfl ?_
        refine G_S (pc := 74) f_317_74 rfl rfl rfl ?_
        have e : i = D 0 := by omega
        subst e
        refine G.mono (g_orders2 W0 hp (2 ^ D 0 - 1) (Nat.le_refl _) _ _ _ _ (mQ.upL (i := 129) (k := 2 ^ D 0 - 1) (x := Int64.ofNat 1) (by decide)) (fun c h1 h2 => ?_)) ?_
        · have ec : c = 2 ^ D 0 - 1 := by omega
          subst ec
          rw [rwF_all D S hn0]
          exact (by (try dsimp only); exact up2_s)
        · rintro w M9 ⟨g1, g2⟩
          exact ⟨g1, hQ.tr g2⟩
      · refine G_S (pc := 33) f_317_33 rfl rfl rfl ?_
        refine G_gR (pc := 34) f_317_34 (by decide) rfl (by first | assumption | exact hK.1 _ _ rfl) (by first | assumption | exact hK.2 _ _ _ rfl | (try dsimp only) <;> (repeat (first | exact up2_s | refine up2_o (by first | decide | omega) ?_)) <;> first | assumption | exact hK.2 _ _ _ rfl) ?_
        refine G_S (pc := 37) f_317_37 rfl rfl rfl ?_
        refine G_S (pc := 38) f_317_38 rfl rfl rfl ?_
        refine G_S (pc := 39) f_317_39 rfl rfl rfl ?_
        refine G_CV (pc := 40) f_317_40 rfl rfl (by decide) rfl rfl (by first | assumption | exact hK.1 _ _ rfl) (by decide) ⟨Nat.le_of_ble_eq_true rfl, Nat.le_of_ble_eq_true rfl⟩ ?_
        refine CG.go (g_pull W1 hS8) ?_
        refine G_isN (pc := 43) f_317_43 (by first | assumption | exact hK.1 _ _ rfl) (by omega) (by omega) ?_
        refine G_S (pc := 44) f_317_44 rfl rfl rfl ?_
        refine G_S (pc := 45) f_317_45 rfl rfl rfl ?_
        refine G_CV (pc := 46) f_317_46 rfl rfl (by decide) rfl rfl (by first | assumption | exact hK.1 _ _ rfl) (by decide) ⟨Nat.le_of_ble_eq_true rfl, Nat.le_of_ble_eq_true rfl⟩ ?_
        refine CG.mono (g_wears (W1.fo (M' := (M1.1, up2 M1.2.1 128 i (nI (puF D S i)), M1.2.2.1, M1.2.2.2)) (Fo.up (os := [128]) (by decide)) (by decide) (by decide) (by decide)) hS8) ?_
        rintro _ M2 ⟨rfl, hF2, W2⟩
        first | refine G_inc1 (pc := 49) f_317_49 rfl ?_ | refine G_S (pc := 49) f_317_49 rfl rfl rfl ?_
        refine G_S (pc := 52) f_317_52 rfl rfl rfl ?_
        have hF3 : Fo [128] M1 (M1.1, up2 M1.2.1 128 i (nI (puF D S i)), M1.2.2.1, M1.2.2.2) := Fo.up (by decide)
        refine ih (by omega) M2 ((hQ.tr (hF3.q (by decide))).tr (hF2.q (by decide))) W2 (fun j hj => ?_)
        rw [(hF2.2 128 (by decide)).1]
        by_cases q : j = i
        · subst q
          exact (by (try dsimp only); exact up2_s)
        · exact (by (try dsimp only); exact up2_o (by omega) (hp j (by omega)))
    refine CG_in (mL := 9) (hl := true) (lv := [some (.ref 98), some (.int k), some (.int (nI S)), none, none, none, none, none, none]) (ll := [none, none, none, none, none, none, none, none, none]) rfl rfl rfl ?_
    refine G_S (pc := 0) f_317_0 rfl rfl rfl ?_
    refine G_ic (v := nI 0) (pc := 1) f_317_1 (by decide) ?_
    refine G_pI (pc := 2) f_317_2 rfl (by first | assumption | exact hK.1 _ _ rfl) ?_
    refine G_S (pc := 5) f_317_5 rfl rfl rfl ?_
    refine G_S (pc := 6) f_317_6 rfl rfl rfl ?_
    refine G_S (pc := 7) f_317_7 rfl rfl rfl ?_
    refine G_CV (pc := 8) f_317_8 rfl rfl (by decide) rfl rfl (by first | assumption | exact hK.1 _ _ rfl) (by decide) ⟨Nat.le_of_ble_eq_true rfl, Nat.le_of_ble_eq_true rfl⟩ ?_
    refine CG.mono (g_for1 (W.q mQ.cod) hx) ?_
    rintro _ M1 ⟨rfl, hQ, l, W1⟩
    have hK := W1.1
    first | refine G_bNe (pc := 11) f_317_11 rfl (fun b1 => ?_) (fun b1 => ?_) | refine G_zneZ (pc := 11) f_317_11 rfl (by first | exact nI_toInt (by omega) | exact zI_toInt (by omega) (by omega) | rfl) (fun b1 => ?_) (fun b1 => ?_)
    · refine G_S (pc := 18) f_317_18 rfl rfl rfl ?_
      refine G_ic (v := nI 0) (pc := 19) f_317_19 (by decide) ?_
      refine G_CV (pc := 20) f_317_20 rfl rfl (by decide) rfl rfl (by first | assumption | exact hK.1 _ _ rfl) (by decide) ⟨Nat.le_of_ble_eq_true rfl, Nat.le_of_ble_eq_true rfl⟩ ?_
      refine CG.mono (g_lay W1 nI_z0 (by omega) (by omega)) ?_
      rintro _ M2 ⟨rfl, hF, W2⟩
      refine G_ic (v := nI 0) (pc := 23) f_317_23 (by decide) ?_
      refine G_S (pc := 24) f_317_24 rfl rfl rfl ?_
      exact loop1 l 0 (Nat.zero_le _) M2 ((mQ.cod.tr hQ).tr (hF.q (by decide))) W2 (fun j hj => absurd hj (by omega))
    · exact absurd trivial b1
end ORM
