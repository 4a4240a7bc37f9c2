/-! couples: the reference -/
section CPM
variable {C : Ct} {M : Mm} {n l S p : Nat} {L : Nat → Nat → Nat} {k x y : Int32} {D : Nat → Nat}
def CO : List Nat := [117, 118]
theorem m_leastOf (hS : S < 256) (h0 : 0 < S) : CG C 272 [.int (nI S)] M (fun w M' => w = some (.int (nI (ntzF S))) ∧ M' = M) := by
  have hlt := ntz_lt S
  have hb := ntz_bit S hS h0
  have loop : ∀ i, i ≤ ntzF S → G C 272 (2, [some (.int (nI S)), some (.int (nI i))], [], [], M) (fun w M' => w = some (.int (nI (ntzF S))) ∧ M' = M) := by
    refine upto (fun i hi ih => ?_)
    refine G_S (pc := 2) f_272_2 rfl rfl rfl ?_
    refine G_S (pc := 3) f_272_3 rfl rfl rfl ?_
    refine G_CS (pc := 4) f_272_4 rfl rfl (by decide) rfl rfl ⟨Nat.le_of_ble_eq_true rfl, Nat.le_of_ble_eq_true rfl⟩ ?_
    refine CG.go (m_hasN (by omega) (by omega)) ?_
    first | refine G_bNe (pc := 7) f_272_7 rfl (fun b1 => ?_) (fun b1 => ?_) | refine G_zneZ (pc := 7) f_272_7 rfl (by first | exact nI_toInt (by omega) | exact zI_toInt (by omega) (by omega) | rfl) (fun b1 => ?_) (fun b1 => ?_)
    · refine G_S (pc := 16) f_272_16 rfl rfl rfl ?_
      refine G_ri (pc := 17) f_272_17 ?_
      by_cases e : i = ntzF S
      · subst e
        exact ⟨rfl, rfl⟩
      · have := ntz_lo S hS i (by omega)
        rw [this] at b1
        cases b1
    · first | refine G_inc1 (pc := 10) f_272_10 rfl ?_ | refine G_S (pc := 10) f_272_10 rfl rfl rfl ?_
      refine G_S (pc := 13) f_272_13 rfl rfl rfl ?_
      refine ih ?_
      by_cases e : i = ntzF S
      · subst e
        exact absurd hb b1
      · omega
  refine CG_in (mL := 2) (hl := false) (lv := [some (.int (nI S)), none]) (ll := []) rfl rfl rfl ?_
  refine G_ic (v := nI 0) (pc := 0) f_272_0 (by decide) ?_
  refine G_S (pc := 1) f_272_1 rfl rfl rfl ?_
  exact loop 0 (Nat.zero_le _)
theorem m_find (W : mH M l D) (hSD : S < 2 ^ D 2) : CG C 273 [.ref 98, .int (nI S)] M (fun w M' => w = none ∧ Fo CO M M' ∧ (∀ x, x ≤ S → M'.2.1 117 x = nI (lcF D x)) ∧ M'.2.1 118 0 = nI 1) := by
  have hn2 : D 2 ≤ 8 := W.2.2.2.1.2.2.1
  have hS := pw2 hn2 hSD
  have keep : ∀ {N}, Fo CO M N → mH N l D := fun hF => W.fo hF (by decide) (by decide)
  have loop2 : ∀ p, p ≤ S → 0 < p → ∀ M0, Fo CO M M0 → (∀ x, x < p → M0.2.1 117 x = nI (lcF D x)) → (∀ M1 u3 u4 u5 u6 u7, Fo CO M M1 → (∀ x, x < p + 1 → M1.2.1 117 x = nI (lcF D x)) → M1.2.1 118 0 = nI 1 → G C 273 (16, [some (.ref 98), some (.int (nI S)), some (.int (nI (p + 1))), u3, u4, u5, u6, u7], [], [], M1) (fun w M' => w = none ∧ Fo CO M M' ∧ (∀ x, x ≤ S → M'.2.1 117 x = nI (lcF D x)) ∧ M'.2.1 118 0 = nI 1)) → M0.2.1 118 0 = nI 1 → ∀ r, r ≤ D 2 → ntzF p + 1 ≤ r → ∀ M1 u6 u7, Fo [117] M0 M1 → (∀ x, x < p → M1.2.1 117 x = nI (lcF D x)) → M1.2.1 117 p = nI (cvM D (lcF D) p (ntzF p) r) → G C 273 (49, [some (.ref 98), some (.int (nI S)), some (.int (nI p)), some (.int (nI (ntzF p))), some (.int (nI ((cl p (ntzF p))))), some (.int (nI r)), u6, u7], [], [], M1) (fun w M' => w = none ∧ Fo CO M M' ∧ (∀ x, x ≤ S → M'.2.1 117 x = nI (lcF D x)) ∧ M'.2.1 118 0 = nI 1) := by
    intro p hpS h0 M0 hF0 hT0 K h118
    have hp : p < 256 := by omega
    have ha := ntz_lt p
    have hb := ntz_bit p hp h0
    have hc1 := cl_le p hp (ntzF p) ha
    refine upto (fun r hr ih hra M1 u6 u7 hF1 hT hv => ?_)
    have hFM : Fo CO M M1 := hF0.tr (hF1.sub (by decide))
    have W1 := keep hFM
    have hK := W1.1
    have hH := W1.2
    obtain ⟨⟨a0, a1, a2, a3⟩, hl8, hD, ao⟩ := W1.2
    have hn0 : _ ≤ 8 := hD.1
    have hn1 : _ ≤ 6 := hD.2.1.2
    have hn2 : _ ≤ 8 := hD.2.2.1
    have c6 := cvM_le6 (D := D) (T := lcF D) (S := p) (a := ntzF p) r
    have hx : r < D 2 → (cl p (ntzF p)).testBit r = true → p.testBit r = true ∧ cl (cl p (ntzF p)) r < 256 ∧ M1.2.1 117 (cl (cl p (ntzF p)) r) = nI (lcF D (cl (cl p (ntzF p)) r)) ∧ lcF D (cl (cl p (ntzF p)) r) ≤ 1000000 ∧ D (19 + ntzF p) ≤ 60 ∧ D (19 + r) ≤ 60 := by
      intro q hbr
      have hbr' : p.testBit r = true := by
        rw [← cl_bit p hp (ntzF p) ha r (by omega) (by omega)]
        exact hbr
      have hc := cl2 hp ha (by omega) hb hbr' (by omega)
      exact ⟨hbr', hc.2.1, hT _ hc.1, lcF_le hc.2.1 hn2, hD.2.2.2.2.2.1 _ ha, hD.2.2.2.2.2.1 _ (by omega)⟩
    have es : cvM D (lcF D) p (ntzF p) (r + 1) = if ntzF p < r ∧ p.testBit r = true then min (cvM D (lcF D) p (ntzF p) r) (max (hf D (ntzF p) r) (lcF D (cl (cl p (ntzF p)) r))) else cvM D (lcF D) p (ntzF p) r := rfl
    refine G_S (pc := 49) f_273_49 rfl rfl rfl ?_
    refine G_S (pc := 51) f_273_51 rfl rfl rfl ?_
    refine G_gIv (pc := 52) f_273_52 (by decide) rfl (by decide) (by first | assumption | exact hK.1 _ _ rfl) (by first | assumption | exact mI_s | ((refine mI_o (by first | decide | omega) ?_); (repeat (refine mI_o (by first | decide | omega) ?_)); first | exact mI_s | assumption) | rfl) ?_
    refine G_jgeZ (pc := 55) f_273_55 rfl (by first | exact nI_toInt (by omega) | exact zI_toInt (by omega) (by omega) | rfl) (by first | exact nI_toInt (by omega) | exact zI_toInt (by omega) (by omega) | rfl) (fun b2 => ?_) (fun b2 => ?_)
    · first | refine G_inc1 (pc := 136) f_273_136 rfl ?_ | refine G_S (pc := 136) f_273_136 rfl rfl rfl ?_
      refine G_S (pc := 139) f_273_139 rfl rfl rfl ?_
      have e : r = D 2 := by omega
      subst e
      refine K M1 _ _ _ _ _ hFM (fun x hx => ?_) (by rw [(hF1.2 118 (by decide)).1]; exact h118)
      by_cases e : x = p
      · subst e
        rw [hv, lcF_eq hp h0 hn2]
      · exact hT x (by omega)
    · refine G_S (pc := 58) f_273_58 rfl rfl rfl ?_
      refine G_S (pc := 60) f_273_60 rfl rfl rfl ?_
      refine G_CS (pc := 62) f_273_62 rfl rfl (by decide) rfl rfl ⟨Nat.le_of_ble_eq_true rfl, Nat.le_of_ble_eq_true rfl⟩ ?_
      refine CG.go (m_hasN (by omega) (by omega)) ?_
      first | refine G_bEq (pc := 65) f_273_65 rfl (fun b3 => ?_) (fun b3 => ?_) | refine G_zeqZ (pc := 65) f_273_65 rfl (by first | exact nI_toInt (by omega) | exact zI_toInt (by omega) (by omega) | rfl) (fun b3 => ?_) (fun b3 => ?_)
      · first | refine G_inc1 (pc := 130) f_273_130 rfl ?_ | refine G_S (pc := 130) f_273_130 rfl rfl rfl ?_
        refine G_S (pc := 133) f_273_133 rfl rfl rfl ?_
        first
          | (refine ih (by omega) (by omega) M1 _ _ hF1 hT ?_
             rw [es, if_neg (fun z => b3 (by rw [cl_bit p hp (ntzF p) ha r (by omega) (by omega)]; exact z.2))]
             exact hv)
          | (refine ih (by omega) (by omega) _ _ _ (hF1.tr (Fo.up (i := 117) (k := p) (by decide))) (fun x hx => ?_) ?_
             · exact (by (try dsimp only); exact up2_o (by omega) (hT x hx))
             · rw [es, if_pos ⟨by omega, x0⟩]
               exact (by (try dsimp only); exact up2_s))
      · obtain ⟨x0, x1, x2, x3, x4, x5⟩ := hx (by omega) b3
        refine G_S (pc := 68) f_273_68 rfl rfl rfl ?_
        refine G_ic (v := nI 1) (pc := 70) f_273_70 (by decide) ?_
        refine G_S (pc := 71) f_273_71 rfl rfl rfl ?_
        first | refine G_shl1 (pc := 73) f_273_73 (by omega) ?_ | refine G_S (pc := 73) f_273_73 rfl rfl rfl ?_
        refine G_ic (v := zI (-1)) (pc := 74) f_273_74 (by decide) ?_
        first | refine G_xorN (pc := 75) f_273_75 ?_ | refine G_S (pc := 75) f_273_75 rfl rfl rfl ?_
        first | refine G_andN (pc := 76) f_273_76 ?_ | refine G_andnN (pc := 76) f_273_76 ?_ | refine G_S (pc := 76) f_273_76 rfl rfl rfl ?_
        refine G_S (pc := 77) f_273_77 rfl rfl rfl ?_
        refine G_S (pc := 79) f_273_79 rfl rfl rfl ?_
        refine G_bi (v := nI 19) (pc := 80) f_273_80 (by decide) ?_
        refine G_S (pc := 82) f_273_82 rfl rfl rfl ?_
        first | refine G_addN (pc := 83) f_273_83 ?_ | refine G_addZ (pc := 83) f_273_83 (by first | rfl | exact nI_zI _) (by first | rfl | exact nI_zI _) ?_ | refine G_S (pc := 83) f_273_83 rfl rfl rfl ?_
        refine G_CV (pc := 84) f_273_84 rfl rfl (by decide) rfl rfl (by first | assumption | exact hK.1 _ _ rfl) (by decide) ⟨Nat.le_of_ble_eq_true rfl, Nat.le_of_ble_eq_true rfl⟩ ?_
        refine CG.go (m_ofD hK hH (by omega)) ?_
        refine G_S (pc := 87) f_273_87 rfl rfl rfl ?_
        refine G_bi (v := nI 19) (pc := 88) f_273_88 (by decide) ?_
        refine G_S (pc := 90) f_273_90 rfl rfl rfl ?_
        first | refine G_addN (pc := 92) f_273_92 ?_ | refine G_addZ (pc := 92) f_273_92 (by first | rfl | exact nI_zI _) (by first | rfl | exact nI_zI _) ?_ | refine G_S (pc := 92) f_273_92 rfl rfl rfl ?_
        refine G_CV (pc := 93) f_273_93 rfl rfl (by decide) rfl rfl (by first | assumption | exact hK.1 _ _ rfl) (by decide) ⟨Nat.le_of_ble_eq_true rfl, Nat.le_of_ble_eq_true rfl⟩ ?_
        refine CG.go (m_ofD hK hH (by omega)) ?_
        first | refine G_addN (pc := 96) f_273_96 ?_ | refine G_addZ (pc := 96) f_273_96 (by first | rfl | exact nI_zI _) (by first | rfl | exact nI_zI _) ?_ | refine G_S (pc := 96) f_273_96 rfl rfl rfl ?_
        refine G_ic (v := nI 1) (pc := 97) f_273_97 (by decide) ?_
        first | refine G_addN (pc := 98) f_273_98 ?_ | refine G_addZ (pc := 98) f_273_98 (by first | rfl | exact nI_zI _) (by first | rfl | exact nI_zI _) ?_ | refine G_S (pc := 98) f_273_98 rfl rfl rfl ?_
        refine G_ic (v := nI 2) (pc := 99) f_273_99 (by decide) ?_
        refine G_divN (pc := 100) f_273_100 (by omega) (by omega) (by omega) ?_
        refine G_S (pc := 101) f_273_101 rfl rfl rfl ?_
        refine G_S (pc := 103) f_273_103 rfl rfl rfl ?_
        refine G_gR (pc := 104) f_273_104 (by decide) rfl (by first | assumption | exact hK.1 _ _ rfl) (by first | assumption | exact hK.2 _ _ _ rfl | (try dsimp only) <;> (repeat (first | exact up2_s | refine up2_o (by first | decide | omega) ?_)) <;> first | assumption | exact hK.2 _ _ _ rfl) ?_
        refine G_S (pc := 107) f_273_107 rfl rfl rfl ?_
        refine G_S (pc := 108) f_273_108 rfl rfl rfl ?_
        refine G_gR (pc := 109) f_273_109 (by decide) rfl (by first | assumption | exact hK.1 _ _ rfl) (by first | assumption | exact hK.2 _ _ _ rfl | (try dsimp only) <;> (repeat (first | exact up2_s | refine up2_o (by first | decide | omega) ?_)) <;> first | assumption | exact hK.2 _ _ _ rfl) ?_
        refine G_S (pc := 112) f_273_112 rfl rfl rfl ?_
        refine G_iaN (pc := 113) f_273_113 (by first | assumption | exact hK.1 _ _ rfl) (by omega) (by omega) (by first | exact hv | rfl) ?_
        refine G_S (pc := 114) f_273_114 rfl rfl rfl ?_
        refine G_S (pc := 116) f_273_116 rfl rfl rfl ?_
        refine G_gR (pc := 117) f_273_117 (by decide) rfl (by first | assumption | exact hK.1 _ _ rfl) (by first | assumption | exact hK.2 _ _ _ rfl | (try dsimp only) <;> (repeat (first | exact up2_s | refine up2_o (by first | decide | omega) ?_)) <;> first | assumption | exact hK.2 _ _ _ rfl) ?_
        refine G_S (pc := 120) f_273_120 rfl rfl rfl ?_
        refine G_iaN (pc := 122) f_273_122 (by first | assumption | exact hK.1 _ _ rfl) x1 (by omega) (by first | exact x2 | rfl) ?_
        refine G_CS (pc := 123) f_273_123 rfl rfl (by decide) rfl rfl ⟨Nat.le_of_ble_eq_true rfl, Nat.le_of_ble_eq_true rfl⟩ ?_
        refine CG.go (by first | exact m_greaterN (by omega) (by omega) | exact m_greaterZ (by first | exact nI_toInt (by omega) | exact zI_toInt (by omega) (by omega) | rfl) (by first | exact nI_toInt (by omega) | exact zI_toInt (by omega) (by omega) | rfl)) ?_
        refine G_CS (pc := 126) f_273_126 rfl rfl (by decide) rfl rfl ⟨Nat.le_of_ble_eq_true rfl, Nat.le_of_ble_eq_true rfl⟩ ?_
        refine CG.go (by first | exact m_lesserN (by omega) (by omega) | exact m_lesserZ (by first | exact nI_toInt (by omega) | exact zI_toInt (by omega) (by omega) | rfl) (by first | exact nI_toInt (by omega) | exact zI_toInt (by omega) (by omega) | rfl)) ?_
        refine G_isN (pc := 129) f_273_129 (by first | assumption | exact hK.1 _ _ rfl) (by omega) (by omega) ?_
        first | refine G_inc1 (pc := 130) f_273_130 rfl ?_ | refine G_S (pc := 130) f_273_130 rfl rfl rfl ?_
        refine G_S (pc := 133) f_273_133 rfl rfl rfl ?_
        first
          | (refine ih (by omega) (by omega) M1 _ _ hF1 hT ?_
             rw [es, if_neg (fun z => b3 (by rw [cl_bit p hp (ntzF p) ha r (by omega) (by omega)]; exact z.2))]
             exact hv)
          | (refine ih (by omega) (by omega) _ _ _ (hF1.tr (Fo.up (i := 117) (k := p) (by decide))) (fun x hx => ?_) ?_
             · exact (by (try dsimp only); exact up2_o (by omega) (hT x hx))
             · rw [es, if_pos ⟨by omega, x0⟩]
               exact (by (try dsimp only); exact up2_s))
  have loop1 : ∀ p, p ≤ S + 1 → 1 ≤ p → ∀ M1 u3 u4 u5 u6 u7, Fo CO M M1 → (∀ x, x < p → M1.2.1 117 x = nI (lcF D x)) → M1.2.1 118 0 = nI 1 → G C 273 (16, [some (.ref 98), some (.int (nI S)), some (.int (nI p)), u3, u4, u5, u6, u7], [], [], M1) (fun w M' => w = none ∧ Fo CO M M' ∧ (∀ x, x ≤ S → M'.2.1 117 x = nI (lcF D x)) ∧ M'.2.1 118 0 = nI 1) := by
    refine upto (fun p hp ih hp1 M1 u3 u4 u5 u6 u7 hF hT h118 => ?_)
    have hK := hF.K W.1
    have ha := ntz_lt p
    refine G_S (pc := 16) f_273_16 rfl rfl rfl ?_
    refine G_S (pc := 17) f_273_17 rfl rfl rfl ?_
    refine G_jgtZ (pc := 18) f_273_18 rfl (by first | exact nI_toInt (by omega) | exact zI_toInt (by omega) (by omega) | rfl) (by first | exact nI_toInt (by omega) | exact zI_toInt (by omega) (by omega) | rfl) (fun b1 => ?_) (fun b1 => ?_)
    · refine G_rv (pc := 142) f_273_142 ?_
      exact ⟨rfl, hF, fun x hx => hT x (by omega), h118⟩
    · refine G_S (pc := 21) f_273_21 rfl rfl rfl ?_
      refine G_gR (pc := 22) f_273_22 (by decide) rfl (by first | assumption | exact hK.1 _ _ rfl) (by first | assumption | exact hK.2 _ _ _ rfl | (try dsimp only) <;> (repeat (first | exact up2_s | refine up2_o (by first | decide | omega) ?_)) <;> first | assumption | exact hK.2 _ _ _ rfl) ?_
      refine G_S (pc := 25) f_273_25 rfl rfl rfl ?_
      refine G_lc (v := zI 1000000) (pc := 26) f_273_26 rfl (by decide) ?_
      refine G_isN (pc := 29) f_273_29 (by first | assumption | exact hK.1 _ _ rfl) (by omega) (by omega) ?_
      refine G_S (pc := 30) f_273_30 rfl rfl rfl ?_
      refine G_CS (pc := 31) f_273_31 rfl rfl (by decide) rfl rfl ⟨Nat.le_of_ble_eq_true rfl, Nat.le_of_ble_eq_true rfl⟩ ?_
      refine CG.go (m_leastOf (by omega) (by omega)) ?_
      refine G_S (pc := 34) f_273_34 rfl rfl rfl ?_
      refine G_S (pc := 35) f_273_35 rfl rfl rfl ?_
      refine G_ic (v := nI 1) (pc := 36) f_273_36 (by decide) ?_
      refine G_S (pc := 37) f_273_37 rfl rfl rfl ?_
      first | refine G_shl1 (pc := 38) f_273_38 (by omega) ?_ | refine G_S (pc := 38) f_273_38 rfl rfl rfl ?_
      refine G_ic (v := zI (-1)) (pc := 39) f_273_39 (by decide) ?_
      first | refine G_xorN (pc := 40) f_273_40 ?_ | refine G_S (pc := 40) f_273_40 rfl rfl rfl ?_
      first | refine G_andN (pc := 41) f_273_41 ?_ | refine G_andnN (pc := 41) f_273_41 ?_ | refine G_S (pc := 41) f_273_41 rfl rfl rfl ?_
      refine G_S (pc := 42) f_273_42 rfl rfl rfl ?_
      refine G_S (pc := 44) f_273_44 rfl rfl rfl ?_
      refine G_ic (v := nI 1) (pc := 45) f_273_45 (by decide) ?_
      first | refine G_addN (pc := 46) f_273_46 ?_ | refine G_addZ (pc := 46) f_273_46 (by first | rfl | exact nI_zI _) (by first | rfl | exact nI_zI _) ?_ | refine G_S (pc := 46) f_273_46 rfl rfl rfl ?_
      refine G_S (pc := 47) f_273_47 rfl rfl rfl ?_
      have haD := ntz_2 (D 2) (by omega) p (by omega) (by omega) (by omega)
      have hF2 : Fo [117] M1 (M1.1, up2 M1.2.1 117 p (zI 1000000), M1.2.2.1, M1.2.2.2) := Fo.up (by decide)
      refine loop2 p (by omega) (by omega) M1 hF hT (fun M1 u3 u4 u5 u6 u7 a1 a2 a3 => ih (by omega) (by omega) M1 u3 u4 u5 u6 u7 a1 a2 a3) h118 (ntzF p + 1) (by omega) (Nat.le_refl _) _ _ _ hF2 (fun x hx => (by (try dsimp only); exact up2_o (by omega) (hT x hx))) ?_
      rw [cvM_lo _ (Nat.le_refl _)]
      exact (by (try dsimp only); exact up2_s)
  have hK := W.1
  refine CG_in (mL := 8) (hl := false) (lv := [some (.ref 98), some (.int (nI S)), none, none, none, none, none, none]) (ll := []) rfl rfl rfl ?_
  refine G_S (pc := 0) f_273_0 rfl rfl rfl ?_
  refine G_gR (pc := 1) f_273_1 (by decide) rfl (by first | assumption | exact hK.1 _ _ rfl) (by first | assumption | exact hK.2 _ _ _ rfl | (try dsimp only) <;> (repeat (first | exact up2_s | refine up2_o (by first | decide | omega) ?_)) <;> first | assumption | exact hK.2 _ _ _ rfl) ?_
  refine G_ic (v := nI 0) (pc := 4) f_273_4 (by decide) ?_
  refine G_ic (v := nI 0) (pc := 5) f_273_5 (by decide) ?_
  refine G_isN (pc := 6) f_273_6 (by first | assumption | exact hK.1 _ _ rfl) (by omega) (by omega) ?_
  refine G_S (pc := 7) f_273_7 rfl rfl rfl ?_
  refine G_gR (pc := 8) f_273_8 (by decide) rfl (by first | assumption | exact hK.1 _ _ rfl) (by first | assumption | exact hK.2 _ _ _ rfl | (try dsimp only) <;> (repeat (first | exact up2_s | refine up2_o (by first | decide | omega) ?_)) <;> first | assumption | exact hK.2 _ _ _ rfl) ?_
  refine G_ic (v := nI 0) (pc := 11) f_273_11 (by decide) ?_
  refine G_ic (v := nI 1) (pc := 12) f_273_12 (by decide) ?_
  refine G_isN (pc := 13) f_273_13 (by first | assumption | exact hK.1 _ _ rfl) (by omega) (by omega) ?_
  refine G_ic (v := nI 1) (pc := 14) f_273_14 (by decide) ?_
  refine G_S (pc := 15) f_273_15 rfl rfl rfl ?_
  refine loop1 1 (by omega) (Nat.le_refl _) _ _ _ _ _ _ ((Fo.up (i := 117) (k := 0) (x := nI 0) (by decide)).tr (Fo.up (i := 118) (k := 0) (x := nI 1) (by decide))) (fun x hx => ?_) (by (try dsimp only); exact up2_s)
  rw [show x = 0 by omega]
  exact (by (try dsimp only); exact up2_o (by omega) (by (try dsimp only); exact up2_s))
theorem m_coup {t : Nat} (W : mH M l D) (ht : t ≤ 1000000) (hSD : S < 2 ^ D 2) (hone : M.2.1 118 0 = nI 1) : CG C 274 [.ref 98, .int (nI S), .int (nI t)] M (fun w M' => w = some (.int (nI (lwF D t S))) ∧ Fo CO M M') := by
  have hn2 : D 2 ≤ 8 := W.2.2.2.1.2.2.1
  have hS := pw2 hn2 hSD
  have keep : ∀ {N}, Fo CO M N → mH N l D := fun hF => W.fo hF (by decide) (by decide)
  have loop2 : ∀ p, p ≤ S → 0 < p → ∀ M0, Fo CO M M0 → (∀ x, x < p → M0.2.1 118 x = nI (lwF D t x)) → (∀ M1 u3 u4 u5 u6, Fo CO M M1 → (∀ x, x < p + 1 → M1.2.1 118 x = nI (lwF D t x)) → G C 274 (2, [some (.ref 98), some (.int (nI S)), some (.int (nI t)), some (.int (nI (p + 1))), u3, u4, u5, u6], [], [], M1) (fun w M' => w = some (.int (nI (lwF D t S))) ∧ Fo CO M M')) → ∀ r, r ≤ D 2 → ntzF p + 1 ≤ r → ∀ M1 u6, Fo [118] M0 M1 → (∀ x, x < p → M1.2.1 118 x = nI (lwF D t x)) → M1.2.1 118 p = nI (wyM D t (lwF D t) p (ntzF p) r) → G C 274 (36, [some (.ref 98), some (.int (nI S)), some (.int (nI t)), some (.int (nI p)), some (.int (nI (ntzF p))), some (.int (nI ((cl p (ntzF p))))), some (.int (nI r)), u6], [], [], M1) (fun w M' => w = some (.int (nI (lwF D t S))) ∧ Fo CO M M') := by
    intro p hpS h0 M0 hF0 hT0 K
    have hp : p < 256 := by omega
    have ha := ntz_lt p
    have hb := ntz_bit p hp h0
    have hc1 := cl_le p hp (ntzF p) ha
    refine upto (fun r hr ih hra M1 u6 hF1 hT hv => ?_)
    have hFM : Fo CO M M1 := hF0.tr (hF1.sub (by decide))
    have W1 := keep hFM
    have hK := W1.1
    have hH := W1.2
    obtain ⟨⟨a0, a1, a2, a3⟩, hl8, hD, ao⟩ := W1.2
    have hn0 : _ ≤ 8 := hD.1
    have hn1 : _ ≤ 6 := hD.2.1.2
    have hn2 : _ ≤ 8 := hD.2.2.1
    have hx : r < D 2 → (cl p (ntzF p)).testBit r = true → p.testBit r = true ∧ cl (cl p (ntzF p)) r < 256 ∧ M1.2.1 118 (cl (cl p (ntzF p)) r) = nI (lwF D t (cl (cl p (ntzF p)) r)) ∧ D (19 + ntzF p) ≤ 60 ∧ D (19 + r) ≤ 60 := by
      intro q hbr
      have hbr' : p.testBit r = true := by
        rw [← cl_bit p hp (ntzF p) ha r (by omega) (by omega)]
        exact hbr
      have hc := cl2 hp ha (by omega) hb hbr' (by omega)
      exact ⟨hbr', hc.2.1, hT _ hc.1, hD.2.2.2.2.2.1 _ ha, hD.2.2.2.2.2.1 _ (by omega)⟩
    have es : wyM D t (lwF D t) p (ntzF p) (r + 1) = if (ntzF p < r ∧ p.testBit r = true) ∧ hf D (ntzF p) r ≤ t then wyM D t (lwF D t) p (ntzF p) r + lwF D t (cl (cl p (ntzF p)) r) else wyM D t (lwF D t) p (ntzF p) r := rfl
    have ehf : hf D (ntzF p) r = (D (19 + ntzF p) + D (19 + r) + 1) / 2 := rfl
    have nxt : ∀ (v : Int32) (u6 : Option Value), r < D 2 → v = nI (wyM D t (lwF D t) p (ntzF p) (r + 1)) → G C 274 (36, [some (.ref 98), some (.int (nI S)), some (.int (nI t)), some (.int (nI p)), some (.int (nI (ntzF p))), some (.int (nI ((cl p (ntzF p))))), some (.int (nI (r + 1))), u6], [], [], (M1.1, up2 M1.2.1 118 p v, M1.2.2.1, M1.2.2.2)) (fun w M' => w = some (.int (nI (lwF D t S))) ∧ Fo CO M M') := by
      intro v u6 hr2 hv2
      subst hv2
      exact ih hr2 (by omega) _ _ (hF1.tr (Fo.up (i := 118) (k := p) (by decide))) (fun x hx => (by (try dsimp only); exact up2_o (by omega) (hT x hx))) (by (try dsimp only); exact up2_s)
    refine G_S (pc := 36) f_274_36 rfl rfl rfl ?_
    refine G_S (pc := 38) f_274_38 rfl rfl rfl ?_
    refine G_gIv (pc := 39) f_274_39 (by decide) rfl (by decide) (by first | assumption | exact hK.1 _ _ rfl) (by first | assumption | exact mI_s | ((refine mI_o (by first | decide | omega) ?_); (repeat (refine mI_o (by first | decide | omega) ?_)); first | exact mI_s | assumption) | rfl) ?_
    refine G_jgeZ (pc := 42) f_274_42 rfl (by first | exact nI_toInt (by omega) | exact zI_toInt (by omega) (by omega) | rfl) (by first | exact nI_toInt (by omega) | exact zI_toInt (by omega) (by omega) | rfl) (fun b2 => ?_) (fun b2 => ?_)
    · first | refine G_inc1 (pc := 127) f_274_127 rfl ?_ | refine G_S (pc := 127) f_274_127 rfl rfl rfl ?_
      refine G_S (pc := 130) f_274_130 rfl rfl rfl ?_
      have e : r = D 2 := by omega
      subst e
      refine K M1 _ _ _ _ hFM (fun x hx => ?_)
      by_cases e : x = p
      · subst e
        rw [hv, lwF_eq hp h0 hn2]
      · exact hT x (by omega)
    · refine G_S (pc := 45) f_274_45 rfl rfl rfl ?_
      refine G_S (pc := 47) f_274_47 rfl rfl rfl ?_
      refine G_CS (pc := 49) f_274_49 rfl rfl (by decide) rfl rfl ⟨Nat.le_of_ble_eq_true rfl, Nat.le_of_ble_eq_true rfl⟩ ?_
      refine CG.go (m_hasN (by omega) (by omega)) ?_
      first | refine G_bEq (pc := 52) f_274_52 rfl (fun b3 => ?_) (fun b3 => ?_) | refine G_zeqZ (pc := 52) f_274_52 rfl (by first | exact nI_toInt (by omega) | exact zI_toInt (by omega) (by omega) | rfl) (fun b3 => ?_) (fun b3 => ?_)
      · refine G_ic (v := nI 0) (pc := 86) f_274_86 (by decide) ?_
        refine G_S (pc := 87) f_274_87 rfl rfl rfl ?_
        refine G_S (pc := 89) f_274_89 rfl rfl rfl ?_
        refine G_gR (pc := 90) f_274_90 (by decide) rfl (by first | assumption | exact hK.1 _ _ rfl) (by first | assumption | exact hK.2 _ _ _ rfl | (try dsimp only) <;> (repeat (first | exact up2_s | refine up2_o (by first | decide | omega) ?_)) <;> first | assumption | exact hK.2 _ _ _ rfl) ?_
        refine G_S (pc := 93) f_274_93 rfl rfl rfl ?_
        refine G_S (pc := 94) f_274_94 rfl rfl rfl ?_
        refine G_iaN (pc := 95) f_274_95 (by first | assumption | exact hK.1 _ _ rfl) (by omega) (by omega) (by first | exact hv | rfl) ?_
        refine G_S (pc := 96) f_274_96 rfl rfl rfl ?_
        refine G_S (pc := 98) f_274_98 rfl rfl rfl ?_
        refine G_ic (v := nI 0) (pc := 118) f_274_118 (by decide) ?_
        first | refine G_addN (pc := 119) f_274_119 ?_ | refine G_addZ (pc := 119) f_274_119 (by first | rfl | exact nI_zI _) (by first | rfl | exact nI_zI _) ?_ | refine G_S (pc := 119) f_274_119 rfl rfl rfl ?_
        refine G_isN (pc := 120) f_274_120 (by first | assumption | exact hK.1 _ _ rfl) (by omega) (by omega) ?_
        first | refine G_inc1 (pc := 121) f_274_121 rfl ?_ | refine G_S (pc := 121) f_274_121 rfl rfl rfl ?_
        refine G_S (pc := 124) f_274_124 rfl rfl rfl ?_
        first
          | (refine nxt _ _ (by omega) ?_
             rw [es, if_neg (fun z => b3 (by rw [cl_bit p hp (ntzF p) ha r (by omega) (by omega)]; exact z.1.2))]
             rfl)
          | (refine nxt _ _ (by omega) ?_
             rw [es, if_pos ⟨⟨by omega, x0⟩, by omega⟩])
          | (refine nxt _ _ (by omega) ?_
             rw [es, if_neg (fun z => absurd z.2 (by omega))]
             rfl)
      · obtain ⟨x0, x1, x2, x4, x5⟩ := hx (by omega) b3
        refine G_S (pc := 55) f_274_55 rfl rfl rfl ?_
        refine G_bi (v := nI 19) (pc := 56) f_274_56 (by decide) ?_
        refine G_S (pc := 58) f_274_58 rfl rfl rfl ?_
        first | refine G_addN (pc := 60) f_274_60 ?_ | refine G_addZ (pc := 60) f_274_60 (by first | rfl | exact nI_zI _) (by first | rfl | exact nI_zI _) ?_ | refine G_S (pc := 60) f_274_60 rfl rfl rfl ?_
        refine G_CV (pc := 61) f_274_61 rfl rfl (by decide) rfl rfl (by first | assumption | exact hK.1 _ _ rfl) (by decide) ⟨Nat.le_of_ble_eq_true rfl, Nat.le_of_ble_eq_true rfl⟩ ?_
        refine CG.go (m_ofD hK hH (by omega)) ?_
        refine G_S (pc := 64) f_274_64 rfl rfl rfl ?_
        refine G_bi (v := nI 19) (pc := 65) f_274_65 (by decide) ?_
        refine G_S (pc := 67) f_274_67 rfl rfl rfl ?_
        first | refine G_addN (pc := 69) f_274_69 ?_ | refine G_addZ (pc := 69) f_274_69 (by first | rfl | exact nI_zI _) (by first | rfl | exact nI_zI _) ?_ | refine G_S (pc := 69) f_274_69 rfl rfl rfl ?_
        refine G_CV (pc := 70) f_274_70 rfl rfl (by decide) rfl rfl (by first | assumption | exact hK.1 _ _ rfl) (by decide) ⟨Nat.le_of_ble_eq_true rfl, Nat.le_of_ble_eq_true rfl⟩ ?_
        refine CG.go (m_ofD hK hH (by omega)) ?_
        first | refine G_addN (pc := 73) f_274_73 ?_ | refine G_addZ (pc := 73) f_274_73 (by first | rfl | exact nI_zI _) (by first | rfl | exact nI_zI _) ?_ | refine G_S (pc := 73) f_274_73 rfl rfl rfl ?_
        refine G_ic (v := nI 1) (pc := 74) f_274_74 (by decide) ?_
        first | refine G_addN (pc := 75) f_274_75 ?_ | refine G_addZ (pc := 75) f_274_75 (by first | rfl | exact nI_zI _) (by first | rfl | exact nI_zI _) ?_ | refine G_S (pc := 75) f_274_75 rfl rfl rfl ?_
        refine G_ic (v := nI 2) (pc := 76) f_274_76 (by decide) ?_
        refine G_divN (pc := 77) f_274_77 (by omega) (by omega) (by omega) ?_
        refine G_S (pc := 78) f_274_78 rfl rfl rfl ?_
        refine G_jgtZ (pc := 79) f_274_79 rfl (by first | exact nI_toInt (by omega) | exact zI_toInt (by omega) (by omega) | rfl) (by first | exact nI_toInt (by omega) | exact zI_toInt (by omega) (by omega) | rfl) (fun b4 => ?_) (fun b4 => ?_)
        · refine G_ic (v := nI 0) (pc := 86) f_274_86 (by decide) ?_
          refine G_S (pc := 87) f_274_87 rfl rfl rfl ?_
          refine G_S (pc := 89) f_274_89 rfl rfl rfl ?_
          refine G_gR (pc := 90) f_274_90 (by decide) rfl (by first | assumption | exact hK.1 _ _ rfl) (by first | assumption | exact hK.2 _ _ _ rfl | (try dsimp only) <;> (repeat (first | exact up2_s | refine up2_o (by first | decide | omega) ?_)) <;> first | assumption | exact hK.2 _ _ _ rfl) ?_
          refine G_S (pc := 93) f_274_93 rfl rfl rfl ?_
          refine G_S (pc := 94) f_274_94 rfl rfl rfl ?_
          refine G_iaN (pc := 95) f_274_95 (by first | assumption | exact hK.1 _ _ rfl) (by omega) (by omega) (by first | exact hv | rfl) ?_
          refine G_S (pc := 96) f_274_96 rfl rfl rfl ?_
          refine G_S (pc := 98) f_274_98 rfl rfl rfl ?_
          refine G_ic (v := nI 0) (pc := 118) f_274_118 (by decide) ?_
          first | refine G_addN (pc := 119) f_274_119 ?_ | refine G_addZ (pc := 119) f_274_119 (by first | rfl | exact nI_zI _) (by first | rfl | exact nI_zI _) ?_ | refine G_S (pc := 119) f_274_119 rfl rfl rfl ?_
          refine G_isN (pc := 120) f_274_120 (by first | assumption | exact hK.1 _ _ rfl) (by omega) (by omega) ?_
          first | refine G_inc1 (pc := 121) f_274_121 rfl ?_ | refine G_S (pc := 121) f_274_121 rfl rfl rfl ?_
          refine G_S (pc := 124) f_274_124 rfl rfl rfl ?_
          first
            | (refine nxt _ _ (by omega) ?_
               rw [es, if_neg (fun z => b3 (by rw [cl_bit p hp (ntzF p) ha r (by omega) (by omega)]; exact z.1.2))]
               rfl)
            | (refine nxt _ _ (by omega) ?_
               rw [es, if_pos ⟨⟨by omega, x0⟩, by omega⟩])
            | (refine nxt _ _ (by omega) ?_
               rw [es, if_neg (fun z => absurd z.2 (by omega))]
               rfl)
        · refine G_ic (v := nI 1) (pc := 82) f_274_82 (by decide) ?_
          refine G_S (pc := 83) f_274_83 rfl rfl rfl ?_
          refine G_S (pc := 87) f_274_87 rfl rfl rfl ?_
          refine G_S (pc := 89) f_274_89 rfl rfl rfl ?_
          refine G_gR (pc := 90) f_274_90 (by decide) rfl (by first | assumption | exact hK.1 _ _ rfl) (by first | assumption | exact hK.2 _ _ _ rfl | (try dsimp only) <;> (repeat (first | exact up2_s | refine up2_o (by first | decide | omega) ?_)) <;> first | assumption | exact hK.2 _ _ _ rfl) ?_
          refine G_S (pc := 93) f_274_93 rfl rfl rfl ?_
          refine G_S (pc := 94) f_274_94 rfl rfl rfl ?_
          refine G_iaN (pc := 95) f_274_95 (by first | assumption | exact hK.1 _ _ rfl) (by omega) (by omega) (by first | exact hv | rfl) ?_
          refine G_S (pc := 96) f_274_96 rfl rfl rfl ?_
          refine G_S (pc := 98) f_274_98 rfl rfl rfl ?_
          refine G_S (pc := 101) f_274_101 rfl rfl rfl ?_
          refine G_gR (pc := 102) f_274_102 (by decide) rfl (by first | assumption | exact hK.1 _ _ rfl) (by first | assumption | exact hK.2 _ _ _ rfl | (try dsimp only) <;> (repeat (first | exact up2_s | refine up2_o (by first | decide | omega) ?_)) <;> first | assumption | exact hK.2 _ _ _ rfl) ?_
          refine G_S (pc := 105) f_274_105 rfl rfl rfl ?_
          refine G_ic (v := nI 1) (pc := 107) f_274_107 (by decide) ?_
          refine G_S (pc := 108) f_274_108 rfl rfl rfl ?_
          first | refine G_shl1 (pc := 110) f_274_110 (by omega) ?_ | refine G_S (pc := 110) f_274_110 rfl rfl rfl ?_
          refine G_ic (v := zI (-1)) (pc := 111) f_274_111 (by decide) ?_
          first | refine G_xorN (pc := 112) f_274_112 ?_ | refine G_S (pc := 112) f_274_112 rfl rfl rfl ?_
          first | refine G_andN (pc := 113) f_274_113 ?_ | refine G_andnN (pc := 113) f_274_113 ?_ | refine G_S (pc := 113) f_274_113 rfl rfl rfl ?_
          refine G_iaN (pc := 114) f_274_114 (by first | assumption | exact hK.1 _ _ rfl) x1 (by omega) (by first | exact x2 | rfl) ?_
          refine G_S (pc := 115) f_274_115 rfl rfl rfl ?_
          first | refine G_addN (pc := 119) f_274_119 ?_ | refine G_addZ (pc := 119) f_274_119 (by first | rfl | exact nI_zI _) (by first | rfl | exact nI_zI _) ?_ | refine G_S (pc := 119) f_274_119 rfl rfl rfl ?_
          refine G_isN (pc := 120) f_274_120 (by first | assumption | exact hK.1 _ _ rfl) (by omega) (by omega) ?_
          first | refine G_inc1 (pc := 121) f_274_121 rfl ?_ | refine G_S (pc := 121) f_274_121 rfl rfl rfl ?_
          refine G_S (pc := 124) f_274_124 rfl rfl rfl ?_
          first
            | (refine nxt _ _ (by omega) ?_
               rw [es, if_neg (fun z => b3 (by rw [cl_bit p hp (ntzF p) ha r (by omega) (by omega)]; exact z.1.2))]
               rfl)
            | (refine nxt _ _ (by omega) ?_
               rw [es, if_pos ⟨⟨by omega, x0⟩, by omega⟩])
            | (refine nxt _ _ (by omega) ?_
               rw [es, if_neg (fun z => absurd z.2 (by omega))]
               rfl)
  have loop1 : ∀ p, p ≤ S + 1 → 1 ≤ p → ∀ M1 u3 u4 u5 u6, Fo CO M M1 → (∀ x, x < p → M1.2.1 118 x = nI (lwF D t x)) → G C 274 (2, [some (.ref 98), some (.int (nI S)), some (.int (nI t)), some (.int (nI p)), u3, u4, u5, u6], [], [], M1) (fun w M' => w = some (.int (nI (lwF D t S))) ∧ Fo CO M M') := by
    refine upto (fun p hp ih hp1 M1 u3 u4 u5 u6 hF hT => ?_)
    have hK := hF.K W.1
    have ha := ntz_lt p
    have hfin : S < p → M1.2.1 118 S = nI (lwF D t S) := fun q => hT S q
    refine G_S (pc := 2) f_274_2 rfl rfl rfl ?_
    refine G_S (pc := 3) f_274_3 rfl rfl rfl ?_
    refine G_jgtZ (pc := 4) f_274_4 rfl (by first | exact nI_toInt (by omega) | exact zI_toInt (by omega) (by omega) | rfl) (by first | exact nI_toInt (by omega) | exact zI_toInt (by omega) (by omega) | rfl) (fun b1 => ?_) (fun b1 => ?_)
    · have hfin := hfin (by omega)
      refine G_S (pc := 133) f_274_133 rfl rfl rfl ?_
      refine G_gR (pc := 134) f_274_134 (by decide) rfl (by first | assumption | exact hK.1 _ _ rfl) (by first | assumption | exact hK.2 _ _ _ rfl | (try dsimp only) <;> (repeat (first | exact up2_s | refine up2_o (by first | decide | omega) ?_)) <;> first | assumption | exact hK.2 _ _ _ rfl) ?_
      refine G_S (pc := 137) f_274_137 rfl rfl rfl ?_
      refine G_iaN (pc := 138) f_274_138 (by first | assumption | exact hK.1 _ _ rfl) (by omega) (by omega) (by first | exact hfin | rfl) ?_
      refine G_ri (pc := 139) f_274_139 ?_
      exact ⟨rfl, hF⟩
    · refine G_S (pc := 7) f_274_7 rfl rfl rfl ?_
      refine G_gR (pc := 8) f_274_8 (by decide) rfl (by first | assumption | exact hK.1 _ _ rfl) (by first | assumption | exact hK.2 _ _ _ rfl | (try dsimp only) <;> (repeat (first | exact up2_s | refine up2_o (by first | decide | omega) ?_)) <;> first | assumption | exact hK.2 _ _ _ rfl) ?_
      refine G_S (pc := 11) f_274_11 rfl rfl rfl ?_
      refine G_ic (v := nI 0) (pc := 12) f_274_12 (by decide) ?_
      refine G_isN (pc := 13) f_274_13 (by first | assumption | exact hK.1 _ _ rfl) (by omega) (by omega) ?_
      refine G_S (pc := 14) f_274_14 rfl rfl rfl ?_
      refine G_CS (pc := 15) f_274_15 rfl rfl (by decide) rfl rfl ⟨Nat.le_of_ble_eq_true rfl, Nat.le_of_ble_eq_true rfl⟩ ?_
      refine CG.go (m_leastOf (by omega) (by omega)) ?_
      refine G_S (pc := 18) f_274_18 rfl rfl rfl ?_
      refine G_S (pc := 20) f_274_20 rfl rfl rfl ?_
      refine G_ic (v := nI 1) (pc := 21) f_274_21 (by decide) ?_
      refine G_S (pc := 22) f_274_22 rfl rfl rfl ?_
      first | refine G_shl1 (pc := 24) f_274_24 (by omega) ?_ | refine G_S (pc := 24) f_274_24 rfl rfl rfl ?_
      refine G_ic (v := zI (-1)) (pc := 25) f_274_25 (by decide) ?_
      first | refine G_xorN (pc := 26) f_274_26 ?_ | refine G_S (pc := 26) f_274_26 rfl rfl rfl ?_
      first | refine G_andN (pc := 27) f_274_27 ?_ | refine G_andnN (pc := 27) f_274_27 ?_ | refine G_S (pc := 27) f_274_27 rfl rfl rfl ?_
      refine G_S (pc := 28) f_274_28 rfl rfl rfl ?_
      refine G_S (pc := 30) f_274_30 rfl rfl rfl ?_
      refine G_ic (v := nI 1) (pc := 32) f_274_32 (by decide) ?_
      first | refine G_addN (pc := 33) f_274_33 ?_ | refine G_addZ (pc := 33) f_274_33 (by first | rfl | exact nI_zI _) (by first | rfl | exact nI_zI _) ?_ | refine G_S (pc := 33) f_274_33 rfl rfl rfl ?_
      refine G_S (pc := 34) f_274_34 rfl rfl rfl ?_
      have haD := ntz_2 (D 2) (by omega) p (by omega) (by omega) (by omega)
      have hF2 : Fo [118] M1 (M1.1, up2 M1.2.1 118 p (nI 0), M1.2.2.1, M1.2.2.2) := Fo.up (by decide)
      refine loop2 p (by omega) (by omega) M1 hF hT (fun M1 u3 u4 u5 u6 a1 a2 => ih (by omega) (by omega) M1 u3 u4 u5 u6 a1 a2) (ntzF p + 1) (by omega) (Nat.le_refl _) _ _ hF2 (fun x hx => (by (try dsimp only); exact up2_o (by omega) (hT x hx))) ?_
      rw [wyM_lo _ (Nat.le_refl _)]
      exact (by (try dsimp only); exact up2_s)
  have hK := W.1
  refine CG_in (mL := 8) (hl := false) (lv := [some (.ref 98), some (.int (nI S)), some (.int (nI t)), none, none, none, none, none]) (ll := []) rfl rfl rfl ?_
  refine G_ic (v := nI 1) (pc := 0) f_274_0 (by decide) ?_
  refine G_S (pc := 1) f_274_1 rfl rfl rfl ?_
  refine loop1 1 (by omega) (Nat.le_refl _) M _ _ _ _ Fo.rf (fun x hx => ?_)
  rw [show x = 0 by omega]
  exact hone
theorem g_couples (W : MLs M n L) : CG C 275 [.ref 98, .int k, .int x, .int y] M (fun w M' => w = some (.int (aLin (lin n L k) (zI (-1)) (fun D => cplF D x y))) ∧ mQ M M') := by
  have hK := W.1
  have coq : ∀ i, i ∈ CO → i = 98 ∨ (108 ≤ i ∧ i ≤ 129) := by decide
  cases hl : lin n L k with
  | none =>
    refine CG_in (mL := 4) (hl := false) (lv := [some (.ref 98), some (.int k), some (.int x), some (.int y)]) (ll := []) rfl rfl rfl ?_
    refine G_S (pc := 0) f_275_0 rfl rfl rfl ?_
    refine G_ic (v := nI 0) (pc := 1) f_275_1 (by decide) ?_
    refine G_pI (pc := 2) f_275_2 rfl (by first | assumption | exact hK.1 _ _ rfl) ?_
    refine G_S (pc := 5) f_275_5 rfl rfl rfl ?_
    refine G_S (pc := 6) f_275_6 rfl rfl rfl ?_
    refine G_CV (pc := 7) f_275_7 rfl rfl (by decide) rfl rfl (by first | assumption | exact hK.1 _ _ rfl) (by decide) ⟨Nat.le_of_ble_eq_true rfl, Nat.le_of_ble_eq_true rfl⟩ ?_
    refine CG.go (g_handN (W.q mQ.cod) hl) ?_
    first | refine G_bEq (pc := 10) f_275_10 rfl (fun b1 => ?_) (fun b1 => ?_) | refine G_zeqZ (pc := 10) f_275_10 rfl (by first | exact nI_toInt (by omega) | exact zI_toInt (by omega) (by omega) | rfl) (fun b1 => ?_) (fun b1 => ?_)
    · refine G_ic (v := zI (-1)) (pc := 35) f_275_35 (by decide) ?_
      refine G_ri (pc := 36) f_275_36 ?_
      exact ⟨rfl, mQ.cod⟩
    · exact absurd b1 id
  | some D =>
    show CG C 275 [.ref 98, .int k, .int x, .int y] M (fun w M' => w = some (.int (cplF D x y)) ∧ mQ M M')
    cases hx : isS D x with
    | none =>
      have e0 : cplF D x y = zI (-1) := by
        unfold cplF
        rw [hx]
      rw [e0]
      refine CG_in (mL := 4) (hl := false) (lv := [some (.ref 98), some (.int k), some (.int x), some (.int y)]) (ll := []) rfl rfl rfl ?_
      refine G_S (pc := 0) f_275_0 rfl rfl rfl ?_
      refine G_ic (v := nI 0) (pc := 1) f_275_1 (by decide) ?_
      refine G_pI (pc := 2) f_275_2 rfl (by first | assumption | exact hK.1 _ _ rfl) ?_
      refine G_S (pc := 5) f_275_5 rfl rfl rfl ?_
      refine G_S (pc := 6) f_275_6 rfl rfl rfl ?_
      refine G_CV (pc := 7) f_275_7 rfl rfl (by decide) rfl rfl (by first | assumption | exact hK.1 _ _ rfl) (by decide) ⟨Nat.le_of_ble_eq_true rfl, Nat.le_of_ble_eq_true rfl⟩ ?_
      refine CG.mono (g_handS (W.q mQ.cod) hl) ?_
      rintro _ M1 ⟨rfl, hQ, l, W1⟩
      have hK := W1.1
      have hH := W1.2
      obtain ⟨⟨a0, a1, a2, a3⟩, hl8, hD, ao⟩ := W1.2
      have hn0 : _ ≤ 8 := hD.1
      have hn1 : _ ≤ 6 := hD.2.1.2
      have hn2 : _ ≤ 8 := hD.2.2.1
      have hQ := mQ.cod.tr hQ
      first | refine G_bEq (pc := 10) f_275_10 rfl (fun b1 => ?_) (fun b1 => ?_) | refine G_zeqZ (pc := 10) f_275_10 rfl (by first | exact nI_toInt (by omega) | exact zI_toInt (by omega) (by omega) | rfl) (fun b1 => ?_) (fun b1 => ?_)
      · exact absurd trivial b1
      · refine G_S (pc := 13) f_275_13 rfl rfl rfl ?_
        refine G_S (pc := 14) f_275_14 rfl rfl rfl ?_
        refine G_CV (pc := 15) f_275_15 rfl rfl (by decide) rfl rfl (by first | assumption | exact hK.1 _ _ rfl) (by decide) ⟨Nat.le_of_ble_eq_true rfl, Nat.le_of_ble_eq_true rfl⟩ ?_
        refine CG.go (g_isSet W1) ?_
        first | refine G_bEq (pc := 18) f_275_18 rfl (fun b2 => ?_) (fun b2 => ?_) | refine G_zeqZ (pc := 18) f_275_18 rfl (by first | exact nI_toInt (by omega) | exact zI_toInt (by omega) (by omega) | rfl) (fun b2 => ?_) (fun b2 => ?_)
        · refine G_ic (v := zI (-1)) (pc := 35) f_275_35 (by decide) ?_
          refine G_ri (pc := 36) f_275_36 ?_
          exact ⟨rfl, hQ⟩
        · rw [hx] at b2
          cases b2
    | some S =>
      obtain ⟨hSD, rfl⟩ := isS_some hx
      have e0 : cplF D (nI S) y = if S = 0 ∨ pc8 S % 2 = 1 then zI (-1) else if y = 0 then nI (lcF D S) else nI (lwF D (lcF D S) S) := by
        unfold cplF
        rw [hx]
      rw [e0]
      refine CG_in (mL := 4) (hl := false) (lv := [some (.ref 98), some (.int k), some (.int (nI S)), some (.int y)]) (ll := []) rfl rfl rfl ?_
      refine G_S (pc := 0) f_275_0 rfl rfl rfl ?_
      refine G_ic (v := nI 0) (pc := 1) f_275_1 (by decide) ?_
      refine G_pI (pc := 2) f_275_2 rfl (by first | assumption | exact hK.1 _ _ rfl) ?_
      refine G_S (pc := 5) f_275_5 rfl rfl rfl ?_
      refine G_S (pc := 6) f_275_6 rfl rfl rfl ?_
      refine G_CV (pc := 7) f_275_7 rfl rfl (by decide) rfl rfl (by first | assumption | exact hK.1 _ _ rfl) (by decide) ⟨Nat.le_of_ble_eq_true rfl, Nat.le_of_ble_eq_true rfl⟩ ?_
      refine CG.mono (g_handS (W.q mQ.cod) hl) ?_
      rintro _ M1 ⟨rfl, hQ, l, W1⟩
      have hK := W1.1
      have hH := W1.2
      obtain ⟨⟨a0, a1, a2, a3⟩, hl8, hD, ao⟩ := W1.2
      have hn0 : _ ≤ 8 := hD.1
      have hn1 : _ ≤ 6 := hD.2.1.2
      have hn2 : _ ≤ 8 := hD.2.2.1
      have hQ := mQ.cod.tr hQ
      have hS8 := pw2 hn2 hSD
      have hpc := pc8_le S hS8
      first | refine G_bEq (pc := 10) f_275_10 rfl (fun b1 => ?_) (fun b1 => ?_) | refine G_zeqZ (pc := 10) f_275_10 rfl (by first | exact nI_toInt (by omega) | exact zI_toInt (by omega) (by omega) | rfl) (fun b1 => ?_) (fun b1 => ?_)
      · exact absurd trivial b1
      · refine G_S (pc := 13) f_275_13 rfl rfl rfl ?_
        refine G_S (pc := 14) f_275_14 rfl rfl rfl ?_
        refine G_CV (pc := 15) f_275_15 rfl rfl (by decide) rfl rfl (by first | assumption | exact hK.1 _ _ rfl) (by decide) ⟨Nat.le_of_ble_eq_true rfl, Nat.le_of_ble_eq_true rfl⟩ ?_
        refine CG.go (g_isSet W1) ?_
        first | refine G_bEq (pc := 18) f_275_18 rfl (fun b2 => ?_) (fun b2 => ?_) | refine G_zeqZ (pc := 18) f_275_18 rfl (by first | exact nI_toInt (by omega) | exact zI_toInt (by omega) (by omega) | rfl) (fun b2 => ?_) (fun b2 => ?_)
        · rw [hx] at b2
          exact absurd rfl b2
        · refine G_S (pc := 21) f_275_21 rfl rfl rfl ?_
          first | refine G_bEq (pc := 22) f_275_22 rfl (fun b3 => ?_) (fun b3 => ?_) | refine G_zeqZ (pc := 22) f_275_22 rfl (by first | exact nI_toInt (by omega) | exact zI_toInt (by omega) (by omega) | rfl) (fun b3 => ?_) (fun b3 => ?_)
          · refine G_ic (v := zI (-1)) (pc := 35) f_275_35 (by decide) ?_
            refine G_ri (pc := 36) f_275_36 ?_
            first
              | exact ⟨by rw [if_pos (by omega)], hQ⟩
              | exact ⟨by rw [if_neg (by omega), if_pos b5], hQ2⟩
              | exact ⟨by rw [if_neg (by omega), if_neg b5], hQ3⟩
          · refine G_S (pc := 25) f_275_25 rfl rfl rfl ?_
            refine G_CS (pc := 26) f_275_26 rfl rfl (by decide) rfl rfl ⟨Nat.le_of_ble_eq_true rfl, Nat.le_of_ble_eq_true rfl⟩ ?_
            refine CG.go (m_onesN hS8) ?_
            refine G_ic (v := nI 2) (pc := 29) f_275_29 (by decide) ?_
            refine G_remN (pc := 30) f_275_30 (by omega) (by omega) (by omega) ?_
            refine G_ic (v := nI 1) (pc := 31) f_275_31 (by decide) ?_
            refine G_jneZ (pc := 32) f_275_32 rfl (by first | exact nI_toInt (by omega) | exact zI_toInt (by omega) (by omega) | rfl) (by first | exact nI_toInt (by omega) | exact zI_toInt (by omega) (by omega) | rfl) (fun b4 => ?_) (fun b4 => ?_)
            · refine G_S (pc := 37) f_275_37 rfl rfl rfl ?_
              refine G_S (pc := 38) f_275_38 rfl rfl rfl ?_
              refine G_CV (pc := 39) f_275_39 rfl rfl (by decide) rfl rfl (by first | assumption | exact hK.1 _ _ rfl) (by decide) ⟨Nat.le_of_ble_eq_true rfl, Nat.le_of_ble_eq_true rfl⟩ ?_
              refine CG.mono (m_find W1 hSD) ?_
              rintro _ M2 ⟨rfl, hF, hT, h118⟩
              have hK := hF.K hK
              have W2 : mH M2 l D := W1.fo hF (by decide) (by decide)
              have hQ2 := hQ.tr (hF.q coq)
              have hfin := hT S (Nat.le_refl _)
              have hle := lcF_le hS8 hn2
              refine G_S (pc := 42) f_275_42 rfl rfl rfl ?_
              refine G_zeq (pc := 43) f_275_43 rfl (fun b5 => ?_) (fun b5 => ?_)
              · refine G_S (pc := 60) f_275_60 rfl rfl rfl ?_
                refine G_gR (pc := 61) f_275_61 (by decide) rfl (by first | assumption | exact hK.1 _ _ rfl) (by first | assumption | exact hK.2 _ _ _ rfl | (try dsimp only) <;> (repeat (first | exact up2_s | refine up2_o (by first | decide | omega) ?_)) <;> first | assumption | exact hK.2 _ _ _ rfl) ?_
                refine G_S (pc := 64) f_275_64 rfl rfl rfl ?_
                refine G_iaN (pc := 65) f_275_65 (by first | assumption | exact hK.1 _ _ rfl) (by omega) (by omega) (by first | exact hfin | rfl) ?_
                refine G_ri (pc := 66) f_275_66 ?_
                first
                  | exact ⟨by rw [if_pos (by omega)], hQ⟩
                  | exact ⟨by rw [if_neg (by omega), if_pos b5], hQ2⟩
                  | exact ⟨by rw [if_neg (by omega), if_neg b5], hQ3⟩
              · refine G_S (pc := 46) f_275_46 rfl rfl rfl ?_
                refine G_S (pc := 47) f_275_47 rfl rfl rfl ?_
                refine G_S (pc := 48) f_275_48 rfl rfl rfl ?_
                refine G_gR (pc := 49) f_275_49 (by decide) rfl (by first | assumption | exact hK.1 _ _ rfl) (by first | assumption | exact hK.2 _ _ _ rfl | (try dsimp only) <;> (repeat (first | exact up2_s | refine up2_o (by first | decide | omega) ?_)) <;> first | assumption | exact hK.2 _ _ _ rfl) ?_
                refine G_S (pc := 52) f_275_52 rfl rfl rfl ?_
                refine G_iaN (pc := 53) f_275_53 (by first | assumption | exact hK.1 _ _ rfl) (by omega) (by omega) (by first | exact hfin | rfl) ?_
                refine G_CV (pc := 54) f_275_54 rfl rfl (by decide) rfl rfl (by first | assumption | exact hK.1 _ _ rfl) (by decide) ⟨Nat.le_of_ble_eq_true rfl, Nat.le_of_ble_eq_true rfl⟩ ?_
                refine CG.mono (m_coup W2 hle hSD h118) ?_
                rintro _ M3 ⟨rfl, hF3⟩
                have hQ3 := hQ2.tr (hF3.q coq)
                refine G_S (pc := 57) f_275_57 rfl rfl rfl ?_
                refine G_ri (pc := 66) f_275_66 ?_
                first
                  | exact ⟨by rw [if_pos (by omega)], hQ⟩
                  | exact ⟨by rw [if_neg (by omega), if_pos b5], hQ2⟩
                  | exact ⟨by rw [if_neg (by omega), if_neg b5], hQ3⟩
            · refine G_ic (v := zI (-1)) (pc := 35) f_275_35 (by decide) ?_
              refine G_ri (pc := 36) f_275_36 ?_
              first
                | exact ⟨by rw [if_pos (by omega)], hQ⟩
                | exact ⟨by rw [if_neg (by omega), if_pos b5], hQ2⟩
                | exact ⟨by rw [if_neg (by omega), if_neg b5], hQ3⟩
end CPM
