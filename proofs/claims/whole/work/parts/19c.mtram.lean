/-! the reference's tram: sharing -/
section MTS
variable {C : Ct} {M : Mm} {l k : Nat} {D : Nat → Nat} {S : Nat → Int} {b : Nat → Nat} {x y : Int32}
theorem zn_ {z : Int} {n : Nat} (h : z = (n : Int)) : zI z = nI n := by rw [h, nI_zI]
theorem nn_ {m n : Nat} (h : m = n) : nI m = nI n := by rw [h]
theorem up1_id {f : Nat → Nat} {u : Nat} : up1 f u (f u) = f := by
  funext r
  by_cases q : r = u
  · subst q
    exact up1_s
  · exact up1_o q rfl
theorem n_shares (W : TM M l D k S b) : CG C 241 [.ref 98] M (fun w M' => w = none ∧ Fm TO TFs M M' ∧ TM M' l D k S (shN S b (D 1 - 1))) := by
  have hO := W.2.2.2.2.2
  have hsl := shN_le (D := D) (S := S) (b := b) (fun r hr => (hO.2.2.2.2.2.1 r hr).2) hO.2.2.2.2.2.2
  have loop : ∀ i, i ≤ D 1 - 1 → ∀ M1 c d e f, Fm [110] [] M M1 → TM M1 l D k S (shN S b i) → G C 241 (2, [some (.ref 98), some (.int (nI i)), c, d, e, f], [], [], M1) (fun w M' => w = none ∧ Fm TO TFs M M' ∧ TM M' l D k S (shN S b (D 1 - 1))) := by
    refine upto (fun i hi ih M1 c d e f hF W1 => ?_)
    have hK := W1.1.1
    have hH := W1.1.2
    obtain ⟨⟨a0, a1, a2, a3⟩, hl8, hD, ao⟩ := W1.1.2
    have hn0 : _ ≤ 8 := hD.1
    have hn1 : _ ≤ 6 := hD.2.1.2
    have hn2 : _ ≤ 8 := hD.2.2.1
    obtain ⟨⟨s0, s1, s2, s3⟩, q1, q2, q3, hO⟩ := W1.2
    obtain ⟨o0, o1, o2, o3, o4, o5, o6⟩ := hO
    have hd1 := hD.2.1.1
    have fin : ∀ (u v x y : Nat) (vx vy : Int32), i + 1 < D 1 → u < D 2 → v < D 2 → S (30 + i) = (u : Int) → S (30 + (i + 1)) = (v : Int) → ∀ c d e f, vx = nI x → vy = nI y → evO (shN S b i) u v = up1 (up1 (shN S b i) u x) v y → G C 241 (2, [some (.ref 98), some (.int (nI (i + 1))), c, d, e, f], [], [], (M1.1, up2 (up2 M1.2.1 110 u vx) 110 v vy, M1.2.2.1, M1.2.2.2)) (fun w M' => w = none ∧ Fm TO TFs M M' ∧ TM M' l D k S (shN S b (D 1 - 1))) := by
      intro u v x y vx vy hi2 hu2 hv2 hu hv c d e f hvx hvy he
      subst hvx
      subst hvy
      have es : shN S b (i + 1) = up1 (up1 (shN S b i) u x) v y := by
        rw [shN, if_pos (by omega), hu, hv, Int.toNat_natCast, Int.toNat_natCast, he]
      have hF3 : Fm [110] [] M1 (M1.1, up2 (up2 M1.2.1 110 u (nI x)) 110 v (nI y), M1.2.2.1, M1.2.2.2) := (Fm.up (i := 110) (k := u) (x := nI x) (by decide) (by decide)).tr (Fm.up (i := 110) (k := v) (x := nI y) (by decide) (by decide))
      refine ih (by omega) _ c d e f (hF.tr hF3) (W1.oz hF3 (fun r hr => ?_) (hsl (i + 1) (by omega)))
      rw [es]
      by_cases e1 : r = v
      · subst e1
        rw [up1_s]
        exact (by (try dsimp only); exact up2_s)
      · rw [up1_o e1 rfl]
        by_cases e2 : r = u
        · subst e2
          rw [up1_s]
          exact (by (try dsimp only); exact up2_o (by omega) (by (try dsimp only); exact up2_s))
        · rw [up1_o e2 rfl]
          exact (by (try dsimp only); exact up2_o (by omega) (by (try dsimp only); exact up2_o (by omega) (q1 r hr)))
    by_cases hlast : i + 1 < D 1
    · have ha1 := o6 i (by omega)
      have ha2 := o6 (i + 1) (by omega)
      by_cases hb : S (30 + i) ≠ -1 ∧ S (30 + (i + 1)) ≠ -1
      · obtain ⟨u, hu⟩ : ∃ u : Nat, S (30 + i) = (u : Int) := ⟨(S (30 + i)).toNat, by omega⟩
        obtain ⟨v, hv⟩ : ∃ v : Nat, S (30 + (i + 1)) = (v : Int) := ⟨(S (30 + (i + 1))).toNat, by omega⟩
        have p1 : M1.2.1 112 i = nI u := by rw [q3 i (by omega), hu, nI_zI]
        have p2 : M1.2.1 112 (i + 1) = nI v := by rw [q3 (i + 1) (by omega), hv, nI_zI]
        have bu := hsl i (by omega) u (by omega)
        have bv := hsl i (by omega) v (by omega)
        have pu : M1.2.1 110 u = zI (shN S b i u) := by rw [q1 u (by omega), nI_zI]
        have pv : M1.2.1 110 v = zI (shN S b i v) := by rw [q1 v (by omega), nI_zI]
        have et : (zI ((shN S b i u : Int) - (shN S b i v : Int))).toInt = (shN S b i u : Int) - (shN S b i v : Int) := zI_toInt (by omega) (by omega)
        by_cases huv : u = v
        · subst huv
          have et : (zI ((shN S b i u : Int) - (shN S b i u : Int))).toInt = 0 := by rw [Int.sub_self]; rfl
          refine G_S (pc := 2) f_241_2 rfl rfl rfl ?_
          refine G_ic (v := nI 1) (pc := 3) f_241_3 (by decide) ?_
          first | refine G_addN (pc := 4) f_241_4 ?_ | refine G_addZ (pc := 4) f_241_4 (by first | rfl | exact nI_zI _) (by first | rfl | exact nI_zI _) ?_ | refine G_S (pc := 4) f_241_4 rfl rfl rfl ?_
          refine G_S (pc := 5) f_241_5 rfl rfl rfl ?_
          refine G_gIv (pc := 6) f_241_6 (by decide) rfl (by decide) (by first | assumption | exact hK.1 _ _ rfl) (by first | assumption | exact mI_s | ((refine mI_o (by first | decide | omega) ?_); (repeat (refine mI_o (by first | decide | omega) ?_)); first | exact mI_s | assumption) | rfl) ?_
          refine G_jgeZ (pc := 9) f_241_9 rfl (by first | exact nI_toInt (by omega) | exact zI_toInt (by omega) (by omega) | rfl) (by first | exact nI_toInt (by omega) | exact zI_toInt (by omega) (by omega) | rfl) (fun b1 => ?_) (fun b1 => ?_)
          · exfalso; omega
          · refine G_S (pc := 12) f_241_12 rfl rfl rfl ?_
            refine G_gR (pc := 13) f_241_13 (by decide) rfl (by first | assumption | exact hK.1 _ _ rfl) (by first | assumption | exact hK.2 _ _ _ rfl | (try dsimp only) <;> (repeat (first | exact up2_s | refine up2_o (by first | decide | omega) ?_)) <;> first | assumption | exact hK.2 _ _ _ rfl) ?_
            refine G_S (pc := 16) f_241_16 rfl rfl rfl ?_
            refine G_iaN (pc := 17) f_241_17 (by first | assumption | exact hK.1 _ _ rfl) (by omega) (by omega) (by first | exact p1 | rfl) ?_
            refine G_S (pc := 18) f_241_18 rfl rfl rfl ?_
            refine G_S (pc := 19) f_241_19 rfl rfl rfl ?_
            refine G_gR (pc := 20) f_241_20 (by decide) rfl (by first | assumption | exact hK.1 _ _ rfl) (by first | assumption | exact hK.2 _ _ _ rfl | (try dsimp only) <;> (repeat (first | exact up2_s | refine up2_o (by first | decide | omega) ?_)) <;> first | assumption | exact hK.2 _ _ _ rfl) ?_
            refine G_S (pc := 23) f_241_23 rfl rfl rfl ?_
            refine G_ic (v := nI 1) (pc := 24) f_241_24 (by decide) ?_
            first | refine G_addN (pc := 25) f_241_25 ?_ | refine G_addZ (pc := 25) f_241_25 (by first | rfl | exact nI_zI _) (by first | rfl | exact nI_zI _) ?_ | refine G_S (pc := 25) f_241_25 rfl rfl rfl ?_
            refine G_iaN (pc := 26) f_241_26 (by first | assumption | exact hK.1 _ _ rfl) (by omega) (by omega) (by first | exact p2 | rfl) ?_
            refine G_S (pc := 27) f_241_27 rfl rfl rfl ?_
            refine G_S (pc := 28) f_241_28 rfl rfl rfl ?_
            refine G_ic (v := zI (-1)) (pc := 29) f_241_29 (by decide) ?_
            refine G_jeqZ (pc := 30) f_241_30 rfl (by first | exact nI_toInt (by omega) | exact zI_toInt (by omega) (by omega) | rfl) (by first | exact nI_toInt (by omega) | exact zI_toInt (by omega) (by omega) | rfl) (fun b2 => ?_) (fun b2 => ?_)
            · exfalso; omega
            · refine G_S (pc := 33) f_241_33 rfl rfl rfl ?_
              refine G_ic (v := zI (-1)) (pc := 34) f_241_34 (by decide) ?_
              refine G_jeqZ (pc := 35) f_241_35 rfl (by first | exact nI_toInt (by omega) | exact zI_toInt (by omega) (by omega) | rfl) (by first | exact nI_toInt (by omega) | exact zI_toInt (by omega) (by omega) | rfl) (fun b3 => ?_) (fun b3 => ?_)
              · exfalso; omega
              · refine G_S (pc := 38) f_241_38 rfl rfl rfl ?_
                refine G_gR (pc := 39) f_241_39 (by decide) rfl (by first | assumption | exact hK.1 _ _ rfl) (by first | assumption | exact hK.2 _ _ _ rfl | (try dsimp only) <;> (repeat (first | exact up2_s | refine up2_o (by first | decide | omega) ?_)) <;> first | assumption | exact hK.2 _ _ _ rfl) ?_
                refine G_S (pc := 42) f_241_42 rfl rfl rfl ?_
                refine G_iaN (pc := 43) f_241_43 (by first | assumption | exact hK.1 _ _ rfl) (by omega) (by omega) (by first | exact pu | rfl) ?_
                refine G_S (pc := 44) f_241_44 rfl rfl rfl ?_
                refine G_gR (pc := 45) f_241_45 (by decide) rfl (by first | assumption | exact hK.1 _ _ rfl) (by first | assumption | exact hK.2 _ _ _ rfl | (try dsimp only) <;> (repeat (first | exact up2_s | refine up2_o (by first | decide | omega) ?_)) <;> first | assumption | exact hK.2 _ _ _ rfl) ?_
                refine G_S (pc := 48) f_241_48 rfl rfl rfl ?_
                refine G_iaN (pc := 49) f_241_49 (by first | assumption | exact hK.1 _ _ rfl) (by omega) (by omega) (by first | exact pu | rfl) ?_
                first | refine G_subN (pc := 50) f_241_50 (by omega) ?_ | refine G_subZ (pc := 50) f_241_50 (by first | rfl | exact nI_zI _) (by first | rfl | exact nI_zI _) ?_ | refine G_S (pc := 50) f_241_50 rfl rfl rfl ?_
                refine G_S (pc := 51) f_241_51 rfl rfl rfl ?_
                refine G_S (pc := 53) f_241_53 rfl rfl rfl ?_
                refine G_ic (v := nI 1) (pc := 55) f_241_55 (by decide) ?_
                refine G_jleZ (pc := 56) f_241_56 rfl (by first | exact nI_toInt (by omega) | exact zI_toInt (by omega) (by omega) | rfl) (by first | exact nI_toInt (by omega) | exact zI_toInt (by omega) (by omega) | rfl) (fun b4 => ?_) (fun b4 => ?_)
                · refine G_S (pc := 63) f_241_63 rfl rfl rfl ?_
                  refine G_ic (v := zI (-1)) (pc := 65) f_241_65 (by decide) ?_
                  refine G_jgeZ (pc := 66) f_241_66 rfl (by first | exact nI_toInt (by omega) | exact zI_toInt (by omega) (by omega) | rfl) (by first | exact nI_toInt (by omega) | exact zI_toInt (by omega) (by omega) | rfl) (fun b5 => ?_) (fun b5 => ?_)
                  · refine G_ic (v := nI 0) (pc := 73) f_241_73 (by decide) ?_
                    refine G_S (pc := 74) f_241_74 rfl rfl rfl ?_
                    refine G_S (pc := 76) f_241_76 rfl rfl rfl ?_
                    refine G_gR (pc := 77) f_241_77 (by decide) rfl (by first | assumption | exact hK.1 _ _ rfl) (by first | assumption | exact hK.2 _ _ _ rfl | (try dsimp only) <;> (repeat (first | exact up2_s | refine up2_o (by first | decide | omega) ?_)) <;> first | assumption | exact hK.2 _ _ _ rfl) ?_
                    refine G_S (pc := 80) f_241_80 rfl rfl rfl ?_
                    refine G_S (pc := 81) f_241_81 rfl rfl rfl ?_
                    refine G_iaN (pc := 82) f_241_82 (by first | assumption | exact hK.1 _ _ rfl) (by omega) (by omega) (by first | exact pu | rfl) ?_
                    refine G_S (pc := 83) f_241_83 rfl rfl rfl ?_
                    first | refine G_subN (pc := 85) f_241_85 (by omega) ?_ | refine G_subZ (pc := 85) f_241_85 (by first | rfl | exact nI_zI _) (by first | rfl | exact nI_zI _) ?_ | refine G_S (pc := 85) f_241_85 rfl rfl rfl ?_
                    refine G_isN (pc := 86) f_241_86 (by first | assumption | exact hK.1 _ _ rfl) (by omega) (by omega) ?_
                    refine G_S (pc := 87) f_241_87 rfl rfl rfl ?_
                    refine G_gR (pc := 88) f_241_88 (by decide) rfl (by first | assumption | exact hK.1 _ _ rfl) (by first | assumption | exact hK.2 _ _ _ rfl | (try dsimp only) <;> (repeat (first | exact up2_s | refine up2_o (by first | decide | omega) ?_)) <;> first | assumption | exact hK.2 _ _ _ rfl) ?_
                    refine G_S (pc := 91) f_241_91 rfl rfl rfl ?_
                    refine G_S (pc := 92) f_241_92 rfl rfl rfl ?_
                    refine G_iaN (pc := 93) f_241_93 (by first | assumption | exact hK.1 _ _ rfl) (by omega) (by omega) (by first | exact mI_s | rfl) ?_
                    refine G_S (pc := 94) f_241_94 rfl rfl rfl ?_
                    first | refine G_addN (pc := 96) f_241_96 ?_ | refine G_addZ (pc := 96) f_241_96 (by first | rfl | exact nI_zI _) (by first | rfl | exact nI_zI _) ?_ | refine G_S (pc := 96) f_241_96 rfl rfl rfl ?_
                    refine G_isN (pc := 97) f_241_97 (by first | assumption | exact hK.1 _ _ rfl) (by omega) (by omega) ?_
                    first | refine G_inc1 (pc := 98) f_241_98 rfl ?_ | refine G_S (pc := 98) f_241_98 rfl rfl rfl ?_
                    refine G_S (pc := 101) f_241_101 rfl rfl rfl ?_
                    refine fin u u (shN S b i u) (shN S b i u) _ _ hlast (by omega) (by omega) hu hv _ _ _ _ (by first | (refine nn_ ?_; omega) | (refine zn_ ?_; omega)) (by first | (refine nn_ ?_; omega) | (refine zn_ ?_; omega)) ?_
                    rw [evO, if_neg (by omega), if_neg (by omega), up1_id, up1_id]
                  · omega
                · omega
        · refine G_S (pc := 2) f_241_2 rfl rfl rfl ?_
          refine G_ic (v := nI 1) (pc := 3) f_241_3 (by decide) ?_
          first | refine G_addN (pc := 4) f_241_4 ?_ | refine G_addZ (pc := 4) f_241_4 (by first | rfl | exact nI_zI _) (by first | rfl | exact nI_zI _) ?_ | refine G_S (pc := 4) f_241_4 rfl rfl rfl ?_
          refine G_S (pc := 5) f_241_5 rfl rfl rfl ?_
          refine G_gIv (pc := 6) f_241_6 (by decide) rfl (by decide) (by first | assumption | exact hK.1 _ _ rfl) (by first | assumption | exact mI_s | ((refine mI_o (by first | decide | omega) ?_); (repeat (refine mI_o (by first | decide | omega) ?_)); first | exact mI_s | assumption) | rfl) ?_
          refine G_jgeZ (pc := 9) f_241_9 rfl (by first | exact nI_toInt (by omega) | exact zI_toInt (by omega) (by omega) | rfl) (by first | exact nI_toInt (by omega) | exact zI_toInt (by omega) (by omega) | rfl) (fun b1 => ?_) (fun b1 => ?_)
          · exfalso; omega
          · refine G_S (pc := 12) f_241_12 rfl rfl rfl ?_
            refine G_gR (pc := 13) f_241_13 (by decide) rfl (by first | assumption | exact hK.1 _ _ rfl) (by first | assumption | exact hK.2 _ _ _ rfl | (try dsimp only) <;> (repeat (first | exact up2_s | refine up2_o (by first | decide | omega) ?_)) <;> first | assumption | exact hK.2 _ _ _ rfl) ?_
            refine G_S (pc := 16) f_241_16 rfl rfl rfl ?_
            refine G_iaN (pc := 17) f_241_17 (by first | assumption | exact hK.1 _ _ rfl) (by omega) (by omega) (by first | exact p1 | rfl) ?_
            refine G_S (pc := 18) f_241_18 rfl rfl rfl ?_
            refine G_S (pc := 19) f_241_19 rfl rfl rfl ?_
            refine G_gR (pc := 20) f_241_20 (by decide) rfl (by first | assumption | exact hK.1 _ _ rfl) (by first | assumption | exact hK.2 _ _ _ rfl | (try dsimp only) <;> (repeat (first | exact up2_s | refine up2_o (by first | decide | omega) ?_)) <;> first | assumption | exact hK.2 _ _ _ rfl) ?_
            refine G_S (pc := 23) f_241_23 rfl rfl rfl ?_
            refine G_ic (v := nI 1) (pc := 24) f_241_24 (by decide) ?_
            first | refine G_addN (pc := 25) f_241_25 ?_ | refine G_addZ (pc := 25) f_241_25 (by first | rfl | exact nI_zI _) (by first | rfl | exact nI_zI _) ?_ | refine G_S (pc := 25) f_241_25 rfl rfl rfl ?_
            refine G_iaN (pc := 26) f_241_26 (by first | assumption | exact hK.1 _ _ rfl) (by omega) (by omega) (by first | exact p2 | rfl) ?_
            refine G_S (pc := 27) f_241_27 rfl rfl rfl ?_
            refine G_S (pc := 28) f_241_28 rfl rfl rfl ?_
            refine G_ic (v := zI (-1)) (pc := 29) f_241_29 (by decide) ?_
            refine G_jeqZ (pc := 30) f_241_30 rfl (by first | exact nI_toInt (by omega) | exact zI_toInt (by omega) (by omega) | rfl) (by first | exact nI_toInt (by omega) | exact zI_toInt (by omega) (by omega) | rfl) (fun b2 => ?_) (fun b2 => ?_)
            · exfalso; omega
            · refine G_S (pc := 33) f_241_33 rfl rfl rfl ?_
              refine G_ic (v := zI (-1)) (pc := 34) f_241_34 (by decide) ?_
              refine G_jeqZ (pc := 35) f_241_35 rfl (by first | exact nI_toInt (by omega) | exact zI_toInt (by omega) (by omega) | rfl) (by first | exact nI_toInt (by omega) | exact zI_toInt (by omega) (by omega) | rfl) (fun b3 => ?_) (fun b3 => ?_)
              · exfalso; omega
              · refine G_S (pc := 38) f_241_38 rfl rfl rfl ?_
                refine G_gR (pc := 39) f_241_39 (by decide) rfl (by first | assumption | exact hK.1 _ _ rfl) (by first | assumption | exact hK.2 _ _ _ rfl | (try dsimp only) <;> (repeat (first | exact up2_s | refine up2_o (by first | decide | omega) ?_)) <;> first | assumption | exact hK.2 _ _ _ rfl) ?_
                refine G_S (pc := 42) f_241_42 rfl rfl rfl ?_
                refine G_iaN (pc := 43) f_241_43 (by first | assumption | exact hK.1 _ _ rfl) (by omega) (by omega) (by first | exact pu | rfl) ?_
                refine G_S (pc := 44) f_241_44 rfl rfl rfl ?_
                refine G_gR (pc := 45) f_241_45 (by decide) rfl (by first | assumption | exact hK.1 _ _ rfl) (by first | assumption | exact hK.2 _ _ _ rfl | (try dsimp only) <;> (repeat (first | exact up2_s | refine up2_o (by first | decide | omega) ?_)) <;> first | assumption | exact hK.2 _ _ _ rfl) ?_
                refine G_S (pc := 48) f_241_48 rfl rfl rfl ?_
                refine G_iaN (pc := 49) f_241_49 (by first | assumption | exact hK.1 _ _ rfl) (by omega) (by omega) (by first | exact pv | rfl) ?_
                first | refine G_subN (pc := 50) f_241_50 (by omega) ?_ | refine G_subZ (pc := 50) f_241_50 (by first | rfl | exact nI_zI _) (by first | rfl | exact nI_zI _) ?_ | refine G_S (pc := 50) f_241_50 rfl rfl rfl ?_
                refine G_S (pc := 51) f_241_51 rfl rfl rfl ?_
                refine G_S (pc := 53) f_241_53 rfl rfl rfl ?_
                refine G_ic (v := nI 1) (pc := 55) f_241_55 (by decide) ?_
                refine G_jleZ (pc := 56) f_241_56 rfl (by first | exact nI_toInt (by omega) | exact zI_toInt (by omega) (by omega) | rfl) (by first | exact nI_toInt (by omega) | exact zI_toInt (by omega) (by omega) | rfl) (fun b4 => ?_) (fun b4 => ?_)
                · refine G_S (pc := 63) f_241_63 rfl rfl rfl ?_
                  refine G_ic (v := zI (-1)) (pc := 65) f_241_65 (by decide) ?_
                  refine G_jgeZ (pc := 66) f_241_66 rfl (by first | exact nI_toInt (by omega) | exact zI_toInt (by omega) (by omega) | rfl) (by first | exact nI_toInt (by omega) | exact zI_toInt (by omega) (by omega) | rfl) (fun b5 => ?_) (fun b5 => ?_)
                  · refine G_ic (v := nI 0) (pc := 73) f_241_73 (by decide) ?_
                    refine G_S (pc := 74) f_241_74 rfl rfl rfl ?_
                    refine G_S (pc := 76) f_241_76 rfl rfl rfl ?_
                    refine G_gR (pc := 77) f_241_77 (by decide) rfl (by first | assumption | exact hK.1 _ _ rfl) (by first | assumption | exact hK.2 _ _ _ rfl | (try dsimp only) <;> (repeat (first | exact up2_s | refine up2_o (by first | decide | omega) ?_)) <;> first | assumption | exact hK.2 _ _ _ rfl) ?_
                    refine G_S (pc := 80) f_241_80 rfl rfl rfl ?_
                    refine G_S (pc := 81) f_241_81 rfl rfl rfl ?_
                    refine G_iaN (pc := 82) f_241_82 (by first | assumption | exact hK.1 _ _ rfl) (by omega) (by omega) (by first | exact pu | rfl) ?_
                    refine G_S (pc := 83) f_241_83 rfl rfl rfl ?_
                    first | refine G_subN (pc := 85) f_241_85 (by omega) ?_ | refine G_subZ (pc := 85) f_241_85 (by first | rfl | exact nI_zI _) (by first | rfl | exact nI_zI _) ?_ | refine G_S (pc := 85) f_241_85 rfl rfl rfl ?_
                    refine G_isN (pc := 86) f_241_86 (by first | assumption | exact hK.1 _ _ rfl) (by omega) (by omega) ?_
                    refine G_S (pc := 87) f_241_87 rfl rfl rfl ?_
                    refine G_gR (pc := 88) f_241_88 (by decide) rfl (by first | assumption | exact hK.1 _ _ rfl) (by first | assumption | exact hK.2 _ _ _ rfl | (try dsimp only) <;> (repeat (first | exact up2_s | refine up2_o (by first | decide | omega) ?_)) <;> first | assumption | exact hK.2 _ _ _ rfl) ?_
                    refine G_S (pc := 91) f_241_91 rfl rfl rfl ?_
                    refine G_S (pc := 92) f_241_92 rfl rfl rfl ?_
                    refine G_iaN (pc := 93) f_241_93 (by first | assumption | exact hK.1 _ _ rfl) (by omega) (by omega) (by first | exact (mI_o (by omega) pv) | rfl) ?_
                    refine G_S (pc := 94) f_241_94 rfl rfl rfl ?_
                    first | refine G_addN (pc := 96) f_241_96 ?_ | refine G_addZ (pc := 96) f_241_96 (by first | rfl | exact nI_zI _) (by first | rfl | exact nI_zI _) ?_ | refine G_S (pc := 96) f_241_96 rfl rfl rfl ?_
                    refine G_isN (pc := 97) f_241_97 (by first | assumption | exact hK.1 _ _ rfl) (by omega) (by omega) ?_
                    first | refine G_inc1 (pc := 98) f_241_98 rfl ?_ | refine G_S (pc := 98) f_241_98 rfl rfl rfl ?_
                    refine G_S (pc := 101) f_241_101 rfl rfl rfl ?_
                    first
                      | (refine fin u v (shN S b i u - 1) (shN S b i v + 1) _ _ hlast (by omega) (by omega) hu hv _ _ _ _ (by first | (refine nn_ ?_; omega) | (refine zn_ ?_; omega)) (by first | (refine nn_ ?_; omega) | (refine zn_ ?_; omega)) ?_
                         rw [evO, if_pos (by omega)])
                      | (refine fin u v (shN S b i u + 1) (shN S b i v - 1) _ _ hlast (by omega) (by omega) hu hv _ _ _ _ (by first | (refine nn_ ?_; omega) | (refine zn_ ?_; omega)) (by first | (refine nn_ ?_; omega) | (refine zn_ ?_; omega)) ?_
                         rw [evO, if_neg (by omega), if_pos (by omega)])
                      | (refine fin u v (shN S b i u) (shN S b i v) _ _ hlast (by omega) (by omega) hu hv _ _ _ _ (by first | (refine nn_ ?_; omega) | (refine zn_ ?_; omega)) (by first | (refine nn_ ?_; omega) | (refine zn_ ?_; omega)) ?_
                         rw [evO, if_neg (by omega), if_neg (by omega), up1_id, up1_id])
                  · refine G_ic (v := zI (-1)) (pc := 69) f_241_69 (by decide) ?_
                    refine G_S (pc := 70) f_241_70 rfl rfl rfl ?_
                    refine G_S (pc := 74) f_241_74 rfl rfl rfl ?_
                    refine G_S (pc := 76) f_241_76 rfl rfl rfl ?_
                    refine G_gR (pc := 77) f_241_77 (by decide) rfl (by first | assumption | exact hK.1 _ _ rfl) (by first | assumption | exact hK.2 _ _ _ rfl | (try dsimp only) <;> (repeat (first | exact up2_s | refine up2_o (by first | decide | omega) ?_)) <;> first | assumption | exact hK.2 _ _ _ rfl) ?_
                    refine G_S (pc := 80) f_241_80 rfl rfl rfl ?_
                    refine G_S (pc := 81) f_241_81 rfl rfl rfl ?_
                    refine G_iaN (pc := 82) f_241_82 (by first | assumption | exact hK.1 _ _ rfl) (by omega) (by omega) (by first | exact pu | rfl) ?_
                    refine G_S (pc := 83) f_241_83 rfl rfl rfl ?_
                    first | refine G_subN (pc := 85) f_241_85 (by omega) ?_ | refine G_subZ (pc := 85) f_241_85 (by first | rfl | exact nI_zI _) (by first | rfl | exact nI_zI _) ?_ | refine G_S (pc := 85) f_241_85 rfl rfl rfl ?_
                    refine G_isN (pc := 86) f_241_86 (by first | assumption | exact hK.1 _ _ rfl) (by omega) (by omega) ?_
                    refine G_S (pc := 87) f_241_87 rfl rfl rfl ?_
                    refine G_gR (pc := 88) f_241_88 (by decide) rfl (by first | assumption | exact hK.1 _ _ rfl) (by first | assumption | exact hK.2 _ _ _ rfl | (try dsimp only) <;> (repeat (first | exact up2_s | refine up2_o (by first | decide | omega) ?_)) <;> first | assumption | exact hK.2 _ _ _ rfl) ?_
                    refine G_S (pc := 91) f_241_91 rfl rfl rfl ?_
                    refine G_S (pc := 92) f_241_92 rfl rfl rfl ?_
                    refine G_iaN (pc := 93) f_241_93 (by first | assumption | exact hK.1 _ _ rfl) (by omega) (by omega) (by first | exact (mI_o (by omega) pv) | rfl) ?_
                    refine G_S (pc := 94) f_241_94 rfl rfl rfl ?_
                    first | refine G_addN (pc := 96) f_241_96 ?_ | refine G_addZ (pc := 96) f_241_96 (by first | rfl | exact nI_zI _) (by first | rfl | exact nI_zI _) ?_ | refine G_S (pc := 96) f_241_96 rfl rfl rfl ?_
                    refine G_isN (pc := 97) f_241_97 (by first | assumption | exact hK.1 _ _ rfl) (by omega) (by omega) ?_
                    first | refine G_inc1 (pc := 98) f_241_98 rfl ?_ | refine G_S (pc := 98) f_241_98 rfl rfl rfl ?_
                    refine G_S (pc := 101) f_241_101 rfl rfl rfl ?_
                    first
                      | (refine fin u v (shN S b i u - 1) (shN S b i v + 1) _ _ hlast (by omega) (by omega) hu hv _ _ _ _ (by first | (refine nn_ ?_; omega) | (refine zn_ ?_; omega)) (by first | (refine nn_ ?_; omega) | (refine zn_ ?_; omega)) ?_
                         rw [evO, if_pos (by omega)])
                      | (refine fin u v (shN S b i u + 1) (shN S b i v - 1) _ _ hlast (by omega) (by omega) hu hv _ _ _ _ (by first | (refine nn_ ?_; omega) | (refine zn_ ?_; omega)) (by first | (refine nn_ ?_; omega) | (refine zn_ ?_; omega)) ?_
                         rw [evO, if_neg (by omega), if_pos (by omega)])
                      | (refine fin u v (shN S b i u) (shN S b i v) _ _ hlast (by omega) (by omega) hu hv _ _ _ _ (by first | (refine nn_ ?_; omega) | (refine zn_ ?_; omega)) (by first | (refine nn_ ?_; omega) | (refine zn_ ?_; omega)) ?_
                         rw [evO, if_neg (by omega), if_neg (by omega), up1_id, up1_id])
                · refine G_ic (v := nI 1) (pc := 59) f_241_59 (by decide) ?_
                  refine G_S (pc := 60) f_241_60 rfl rfl rfl ?_
                  refine G_S (pc := 74) f_241_74 rfl rfl rfl ?_
                  refine G_S (pc := 76) f_241_76 rfl rfl rfl ?_
                  refine G_gR (pc := 77) f_241_77 (by decide) rfl (by first | assumption | exact hK.1 _ _ rfl) (by first | assumption | exact hK.2 _ _ _ rfl | (try dsimp only) <;> (repeat (first | exact up2_s | refine up2_o (by first | decide | omega) ?_)) <;> first | assumption | exact hK.2 _ _ _ rfl) ?_
                  refine G_S (pc := 80) f_241_80 rfl rfl rfl ?_
                  refine G_S (pc := 81) f_241_81 rfl rfl rfl ?_
                  refine G_iaN (pc := 82) f_241_82 (by first | assumption | exact hK.1 _ _ rfl) (by omega) (by omega) (by first | exact pu | rfl) ?_
                  refine G_S (pc := 83) f_241_83 rfl rfl rfl ?_
                  first | refine G_subN (pc := 85) f_241_85 (by omega) ?_ | refine G_subZ (pc := 85) f_241_85 (by first | rfl | exact nI_zI _) (by first | rfl | exact nI_zI _) ?_ | refine G_S (pc := 85) f_241_85 rfl rfl rfl ?_
                  refine G_isN (pc := 86) f_241_86 (by first | assumption | exact hK.1 _ _ rfl) (by omega) (by omega) ?_
                  refine G_S (pc := 87) f_241_87 rfl rfl rfl ?_
                  refine G_gR (pc := 88) f_241_88 (by decide) rfl (by first | assumption | exact hK.1 _ _ rfl) (by first | assumption | exact hK.2 _ _ _ rfl | (try dsimp only) <;> (repeat (first | exact up2_s | refine up2_o (by first | decide | omega) ?_)) <;> first | assumption | exact hK.2 _ _ _ rfl) ?_
                  refine G_S (pc := 91) f_241_91 rfl rfl rfl ?_
                  refine G_S (pc := 92) f_241_92 rfl rfl rfl ?_
                  refine G_iaN (pc := 93) f_241_93 (by first | assumption | exact hK.1 _ _ rfl) (by omega) (by omega) (by first | exact (mI_o (by omega) pv) | rfl) ?_
                  refine G_S (pc := 94) f_241_94 rfl rfl rfl ?_
                  first | refine G_addN (pc := 96) f_241_96 ?_ | refine G_addZ (pc := 96) f_241_96 (by first | rfl | exact nI_zI _) (by first | rfl | exact nI_zI _) ?_ | refine G_S (pc := 96) f_241_96 rfl rfl rfl ?_
                  refine G_isN (pc := 97) f_241_97 (by first | assumption | exact hK.1 _ _ rfl) (by omega) (by omega) ?_
                  first | refine G_inc1 (pc := 98) f_241_98 rfl ?_ | refine G_S (pc := 98) f_241_98 rfl rfl rfl ?_
                  refine G_S (pc := 101) f_241_101 rfl rfl rfl ?_
                  first
                    | (refine fin u v (shN S b i u - 1) (shN S b i v + 1) _ _ hlast (by omega) (by omega) hu hv _ _ _ _ (by first | (refine nn_ ?_; omega) | (refine zn_ ?_; omega)) (by first | (refine nn_ ?_; omega) | (refine zn_ ?_; omega)) ?_
                       rw [evO, if_pos (by omega)])
                    | (refine fin u v (shN S b i u + 1) (shN S b i v - 1) _ _ hlast (by omega) (by omega) hu hv _ _ _ _ (by first | (refine nn_ ?_; omega) | (refine zn_ ?_; omega)) (by first | (refine nn_ ?_; omega) | (refine zn_ ?_; omega)) ?_
                       rw [evO, if_neg (by omega), if_pos (by omega)])
                    | (refine fin u v (shN S b i u) (shN S b i v) _ _ hlast (by omega) (by omega) hu hv _ _ _ _ (by first | (refine nn_ ?_; omega) | (refine zn_ ?_; omega)) (by first | (refine nn_ ?_; omega) | (refine zn_ ?_; omega)) ?_
                       rw [evO, if_neg (by omega), if_neg (by omega), up1_id, up1_id])
      · have es : shN S b (i + 1) = shN S b i := by rw [shN, if_neg hb]
        have p1 := q3 i (by omega)
        have p2 := q3 (i + 1) (by omega)
        have et1 : (zI (S (30 + i))).toInt = S (30 + i) := zI_toInt (by omega) (by omega)
        have et2 : (zI (S (30 + (i + 1)))).toInt = S (30 + (i + 1)) := zI_toInt (by omega) (by omega)
        by_cases h1 : S (30 + i) = -1
        · refine G_S (pc := 2) f_241_2 rfl rfl rfl ?_
          refine G_ic (v := nI 1) (pc := 3) f_241_3 (by decide) ?_
          first | refine G_addN (pc := 4) f_241_4 ?_ | refine G_addZ (pc := 4) f_241_4 (by first | rfl | exact nI_zI _) (by first | rfl | exact nI_zI _) ?_ | refine G_S (pc := 4) f_241_4 rfl rfl rfl ?_
          refine G_S (pc := 5) f_241_5 rfl rfl rfl ?_
          refine G_gIv (pc := 6) f_241_6 (by decide) rfl (by decide) (by first | assumption | exact hK.1 _ _ rfl) (by first | assumption | exact mI_s | ((refine mI_o (by first | decide | omega) ?_); (repeat (refine mI_o (by first | decide | omega) ?_)); first | exact mI_s | assumption) | rfl) ?_
          refine G_jgeZ (pc := 9) f_241_9 rfl (by first | exact nI_toInt (by omega) | exact zI_toInt (by omega) (by omega) | rfl) (by first | exact nI_toInt (by omega) | exact zI_toInt (by omega) (by omega) | rfl) (fun b1 => ?_) (fun b1 => ?_)
          · exfalso; omega
          · refine G_S (pc := 12) f_241_12 rfl rfl rfl ?_
            refine G_gR (pc := 13) f_241_13 (by decide) rfl (by first | assumption | exact hK.1 _ _ rfl) (by first | assumption | exact hK.2 _ _ _ rfl | (try dsimp only) <;> (repeat (first | exact up2_s | refine up2_o (by first | decide | omega) ?_)) <;> first | assumption | exact hK.2 _ _ _ rfl) ?_
            refine G_S (pc := 16) f_241_16 rfl rfl rfl ?_
            refine G_iaN (pc := 17) f_241_17 (by first | assumption | exact hK.1 _ _ rfl) (by omega) (by omega) (by first | exact p1 | rfl) ?_
            refine G_S (pc := 18) f_241_18 rfl rfl rfl ?_
            refine G_S (pc := 19) f_241_19 rfl rfl rfl ?_
            refine G_gR (pc := 20) f_241_20 (by decide) rfl (by first | assumption | exact hK.1 _ _ rfl) (by first | assumption | exact hK.2 _ _ _ rfl | (try dsimp only) <;> (repeat (first | exact up2_s | refine up2_o (by first | decide | omega) ?_)) <;> first | assumption | exact hK.2 _ _ _ rfl) ?_
            refine G_S (pc := 23) f_241_23 rfl rfl rfl ?_
            refine G_ic (v := nI 1) (pc := 24) f_241_24 (by decide) ?_
            first | refine G_addN (pc := 25) f_241_25 ?_ | refine G_addZ (pc := 25) f_241_25 (by first | rfl | exact nI_zI _) (by first | rfl | exact nI_zI _) ?_ | refine G_S (pc := 25) f_241_25 rfl rfl rfl ?_
            refine G_iaN (pc := 26) f_241_26 (by first | assumption | exact hK.1 _ _ rfl) (by omega) (by omega) (by first | exact p2 | rfl) ?_
            refine G_S (pc := 27) f_241_27 rfl rfl rfl ?_
            refine G_S (pc := 28) f_241_28 rfl rfl rfl ?_
            refine G_ic (v := zI (-1)) (pc := 29) f_241_29 (by decide) ?_
            refine G_jeqZ (pc := 30) f_241_30 rfl (by first | exact nI_toInt (by omega) | exact zI_toInt (by omega) (by omega) | rfl) (by first | exact nI_toInt (by omega) | exact zI_toInt (by omega) (by omega) | rfl) (fun b2 => ?_) (fun b2 => ?_)
            · first | refine G_inc1 (pc := 98) f_241_98 rfl ?_ | refine G_S (pc := 98) f_241_98 rfl rfl rfl ?_
              refine G_S (pc := 101) f_241_101 rfl rfl rfl ?_
              exact ih (by omega) _ _ _ _ _ hF (by rw [es]; exact W1)
            · exfalso; omega
        · refine G_S (pc := 2) f_241_2 rfl rfl rfl ?_
          refine G_ic (v := nI 1) (pc := 3) f_241_3 (by decide) ?_
          first | refine G_addN (pc := 4) f_241_4 ?_ | refine G_addZ (pc := 4) f_241_4 (by first | rfl | exact nI_zI _) (by first | rfl | exact nI_zI _) ?_ | refine G_S (pc := 4) f_241_4 rfl rfl rfl ?_
          refine G_S (pc := 5) f_241_5 rfl rfl rfl ?_
          refine G_gIv (pc := 6) f_241_6 (by decide) rfl (by decide) (by first | assumption | exact hK.1 _ _ rfl) (by first | assumption | exact mI_s | ((refine mI_o (by first | decide | omega) ?_); (repeat (refine mI_o (by first | decide | omega) ?_)); first | exact mI_s | assumption) | rfl) ?_
          refine G_jgeZ (pc := 9) f_241_9 rfl (by first | exact nI_toInt (by omega) | exact zI_toInt (by omega) (by omega) | rfl) (by first | exact nI_toInt (by omega) | exact zI_toInt (by omega) (by omega) | rfl) (fun b1 => ?_) (fun b1 => ?_)
          · exfalso; omega
          · refine G_S (pc := 12) f_241_12 rfl rfl rfl ?_
            refine G_gR (pc := 13) f_241_13 (by decide) rfl (by first | assumption | exact hK.1 _ _ rfl) (by first | assumption | exact hK.2 _ _ _ rfl | (try dsimp only) <;> (repeat (first | exact up2_s | refine up2_o (by first | decide | omega) ?_)) <;> first | assumption | exact hK.2 _ _ _ rfl) ?_
            refine G_S (pc := 16) f_241_16 rfl rfl rfl ?_
            refine G_iaN (pc := 17) f_241_17 (by first | assumption | exact hK.1 _ _ rfl) (by omega) (by omega) (by first | exact p1 | rfl) ?_
            refine G_S (pc := 18) f_241_18 rfl rfl rfl ?_
            refine G_S (pc := 19) f_241_19 rfl rfl rfl ?_
            refine G_gR (pc := 20) f_241_20 (by decide) rfl (by first | assumption | exact hK.1 _ _ rfl) (by first | assumption | exact hK.2 _ _ _ rfl | (try dsimp only) <;> (repeat (first | exact up2_s | refine up2_o (by first | decide | omega) ?_)) <;> first | assumption | exact hK.2 _ _ _ rfl) ?_
            refine G_S (pc := 23) f_241_23 rfl rfl rfl ?_
            refine G_ic (v := nI 1) (pc := 24) f_241_24 (by decide) ?_
            first | refine G_addN (pc := 25) f_241_25 ?_ | refine G_addZ (pc := 25) f_241_25 (by first | rfl | exact nI_zI _) (by first | rfl | exact nI_zI _) ?_ | refine G_S (pc := 25) f_241_25 rfl rfl rfl ?_
            refine G_iaN (pc := 26) f_241_26 (by first | assumption | exact hK.1 _ _ rfl) (by omega) (by omega) (by first | exact p2 | rfl) ?_
            refine G_S (pc := 27) f_241_27 rfl rfl rfl ?_
            refine G_S (pc := 28) f_241_28 rfl rfl rfl ?_
            refine G_ic (v := zI (-1)) (pc := 29) f_241_29 (by decide) ?_
            refine G_jeqZ (pc := 30) f_241_30 rfl (by first | exact nI_toInt (by omega) | exact zI_toInt (by omega) (by omega) | rfl) (by first | exact nI_toInt (by omega) | exact zI_toInt (by omega) (by omega) | rfl) (fun b2 => ?_) (fun b2 => ?_)
            · exfalso; omega
            · refine G_S (pc := 33) f_241_33 rfl rfl rfl ?_
              refine G_ic (v := zI (-1)) (pc := 34) f_241_34 (by decide) ?_
              refine G_jeqZ (pc := 35) f_241_35 rfl (by first | exact nI_toInt (by omega) | exact zI_toInt (by omega) (by omega) | rfl) (by first | exact nI_toInt (by omega) | exact zI_toInt (by omega) (by omega) | rfl) (fun b3 => ?_) (fun b3 => ?_)
              · first | refine G_inc1 (pc := 98) f_241_98 rfl ?_ | refine G_S (pc := 98) f_241_98 rfl rfl rfl ?_
                refine G_S (pc := 101) f_241_101 rfl rfl rfl ?_
                exact ih (by omega) _ _ _ _ _ hF (by rw [es]; exact W1)
              · exfalso; omega
    · have ei : D 1 - 1 = i := by omega
      refine G_S (pc := 2) f_241_2 rfl rfl rfl ?_
      refine G_ic (v := nI 1) (pc := 3) f_241_3 (by decide) ?_
      first | refine G_addN (pc := 4) f_241_4 ?_ | refine G_addZ (pc := 4) f_241_4 (by first | rfl | exact nI_zI _) (by first | rfl | exact nI_zI _) ?_ | refine G_S (pc := 4) f_241_4 rfl rfl rfl ?_
      refine G_S (pc := 5) f_241_5 rfl rfl rfl ?_
      refine G_gIv (pc := 6) f_241_6 (by decide) rfl (by decide) (by first | assumption | exact hK.1 _ _ rfl) (by first | assumption | exact mI_s | ((refine mI_o (by first | decide | omega) ?_); (repeat (refine mI_o (by first | decide | omega) ?_)); first | exact mI_s | assumption) | rfl) ?_
      refine G_jgeZ (pc := 9) f_241_9 rfl (by first | exact nI_toInt (by omega) | exact zI_toInt (by omega) (by omega) | rfl) (by first | exact nI_toInt (by omega) | exact zI_toInt (by omega) (by omega) | rfl) (fun b1 => ?_) (fun b1 => ?_)
      · refine G_rv (pc := 104) f_241_104 ?_
        exact ⟨rfl, hF.sub (by decide) (by decide), by rw [ei]; exact W1⟩
      · exfalso; omega
  have hK := W.1.1
  have hH := W.1.2
  obtain ⟨⟨a0, a1, a2, a3⟩, hl8, hD, ao⟩ := W.1.2
  have hn0 : _ ≤ 8 := hD.1
  have hn1 : _ ≤ 6 := hD.2.1.2
  have hn2 : _ ≤ 8 := hD.2.2.1
  obtain ⟨⟨s0, s1, s2, s3⟩, q1, q2, q3, hO⟩ := W.2
  obtain ⟨o0, o1, o2, o3, o4, o5, o6⟩ := hO
  refine CG_in (mL := 6) (hl := false) (lv := [some (.ref 98), none, none, none, none, none]) (ll := []) rfl rfl rfl ?_
  refine G_ic (v := nI 0) (pc := 0) f_241_0 (by decide) ?_
  refine G_S (pc := 1) f_241_1 rfl rfl rfl ?_
  exact loop 0 (Nat.zero_le _) M _ _ _ _ Fm.rf W
end MTS
