/-! the reference's tram: deeds, rides, days -/
def mR (M : Mm) (g : Nat) (R : Nat → Int) : Prop := KM M.1 M.2.2.2 ∧ M.2.1 98 27 = nI g ∧ g < 8 ∧ ROK R ∧ ∀ j : Nat, (j : Int) < 1 + 3 * R 0 → M.2.1 105 (121 * g + j) = zI (R j)
theorem mR.fm {M M' : Mm} {g : Nat} {R : Nat → Int} {os fs : List Nat} (W : mR M g R) (h : Fm os fs M M') (h1 : 27 ∉ fs) (h2 : 105 ∉ os) : mR M' g R := by
  refine ⟨h.K W.1, by rw [h.2.2 27 h1]; exact W.2.1, W.2.2.1, W.2.2.2.1, ?_⟩
  rw [(h.2.1 105 (by decide) h2).1]
  exact W.2.2.2.2
theorem MRs.q {M M' : Mm} {n : Nat} {L : Nat → Nat → Int} (W : MRs M n L) (h : mQ M M') : MRs M' n L := by
  refine ⟨h.K W.1, by rw [(h.2 103 (by decide)).1]; exact W.2.1, W.2.2.1, ?_⟩
  rw [(h.2 105 (by decide)).1]
  exact W.2.2.2
section MTD
variable {C : Ct} {M : Mm} {l k g n : Nat} {D : Nat → Nat} {S : Nat → Int} {b : Nat → Nat} {R : Nat → Int} {P : Nat → Nat → Int}
theorem n_deeds (V : mR M g R) : CG C 230 [.ref 98] M (fun w M' => w = some (.int (zI (R 0))) ∧ M' = M) := by
  obtain ⟨hK, v0, hg8, hR, ao⟩ := V
  have hR0 := hR.1
  have q1 : M.2.1 105 (121 * g) = zI (R 0) := ao 0 (by omega)
  refine CG_in (mL := 1) (hl := false) (lv := [some (.ref 98)]) (ll := []) rfl rfl rfl ?_
  refine G_S (pc := 0) f_230_0 rfl rfl rfl ?_
  refine G_gR (pc := 1) f_230_1 (by decide) rfl (by first | assumption | exact hK.1 _ _ rfl) (by first | assumption | exact hK.2 _ _ _ rfl | (try dsimp only) <;> (repeat (first | exact up2_s | refine up2_o (by first | decide | omega) ?_)) <;> first | assumption | exact hK.2 _ _ _ rfl) ?_
  refine G_bi (v := nI 121) (pc := 4) f_230_4 (by decide) ?_
  refine G_S (pc := 6) f_230_6 rfl rfl rfl ?_
  refine G_gIv (pc := 7) f_230_7 (by decide) rfl (by decide) (by first | assumption | exact hK.1 _ _ rfl) (by first | assumption | exact mI_s | ((refine mI_o (by first | decide | omega) ?_); (repeat (refine mI_o (by first | decide | omega) ?_)); first | exact mI_s | assumption) | rfl) ?_
  first | refine G_mulN (pc := 10) f_230_10 ?_ | refine G_mulZ (pc := 10) f_230_10 (by first | rfl | exact nI_zI _) (by first | rfl | exact nI_zI _) ?_ | refine G_S (pc := 10) f_230_10 rfl rfl rfl ?_
  refine G_iaN (pc := 11) f_230_11 (by first | assumption | exact hK.1 _ _ rfl) (by omega) (by omega) (by first | exact q1 | rfl) ?_
  refine G_ri (pc := 12) f_230_12 ?_
  exact ⟨rfl, rfl⟩
theorem n_deedOf {j x : Nat} (V : mR M g R) (hj : (j : Int) < R 0) (hx : x ≤ 2) : CG C 231 [.ref 98, .int (nI j), .int (nI x)] M (fun w M' => w = some (.int (zI (R (1 + 3 * j + x)))) ∧ M' = M) := by
  obtain ⟨hK, v0, hg8, hR, ao⟩ := V
  have hR0 := hR.1
  have q1 : M.2.1 105 (121 * g + 1 + 3 * j + x) = zI (R (1 + 3 * j + x)) := by
    have := ao (1 + 3 * j + x) (by omega)
    rw [← Nat.add_assoc, ← Nat.add_assoc] at this
    exact this
  refine CG_in (mL := 3) (hl := false) (lv := [some (.ref 98), some (.int (nI j)), some (.int (nI x))]) (ll := []) rfl rfl rfl ?_
  refine G_S (pc := 0) f_231_0 rfl rfl rfl ?_
  refine G_gR (pc := 1) f_231_1 (by decide) rfl (by first | assumption | exact hK.1 _ _ rfl) (by first | assumption | exact hK.2 _ _ _ rfl | (try dsimp only) <;> (repeat (first | exact up2_s | refine up2_o (by first | decide | omega) ?_)) <;> first | assumption | exact hK.2 _ _ _ rfl) ?_
  refine G_bi (v := nI 121) (pc := 4) f_231_4 (by decide) ?_
  refine G_S (pc := 6) f_231_6 rfl rfl rfl ?_
  refine G_gIv (pc := 7) f_231_7 (by decide) rfl (by decide) (by first | assumption | exact hK.1 _ _ rfl) (by first | assumption | exact mI_s | ((refine mI_o (by first | decide | omega) ?_); (repeat (refine mI_o (by first | decide | omega) ?_)); first | exact mI_s | assumption) | rfl) ?_
  first | refine G_mulN (pc := 10) f_231_10 ?_ | refine G_mulZ (pc := 10) f_231_10 (by first | rfl | exact nI_zI _) (by first | rfl | exact nI_zI _) ?_ | refine G_S (pc := 10) f_231_10 rfl rfl rfl ?_
  refine G_ic (v := nI 1) (pc := 11) f_231_11 (by decide) ?_
  first | refine G_addN (pc := 12) f_231_12 ?_ | refine G_addZ (pc := 12) f_231_12 (by first | rfl | exact nI_zI _) (by first | rfl | exact nI_zI _) ?_ | refine G_S (pc := 12) f_231_12 rfl rfl rfl ?_
  refine G_ic (v := nI 3) (pc := 13) f_231_13 (by decide) ?_
  refine G_S (pc := 14) f_231_14 rfl rfl rfl ?_
  first | refine G_mulN (pc := 15) f_231_15 ?_ | refine G_mulZ (pc := 15) f_231_15 (by first | rfl | exact nI_zI _) (by first | rfl | exact nI_zI _) ?_ | refine G_S (pc := 15) f_231_15 rfl rfl rfl ?_
  first | refine G_addN (pc := 16) f_231_16 ?_ | refine G_addZ (pc := 16) f_231_16 (by first | rfl | exact nI_zI _) (by first | rfl | exact nI_zI _) ?_ | refine G_S (pc := 16) f_231_16 rfl rfl rfl ?_
  refine G_S (pc := 17) f_231_17 rfl rfl rfl ?_
  first | refine G_addN (pc := 18) f_231_18 ?_ | refine G_addZ (pc := 18) f_231_18 (by first | rfl | exact nI_zI _) (by first | rfl | exact nI_zI _) ?_ | refine G_S (pc := 18) f_231_18 rfl rfl rfl ?_
  refine G_iaN (pc := 19) f_231_19 (by first | assumption | exact hK.1 _ _ rfl) (by omega) (by omega) (by first | exact q1 | rfl) ?_
  refine G_ri (pc := 20) f_231_20 ?_
  exact ⟨rfl, rfl⟩
theorem n_doesG {j e : Nat} {x y : Int} (W : TM M l D k S b) (T1 : CG C 231 [.ref 98, .int (nI j), .int (nI 1)] M (fun w M' => w = some (.int (zI x)) ∧ M' = M)) (T2 : CG C 231 [.ref 98, .int (nI j), .int (nI 2)] M (fun w M' => w = some (.int (zI y)) ∧ M' = M)) (T3 : CG C 231 [.ref 98, .int (nI j), .int (nI 0)] M (fun w M' => w = some (.int (nI e)) ∧ M' = M)) (he : e ≤ 7) (hx : -1 ≤ x ∧ x ≤ 99) (hy : -1 ≤ y ∧ y ≤ 99) (hk : k ≤ 1000000) : CG C 245 [.ref 98, .int (nI j)] M (fun w M' => w = some (.int (b2i (dB D (e : Int) x y S = true))) ∧ Fm TO TFs M M' ∧ TM M' l D (k + 1) (dF D (e : Int) x y S b).1 (dF D (e : Int) x y S b).2) := by
  have hO := W.2.2.2.2.2
  have hK := W.1.1
  have hH := W.1.2
  obtain ⟨⟨a0, a1, a2, a3⟩, hl8, hD, ao⟩ := W.1.2
  have hn0 : _ ≤ 8 := hD.1
  have hn1 : _ ≤ 6 := hD.2.1.2
  have hn2 : _ ≤ 8 := hD.2.2.1
  obtain ⟨⟨s0, s1, s2, s3⟩, q1, q2, q3, hO⟩ := W.2
  obtain ⟨o0, o1, o2, o3, o4, o5, o6⟩ := hO
  have ex : (zI x).toInt = x := zI_toInt (by omega) (by omega)
  have ey : (zI y).toInt = y := zI_toInt (by omega) (by omega)
  have tb := n_boards (C := C) (x := zI x) (y := zI y) W
  have ta := n_isAboardX (C := C) (x := zI x) W
  have tf := n_isFree (C := C) (x := zI y) W
  have tg := n_getsOff (C := C) (x := zI x) W
  rw [ex, ey] at tb
  rw [ex] at tg ta
  rw [ey] at tf
  refine CG_in (mL := 4) (hl := false) (lv := [some (.ref 98), some (.int (nI j)), none, none]) (ll := []) rfl rfl rfl ?_
  refine G_S (pc := 0) f_245_0 rfl rfl rfl ?_
  refine G_S (pc := 1) f_245_1 rfl rfl rfl ?_
  refine G_ic (v := nI 1) (pc := 2) f_245_2 (by decide) ?_
  refine G_CV (pc := 3) f_245_3 rfl rfl (by decide) rfl rfl (by first | assumption | exact hK.1 _ _ rfl) (by decide) ⟨Nat.le_of_ble_eq_true rfl, Nat.le_of_ble_eq_true rfl⟩ ?_
  refine CG.go (T1) ?_
  refine G_S (pc := 6) f_245_6 rfl rfl rfl ?_
  refine G_S (pc := 7) f_245_7 rfl rfl rfl ?_
  refine G_S (pc := 8) f_245_8 rfl rfl rfl ?_
  refine G_ic (v := nI 2) (pc := 9) f_245_9 (by decide) ?_
  refine G_CV (pc := 10) f_245_10 rfl rfl (by decide) rfl rfl (by first | assumption | exact hK.1 _ _ rfl) (by decide) ⟨Nat.le_of_ble_eq_true rfl, Nat.le_of_ble_eq_true rfl⟩ ?_
  refine CG.go (T2) ?_
  refine G_S (pc := 13) f_245_13 rfl rfl rfl ?_
  refine G_S (pc := 14) f_245_14 rfl rfl rfl ?_
  refine G_S (pc := 15) f_245_15 rfl rfl rfl ?_
  refine G_ic (v := nI 0) (pc := 16) f_245_16 (by decide) ?_
  refine G_CV (pc := 17) f_245_17 rfl rfl (by decide) rfl rfl (by first | assumption | exact hK.1 _ _ rfl) (by decide) ⟨Nat.le_of_ble_eq_true rfl, Nat.le_of_ble_eq_true rfl⟩ ?_
  refine CG.go (T3) ?_
  rcases (show e = 0 ∨ e = 1 ∨ e = 2 ∨ e = 3 ∨ e = 4 ∨ e = 5 ∨ e = 6 ∨ e = 7 by omega) with rfl | rfl | rfl | rfl | rfl | rfl | rfl | rfl
  · refine G_S (pc := 20) f_245_20 rfl rfl rfl ?_
    refine G_S (pc := 64) f_245_64 rfl rfl rfl ?_
    refine G_S (pc := 65) f_245_65 rfl rfl rfl ?_
    refine G_S (pc := 66) f_245_66 rfl rfl rfl ?_
    refine G_CV (pc := 67) f_245_67 rfl rfl (by decide) rfl rfl (by first | assumption | exact hK.1 _ _ rfl) (by decide) ⟨Nat.le_of_ble_eq_true rfl, Nat.le_of_ble_eq_true rfl⟩ ?_
    refine CG.mono (tb) ?_
    rintro _ M2 ⟨rfl, hF, W2⟩
    refine G_rz (pc := 70) f_245_70 (by first | exact Or.inl rfl | exact Or.inr rfl | exact b2i_01 _ | assumption) ?_
    first
      | exact ⟨rfl, hF, W2.kk (by omega)⟩
      | exact ⟨rfl, hF, W2⟩
      | (refine ⟨?_, hF, W2.kk (by omega)⟩
         congr 2
         refine b2i_congr ?_
         show _ ↔ decide _ = true
         rw [decide_eq_true_eq])
      | (refine ⟨?_, hF, W2⟩
         congr 2
         refine b2i_congr ?_
         show _ ↔ decide _ = true
         rw [decide_eq_true_eq])
      | (refine ⟨?_, hF, ?_⟩
         · show _ = some (Value.int (b2i (mvB D S (r : Int) y = true)))
           rw [b2i_1 hm]
         · show TM M2 l D (k + 1) (if mvB D S (r : Int) y then mvS S (r : Int) y else S) b
           rw [if_pos hm]
           exact TM.kk (V2.m (TOK.bd hO.of hn2 b1.1 b2.1)) (by omega))
      | (have hm : ¬ mvB D S x y = true := fun q => by
           first
             | exact b2 (of_decide_eq_true (band.mp q).2)
             | exact b1 (of_decide_eq_true (band.mp q).1)
         refine ⟨?_, Fm.rf, ?_⟩
         · show _ = some (Value.int (b2i (mvB D S x y = true)))
           rw [b2i_0 hm]
         · show TM M l D (k + 1) (if mvB D S x y then mvS S x y else S) b
           rw [if_neg hm]
           exact W.kk (by omega))
  · refine G_S (pc := 20) f_245_20 rfl rfl rfl ?_
    refine G_S (pc := 71) f_245_71 rfl rfl rfl ?_
    refine G_S (pc := 72) f_245_72 rfl rfl rfl ?_
    refine G_CV (pc := 73) f_245_73 rfl rfl (by decide) rfl rfl (by first | assumption | exact hK.1 _ _ rfl) (by decide) ⟨Nat.le_of_ble_eq_true rfl, Nat.le_of_ble_eq_true rfl⟩ ?_
    refine CG.go (ta) ?_
    first | refine G_bEq (pc := 76) f_245_76 rfl (fun b1 => ?_) (fun b1 => ?_) | refine G_zeqZ (pc := 76) f_245_76 rfl (by first | exact nI_toInt (by omega) | exact zI_toInt (by omega) (by omega) | rfl) (fun b1 => ?_) (fun b1 => ?_)
    · refine G_ic (v := nI 0) (pc := 87) f_245_87 (by decide) ?_
      refine G_rz (pc := 88) f_245_88 (by first | exact Or.inl rfl | exact Or.inr rfl | exact b2i_01 _ | assumption) ?_
      first
        | exact ⟨rfl, hF, W2.kk (by omega)⟩
        | exact ⟨rfl, hF, W2⟩
        | (refine ⟨?_, hF, W2.kk (by omega)⟩
           congr 2
           refine b2i_congr ?_
           show _ ↔ decide _ = true
           rw [decide_eq_true_eq])
        | (refine ⟨?_, hF, W2⟩
           congr 2
           refine b2i_congr ?_
           show _ ↔ decide _ = true
           rw [decide_eq_true_eq])
        | (refine ⟨?_, hF, ?_⟩
           · show _ = some (Value.int (b2i (mvB D S (r : Int) y = true)))
             rw [b2i_1 hm]
           · show TM M2 l D (k + 1) (if mvB D S (r : Int) y then mvS S (r : Int) y else S) b
             rw [if_pos hm]
             exact TM.kk (V2.m (TOK.bd hO.of hn2 b1.1 b2.1)) (by omega))
        | (have hm : ¬ mvB D S x y = true := fun q => by
             first
               | exact b2 (of_decide_eq_true (band.mp q).2)
               | exact b1 (of_decide_eq_true (band.mp q).1)
           refine ⟨?_, Fm.rf, ?_⟩
           · show _ = some (Value.int (b2i (mvB D S x y = true)))
             rw [b2i_0 hm]
           · show TM M l D (k + 1) (if mvB D S x y then mvS S x y else S) b
             rw [if_neg hm]
             exact W.kk (by omega))
    · refine G_S (pc := 79) f_245_79 rfl rfl rfl ?_
      refine G_S (pc := 80) f_245_80 rfl rfl rfl ?_
      refine G_CV (pc := 81) f_245_81 rfl rfl (by decide) rfl rfl (by first | assumption | exact hK.1 _ _ rfl) (by decide) ⟨Nat.le_of_ble_eq_true rfl, Nat.le_of_ble_eq_true rfl⟩ ?_
      refine CG.go (tf) ?_
      first | refine G_bNe (pc := 84) f_245_84 rfl (fun b2 => ?_) (fun b2 => ?_) | refine G_zneZ (pc := 84) f_245_84 rfl (by first | exact nI_toInt (by omega) | exact zI_toInt (by omega) (by omega) | rfl) (fun b2 => ?_) (fun b2 => ?_)
      · obtain ⟨r, hr⟩ : ∃ r : Nat, x = (r : Int) := ⟨x.toNat, by omega⟩
        subst hr
        rw [← nI_zI r]
        have ha := b1.2
        rw [Int.toNat_natCast] at ha
        have hm : mvB D S (r : Int) y = true := band.mpr ⟨decide_eq_true b1, decide_eq_true b2⟩
        refine G_S (pc := 89) f_245_89 rfl rfl rfl ?_
        refine G_S (pc := 90) f_245_90 rfl rfl rfl ?_
        refine G_S (pc := 91) f_245_91 rfl rfl rfl ?_
        refine G_CV (pc := 92) f_245_92 rfl rfl (by decide) rfl rfl (by first | assumption | exact hK.1 _ _ rfl) (by decide) ⟨Nat.le_of_ble_eq_true rfl, Nat.le_of_ble_eq_true rfl⟩ ?_
        refine CG.mono (n_sits W (by omega) ⟨by omega, by omega⟩) ?_
        rintro _ M2 ⟨rfl, hF, V2⟩
        rw [sdS_mv (of_decide_eq_true ha) (by omega)] at V2
        refine G_ic (v := nI 1) (pc := 95) f_245_95 (by decide) ?_
        refine G_rz (pc := 96) f_245_96 (by first | exact Or.inl rfl | exact Or.inr rfl | exact b2i_01 _ | assumption) ?_
        first
          | exact ⟨rfl, hF, W2.kk (by omega)⟩
          | exact ⟨rfl, hF, W2⟩
          | (refine ⟨?_, hF, W2.kk (by omega)⟩
             congr 2
             refine b2i_congr ?_
             show _ ↔ decide _ = true
             rw [decide_eq_true_eq])
          | (refine ⟨?_, hF, W2⟩
             congr 2
             refine b2i_congr ?_
             show _ ↔ decide _ = true
             rw [decide_eq_true_eq])
          | (refine ⟨?_, hF, ?_⟩
             · show _ = some (Value.int (b2i (mvB D S (r : Int) y = true)))
               rw [b2i_1 hm]
             · show TM M2 l D (k + 1) (if mvB D S (r : Int) y then mvS S (r : Int) y else S) b
               rw [if_pos hm]
               exact TM.kk (V2.m (TOK.bd hO.of hn2 b1.1 b2.1)) (by omega))
          | (have hm : ¬ mvB D S x y = true := fun q => by
               first
                 | exact b2 (of_decide_eq_true (band.mp q).2)
                 | exact b1 (of_decide_eq_true (band.mp q).1)
             refine ⟨?_, Fm.rf, ?_⟩
             · show _ = some (Value.int (b2i (mvB D S x y = true)))
               rw [b2i_0 hm]
             · show TM M l D (k + 1) (if mvB D S x y then mvS S x y else S) b
               rw [if_neg hm]
               exact W.kk (by omega))
      · refine G_ic (v := nI 0) (pc := 87) f_245_87 (by decide) ?_
        refine G_rz (pc := 88) f_245_88 (by first | exact Or.inl rfl | exact Or.inr rfl | exact b2i_01 _ | assumption) ?_
        first
          | exact ⟨rfl, hF, W2.kk (by omega)⟩
          | exact ⟨rfl, hF, W2⟩
          | (refine ⟨?_, hF, W2.kk (by omega)⟩
             congr 2
             refine b2i_congr ?_
             show _ ↔ decide _ = true
             rw [decide_eq_true_eq])
          | (refine ⟨?_, hF, W2⟩
             congr 2
             refine b2i_congr ?_
             show _ ↔ decide _ = true
             rw [decide_eq_true_eq])
          | (refine ⟨?_, hF, ?_⟩
             · show _ = some (Value.int (b2i (mvB D S (r : Int) y = true)))
               rw [b2i_1 hm]
             · show TM M2 l D (k + 1) (if mvB D S (r : Int) y then mvS S (r : Int) y else S) b
               rw [if_pos hm]
               exact TM.kk (V2.m (TOK.bd hO.of hn2 b1.1 b2.1)) (by omega))
          | (have hm : ¬ mvB D S x y = true := fun q => by
               first
                 | exact b2 (of_decide_eq_true (band.mp q).2)
                 | exact b1 (of_decide_eq_true (band.mp q).1)
             refine ⟨?_, Fm.rf, ?_⟩
             · show _ = some (Value.int (b2i (mvB D S x y = true)))
               rw [b2i_0 hm]
             · show TM M l D (k + 1) (if mvB D S x y then mvS S x y else S) b
               rw [if_neg hm]
               exact W.kk (by omega))
  · refine G_S (pc := 20) f_245_20 rfl rfl rfl ?_
    refine G_S (pc := 97) f_245_97 rfl rfl rfl ?_
    refine G_S (pc := 98) f_245_98 rfl rfl rfl ?_
    refine G_CV (pc := 99) f_245_99 rfl rfl (by decide) rfl rfl (by first | assumption | exact hK.1 _ _ rfl) (by decide) ⟨Nat.le_of_ble_eq_true rfl, Nat.le_of_ble_eq_true rfl⟩ ?_
    refine CG.mono (tg) ?_
    rintro _ M2 ⟨rfl, hF, W2⟩
    refine G_rz (pc := 102) f_245_102 (by first | exact Or.inl rfl | exact Or.inr rfl | exact b2i_01 _ | assumption) ?_
    first
      | exact ⟨rfl, hF, W2.kk (by omega)⟩
      | exact ⟨rfl, hF, W2⟩
      | (refine ⟨?_, hF, W2.kk (by omega)⟩
         congr 2
         refine b2i_congr ?_
         show _ ↔ decide _ = true
         rw [decide_eq_true_eq])
      | (refine ⟨?_, hF, W2⟩
         congr 2
         refine b2i_congr ?_
         show _ ↔ decide _ = true
         rw [decide_eq_true_eq])
      | (refine ⟨?_, hF, ?_⟩
         · show _ = some (Value.int (b2i (mvB D S (r : Int) y = true)))
           rw [b2i_1 hm]
         · show TM M2 l D (k + 1) (if mvB D S (r : Int) y then mvS S (r : Int) y else S) b
           rw [if_pos hm]
           exact TM.kk (V2.m (TOK.bd hO.of hn2 b1.1 b2.1)) (by omega))
      | (have hm : ¬ mvB D S x y = true := fun q => by
           first
             | exact b2 (of_decide_eq_true (band.mp q).2)
             | exact b1 (of_decide_eq_true (band.mp q).1)
         refine ⟨?_, Fm.rf, ?_⟩
         · show _ = some (Value.int (b2i (mvB D S x y = true)))
           rw [b2i_0 hm]
         · show TM M l D (k + 1) (if mvB D S x y then mvS S x y else S) b
           rw [if_neg hm]
           exact W.kk (by omega))
  · refine G_S (pc := 20) f_245_20 rfl rfl rfl ?_
    refine G_S (pc := 103) f_245_103 rfl rfl rfl ?_
    refine G_S (pc := 104) f_245_104 rfl rfl rfl ?_
    refine G_CV (pc := 105) f_245_105 rfl rfl (by decide) rfl rfl (by first | assumption | exact hK.1 _ _ rfl) (by decide) ⟨Nat.le_of_ble_eq_true rfl, Nat.le_of_ble_eq_true rfl⟩ ?_
    refine CG.mono (n_tells W rfl (by omega) (by omega)) ?_
    rintro _ M2 ⟨rfl, hF, W2⟩
    refine G_ic (v := nI 1) (pc := 108) f_245_108 (by decide) ?_
    refine G_rz (pc := 109) f_245_109 (by first | exact Or.inl rfl | exact Or.inr rfl | exact b2i_01 _ | assumption) ?_
    first
      | exact ⟨rfl, hF, W2.kk (by omega)⟩
      | exact ⟨rfl, hF, W2⟩
      | (refine ⟨?_, hF, W2.kk (by omega)⟩
         congr 2
         refine b2i_congr ?_
         show _ ↔ decide _ = true
         rw [decide_eq_true_eq])
      | (refine ⟨?_, hF, W2⟩
         congr 2
         refine b2i_congr ?_
         show _ ↔ decide _ = true
         rw [decide_eq_true_eq])
      | (refine ⟨?_, hF, ?_⟩
         · show _ = some (Value.int (b2i (mvB D S (r : Int) y = true)))
           rw [b2i_1 hm]
         · show TM M2 l D (k + 1) (if mvB D S (r : Int) y then mvS S (r : Int) y else S) b
           rw [if_pos hm]
           exact TM.kk (V2.m (TOK.bd hO.of hn2 b1.1 b2.1)) (by omega))
      | (have hm : ¬ mvB D S x y = true := fun q => by
           first
             | exact b2 (of_decide_eq_true (band.mp q).2)
             | exact b1 (of_decide_eq_true (band.mp q).1)
         refine ⟨?_, Fm.rf, ?_⟩
         · show _ = some (Value.int (b2i (mvB D S x y = true)))
           rw [b2i_0 hm]
         · show TM M l D (k + 1) (if mvB D S x y then mvS S x y else S) b
           rw [if_neg hm]
           exact W.kk (by omega))
  · refine G_S (pc := 20) f_245_20 rfl rfl rfl ?_
    refine G_S (pc := 110) f_245_110 rfl rfl rfl ?_
    refine G_S (pc := 111) f_245_111 rfl rfl rfl ?_
    first | refine G_negZ (pc := 112) f_245_112 (by first | rfl | exact nI_zI _) ?_ | refine G_S (pc := 112) f_245_112 rfl rfl rfl ?_
    refine G_CV (pc := 113) f_245_113 rfl rfl (by decide) rfl rfl (by first | assumption | exact hK.1 _ _ rfl) (by decide) ⟨Nat.le_of_ble_eq_true rfl, Nat.le_of_ble_eq_true rfl⟩ ?_
    refine CG.mono (n_tells W rfl (by omega) (by omega)) ?_
    rintro _ M2 ⟨rfl, hF, W2⟩
    refine G_ic (v := nI 1) (pc := 116) f_245_116 (by decide) ?_
    refine G_rz (pc := 117) f_245_117 (by first | exact Or.inl rfl | exact Or.inr rfl | exact b2i_01 _ | assumption) ?_
    first
      | exact ⟨rfl, hF, W2.kk (by omega)⟩
      | exact ⟨rfl, hF, W2⟩
      | (refine ⟨?_, hF, W2.kk (by omega)⟩
         congr 2
         refine b2i_congr ?_
         show _ ↔ decide _ = true
         rw [decide_eq_true_eq])
      | (refine ⟨?_, hF, W2⟩
         congr 2
         refine b2i_congr ?_
         show _ ↔ decide _ = true
         rw [decide_eq_true_eq])
      | (refine ⟨?_, hF, ?_⟩
         · show _ = some (Value.int (b2i (mvB D S (r : Int) y = true)))
           rw [b2i_1 hm]
         · show TM M2 l D (k + 1) (if mvB D S (r : Int) y then mvS S (r : Int) y else S) b
           rw [if_pos hm]
           exact TM.kk (V2.m (TOK.bd hO.of hn2 b1.1 b2.1)) (by omega))
      | (have hm : ¬ mvB D S x y = true := fun q => by
           first
             | exact b2 (of_decide_eq_true (band.mp q).2)
             | exact b1 (of_decide_eq_true (band.mp q).1)
         refine ⟨?_, Fm.rf, ?_⟩
         · show _ = some (Value.int (b2i (mvB D S x y = true)))
           rw [b2i_0 hm]
         · show TM M l D (k + 1) (if mvB D S x y then mvS S x y else S) b
           rw [if_neg hm]
           exact W.kk (by omega))
  · refine G_S (pc := 20) f_245_20 rfl rfl rfl ?_
    refine G_S (pc := 118) f_245_118 rfl rfl rfl ?_
    refine G_CV (pc := 119) f_245_119 rfl rfl (by decide) rfl rfl (by first | assumption | exact hK.1 _ _ rfl) (by decide) ⟨Nat.le_of_ble_eq_true rfl, Nat.le_of_ble_eq_true rfl⟩ ?_
    refine CG.mono (n_goes W hk) ?_
    rintro _ M2 ⟨rfl, hF, W2⟩
    refine G_rz (pc := 122) f_245_122 (by first | exact Or.inl rfl | exact Or.inr rfl | exact b2i_01 _ | assumption) ?_
    first
      | exact ⟨rfl, hF, W2.kk (by omega)⟩
      | exact ⟨rfl, hF, W2⟩
      | (refine ⟨?_, hF, W2.kk (by omega)⟩
         congr 2
         refine b2i_congr ?_
         show _ ↔ decide _ = true
         rw [decide_eq_true_eq])
      | (refine ⟨?_, hF, W2⟩
         congr 2
         refine b2i_congr ?_
         show _ ↔ decide _ = true
         rw [decide_eq_true_eq])
      | (refine ⟨?_, hF, ?_⟩
         · show _ = some (Value.int (b2i (mvB D S (r : Int) y = true)))
           rw [b2i_1 hm]
         · show TM M2 l D (k + 1) (if mvB D S (r : Int) y then mvS S (r : Int) y else S) b
           rw [if_pos hm]
           exact TM.kk (V2.m (TOK.bd hO.of hn2 b1.1 b2.1)) (by omega))
      | (have hm : ¬ mvB D S x y = true := fun q => by
           first
             | exact b2 (of_decide_eq_true (band.mp q).2)
             | exact b1 (of_decide_eq_true (band.mp q).1)
         refine ⟨?_, Fm.rf, ?_⟩
         · show _ = some (Value.int (b2i (mvB D S x y = true)))
           rw [b2i_0 hm]
         · show TM M l D (k + 1) (if mvB D S x y then mvS S x y else S) b
           rw [if_neg hm]
           exact W.kk (by omega))
  · refine G_S (pc := 20) f_245_20 rfl rfl rfl ?_
    refine G_S (pc := 123) f_245_123 rfl rfl rfl ?_
    refine G_CV (pc := 124) f_245_124 rfl rfl (by decide) rfl rfl (by first | assumption | exact hK.1 _ _ rfl) (by decide) ⟨Nat.le_of_ble_eq_true rfl, Nat.le_of_ble_eq_true rfl⟩ ?_
    refine CG.mono (n_shares W) ?_
    rintro _ M2 ⟨rfl, hF, W2⟩
    refine G_ic (v := nI 1) (pc := 127) f_245_127 (by decide) ?_
    refine G_rz (pc := 128) f_245_128 (by first | exact Or.inl rfl | exact Or.inr rfl | exact b2i_01 _ | assumption) ?_
    first
      | exact ⟨rfl, hF, W2.kk (by omega)⟩
      | exact ⟨rfl, hF, W2⟩
      | (refine ⟨?_, hF, W2.kk (by omega)⟩
         congr 2
         refine b2i_congr ?_
         show _ ↔ decide _ = true
         rw [decide_eq_true_eq])
      | (refine ⟨?_, hF, W2⟩
         congr 2
         refine b2i_congr ?_
         show _ ↔ decide _ = true
         rw [decide_eq_true_eq])
      | (refine ⟨?_, hF, ?_⟩
         · show _ = some (Value.int (b2i (mvB D S (r : Int) y = true)))
           rw [b2i_1 hm]
         · show TM M2 l D (k + 1) (if mvB D S (r : Int) y then mvS S (r : Int) y else S) b
           rw [if_pos hm]
           exact TM.kk (V2.m (TOK.bd hO.of hn2 b1.1 b2.1)) (by omega))
      | (have hm : ¬ mvB D S x y = true := fun q => by
           first
             | exact b2 (of_decide_eq_true (band.mp q).2)
             | exact b1 (of_decide_eq_true (band.mp q).1)
         refine ⟨?_, Fm.rf, ?_⟩
         · show _ = some (Value.int (b2i (mvB D S x y = true)))
           rw [b2i_0 hm]
         · show TM M l D (k + 1) (if mvB D S x y then mvS S x y else S) b
           rw [if_neg hm]
           exact W.kk (by omega))
  · refine G_tsO (pc := 20) f_245_20 rfl ((Or.inr (by decide))) ?_
    refine G_S (pc := 129) f_245_129 rfl rfl rfl ?_
    refine G_CV (pc := 130) f_245_130 rfl rfl (by decide) rfl rfl (by first | assumption | exact hK.1 _ _ rfl) (by decide) ⟨Nat.le_of_ble_eq_true rfl, Nat.le_of_ble_eq_true rfl⟩ ?_
    refine CG.mono (n_back W) ?_
    rintro _ M2 ⟨rfl, hF, W2⟩
    refine G_rz (pc := 133) f_245_133 (by first | exact Or.inl rfl | exact Or.inr rfl | exact b2i_01 _ | assumption) ?_
    first
      | exact ⟨rfl, hF, W2.kk (by omega)⟩
      | exact ⟨rfl, hF, W2⟩
      | (refine ⟨?_, hF, W2.kk (by omega)⟩
         congr 2
         refine b2i_congr ?_
         show _ ↔ decide _ = true
         rw [decide_eq_true_eq])
      | (refine ⟨?_, hF, W2⟩
         congr 2
         refine b2i_congr ?_
         show _ ↔ decide _ = true
         rw [decide_eq_true_eq])
      | (refine ⟨?_, hF, ?_⟩
         · show _ = some (Value.int (b2i (mvB D S (r : Int) y = true)))
           rw [b2i_1 hm]
         · show TM M2 l D (k + 1) (if mvB D S (r : Int) y then mvS S (r : Int) y else S) b
           rw [if_pos hm]
           exact TM.kk (V2.m (TOK.bd hO.of hn2 b1.1 b2.1)) (by omega))
      | (have hm : ¬ mvB D S x y = true := fun q => by
           first
             | exact b2 (of_decide_eq_true (band.mp q).2)
             | exact b1 (of_decide_eq_true (band.mp q).1)
         refine ⟨?_, Fm.rf, ?_⟩
         · show _ = some (Value.int (b2i (mvB D S x y = true)))
           rw [b2i_0 hm]
         · show TM M l D (k + 1) (if mvB D S x y then mvS S x y else S) b
           rw [if_neg hm]
           exact W.kk (by omega))
theorem n_does {j : Nat} (W : TM M l D k S b) (V : mR M g R) (hj : (j : Int) < R 0) (hk : k ≤ 1000000) : CG C 245 [.ref 98, .int (nI j)] M (fun w M' => w = some (.int (b2i (dB D (R (1 + 3 * j)) (R (2 + 3 * j)) (R (3 + 3 * j)) S = true))) ∧ Fm TO TFs M M' ∧ TM M' l D (k + 1) (dF D (R (1 + 3 * j)) (R (2 + 3 * j)) (R (3 + 3 * j)) S b).1 (dF D (R (1 + 3 * j)) (R (2 + 3 * j)) (R (3 + 3 * j)) S b).2) := by
  have hRj := V.2.2.2.1.2 j hj
  have T1 := n_deedOf (C := C) (x := 1) V hj (by decide)
  have T2 := n_deedOf (C := C) (x := 2) V hj (by decide)
  have T3 := n_deedOf (C := C) (x := 0) V hj (by decide)
  rw [show 1 + 3 * j + 1 = 2 + 3 * j by omega] at T1
  rw [show 1 + 3 * j + 2 = 3 + 3 * j by omega] at T2
  rw [Nat.add_zero] at T3
  obtain ⟨e, he⟩ : ∃ e : Nat, R (1 + 3 * j) = (e : Int) := ⟨(R (1 + 3 * j)).toNat, by omega⟩
  rw [he, ← nI_zI] at T3
  rw [he] at hRj ⊢
  exact n_doesG W T1 T2 T3 (by omega) hRj.2.1 hRj.2.2 hk
theorem n_play {m : Nat} (W : mH M l D) (V : mR M g R) (hm : (m : Int) ≤ R 0) : CG C 246 [.ref 98, .int (nI m)] M (fun w M' => w = some (.int (nI (rnF D R m 0 S0 (fun r => D (19 + r))).1)) ∧ Fm TO TFs M M' ∧ ((rnF D R m 0 S0 (fun r => D (19 + r))).1 = m → TM M' l D m (rnF D R m 0 S0 (fun r => D (19 + r))).2.1 (rnF D R m 0 S0 (fun r => D (19 + r))).2.2)) := by
  have hR0 := V.2.2.2.1.1
  have loop : ∀ d i, i + d = m → ∀ M1 S b, TM M1 l D i S b → mR M1 g R → G C 246 (6, [some (.ref 98), some (.int (nI m)), some (.int (nI i))], [], [], M1) (fun w M' => w = some (.int (nI (rnF D R d i S b).1)) ∧ Fm TO TFs M1 M' ∧ ((rnF D R d i S b).1 = m → TM M' l D m (rnF D R d i S b).2.1 (rnF D R d i S b).2.2)) := by
    intro d
    induction d with
    | zero =>
      intro i hi M1 S b W V
      have e : i = m := by omega
      subst e
      refine G_S (pc := 6) f_246_6 rfl rfl rfl ?_
      refine G_S (pc := 7) f_246_7 rfl rfl rfl ?_
      refine G_jgeZ (pc := 8) f_246_8 rfl (by first | exact nI_toInt (by omega) | exact zI_toInt (by omega) (by omega) | rfl) (by first | exact nI_toInt (by omega) | exact zI_toInt (by omega) (by omega) | rfl) (fun b1 => ?_) (fun b1 => ?_)
      · refine G_S (pc := 25) f_246_25 rfl rfl rfl ?_
        refine G_ri (pc := 26) f_246_26 ?_
        exact ⟨rfl, Fm.rf, fun _ => W⟩
      · exfalso; omega
    | succ d ih =>
      intro i hi M1 S b W V
      have hK := V.1
      refine G_S (pc := 6) f_246_6 rfl rfl rfl ?_
      refine G_S (pc := 7) f_246_7 rfl rfl rfl ?_
      refine G_jgeZ (pc := 8) f_246_8 rfl (by first | exact nI_toInt (by omega) | exact zI_toInt (by omega) (by omega) | rfl) (by first | exact nI_toInt (by omega) | exact zI_toInt (by omega) (by omega) | rfl) (fun b1 => ?_) (fun b1 => ?_)
      · exfalso; omega
      · refine G_S (pc := 11) f_246_11 rfl rfl rfl ?_
        refine G_S (pc := 12) f_246_12 rfl rfl rfl ?_
        refine G_CV (pc := 13) f_246_13 rfl rfl (by decide) rfl rfl (by first | assumption | exact hK.1 _ _ rfl) (by decide) ⟨Nat.le_of_ble_eq_true rfl, Nat.le_of_ble_eq_true rfl⟩ ?_
        refine CG.mono (n_does W V (by omega) (by omega)) ?_
        rintro _ M2 ⟨rfl, hF, W2⟩
        first | refine G_bEq (pc := 16) f_246_16 rfl (fun b2 => ?_) (fun b2 => ?_) | refine G_zeqZ (pc := 16) f_246_16 rfl (by first | exact nI_toInt (by omega) | exact zI_toInt (by omega) (by omega) | rfl) (fun b2 => ?_) (fun b2 => ?_)
        · refine G_S (pc := 25) f_246_25 rfl rfl rfl ?_
          refine G_ri (pc := 26) f_246_26 ?_
          rw [rnF, if_neg b2]
          exact ⟨rfl, hF, fun q => absurd (show i = m from q) (by omega)⟩
        · first | refine G_inc1 (pc := 19) f_246_19 rfl ?_ | refine G_S (pc := 19) f_246_19 rfl rfl rfl ?_
          refine G_S (pc := 22) f_246_22 rfl rfl rfl ?_
          refine G.mono (ih (i + 1) (by omega) M2 _ _ W2 (V.fm hF (by decide) (by decide))) ?_
          rintro w M9 ⟨g1, g2, g3⟩
          rw [rnF, if_pos b2]
          exact ⟨g1, hF.tr g2, g3⟩
  have hK := V.1
  refine CG_in (mL := 3) (hl := false) (lv := [some (.ref 98), some (.int (nI m)), none]) (ll := []) rfl rfl rfl ?_
  refine G_S (pc := 0) f_246_0 rfl rfl rfl ?_
  refine G_CV (pc := 1) f_246_1 rfl rfl (by decide) rfl rfl (by first | assumption | exact hK.1 _ _ rfl) (by decide) ⟨Nat.le_of_ble_eq_true rfl, Nat.le_of_ble_eq_true rfl⟩ ?_
  refine CG.mono (n_begin W) ?_
  rintro _ M2 ⟨rfl, hF, W2⟩
  refine G_ic (v := nI 0) (pc := 4) f_246_4 (by decide) ?_
  refine G_S (pc := 5) f_246_5 rfl rfl rfl ?_
  refine G.mono (loop m 0 (by omega) M2 _ _ W2 (V.fm hF (by decide) (by decide))) ?_
  rintro w M9 ⟨g1, g2, g3⟩
  exact ⟨g1, hF.tr g2, g3⟩
theorem n_ofState {x : Int32} (W : TM M l D k S b) : CG C 249 [.ref 98, .int x] M (fun w M' => w = some (.int (asF D S b x)) ∧ M' = M) := by
  have hK := W.1.1
  have hH := W.1.2
  obtain ⟨⟨a0, a1, a2, a3⟩, hl8, hD, ao⟩ := W.1.2
  have hn0 : _ ≤ 8 := hD.1
  have hn1 : _ ≤ 6 := hD.2.1.2
  have hn2 : _ ≤ 8 := hD.2.2.1
  obtain ⟨⟨s0, s1, s2, s3⟩, q1, q2, q3, hO⟩ := W.2
  obtain ⟨o0, o1, o2, o3, o4, o5, o6⟩ := hO
  have big : ∀ c, c < 2 ^ 31 → ∀ p r : Nat, 10 ≤ c → c / 10 = p → c % 10 = r → asF D S b (nI c) = asP D S b p r := by
    intro c hc p r h10 hp hr
    subst hp
    subst hr
    rw [asF_d (by rw [nI_toInt hc]; omega), nI_toInt hc, if_neg (by omega), Int.toNat_natCast]
  by_cases h1 : 10 ≤ x.toInt ∧ x.toInt ≤ 9 + (D 2 : Int)
  · obtain ⟨c, hc, rfl⟩ := i_nat (x := x) (n := 18) (by omega) (by omega)
    rw [nI_toInt (by omega)] at h1
    have p1 := q1 (c - 10) (by omega)
    refine CG_in (mL := 5) (hl := false) (lv := [some (.ref 98), some (.int (nI c)), none, none, none]) (ll := []) rfl rfl rfl ?_
    refine G_S (pc := 0) f_249_0 rfl rfl rfl ?_
    refine G_bi (v := nI 10) (pc := 1) f_249_1 (by decide) ?_
    refine G_bi (v := nI 9) (pc := 3) f_249_3 (by decide) ?_
    refine G_S (pc := 5) f_249_5 rfl rfl rfl ?_
    refine G_gIv (pc := 6) f_249_6 (by decide) rfl (by decide) (by first | assumption | exact hK.1 _ _ rfl) (by first | assumption | exact mI_s | ((refine mI_o (by first | decide | omega) ?_); (repeat (refine mI_o (by first | decide | omega) ?_)); first | exact mI_s | assumption) | rfl) ?_
    first | refine G_addN (pc := 9) f_249_9 ?_ | refine G_addZ (pc := 9) f_249_9 (by first | rfl | exact nI_zI _) (by first | rfl | exact nI_zI _) ?_ | refine G_S (pc := 9) f_249_9 rfl rfl rfl ?_
    refine G_CS (pc := 10) f_249_10 rfl rfl (by decide) rfl rfl ⟨Nat.le_of_ble_eq_true rfl, Nat.le_of_ble_eq_true rfl⟩ ?_
    refine CG.go (m_inZ (by first | exact nI_toInt (by omega) | exact zI_toInt (by omega) (by omega) | rfl) (by first | exact nI_toInt (by omega) | exact zI_toInt (by omega) (by omega) | rfl) (by first | exact nI_toInt (by omega) | exact zI_toInt (by omega) (by omega) | rfl)) ?_
    first | refine G_bEq (pc := 13) f_249_13 rfl (fun b1 => ?_) (fun b1 => ?_) | refine G_zeqZ (pc := 13) f_249_13 rfl (by first | exact nI_toInt (by omega) | exact zI_toInt (by omega) (by omega) | rfl) (fun b1 => ?_) (fun b1 => ?_)
    · exfalso; omega
    · refine G_S (pc := 16) f_249_16 rfl rfl rfl ?_
      refine G_gR (pc := 17) f_249_17 (by decide) rfl (by first | assumption | exact hK.1 _ _ rfl) (by first | assumption | exact hK.2 _ _ _ rfl | (try dsimp only) <;> (repeat (first | exact up2_s | refine up2_o (by first | decide | omega) ?_)) <;> first | assumption | exact hK.2 _ _ _ rfl) ?_
      refine G_S (pc := 20) f_249_20 rfl rfl rfl ?_
      refine G_bi (v := nI 10) (pc := 21) f_249_21 (by decide) ?_
      first | refine G_subN (pc := 23) f_249_23 (by omega) ?_ | refine G_subZ (pc := 23) f_249_23 (by first | rfl | exact nI_zI _) (by first | rfl | exact nI_zI _) ?_ | refine G_S (pc := 23) f_249_23 rfl rfl rfl ?_
      refine G_iaN (pc := 24) f_249_24 (by first | assumption | exact hK.1 _ _ rfl) (by omega) (by omega) (by first | exact p1 | rfl) ?_
      refine G_ri (pc := 25) f_249_25 ?_
      refine ⟨?_, rfl⟩
      rw [big c (by omega) 1 (c - 10) (by omega) (by omega) (by omega), asP, if_pos rfl, if_pos (by omega)]
  by_cases h2 : 20 ≤ x.toInt ∧ x.toInt ≤ 19 + (D 2 : Int)
  · obtain ⟨c, hc, rfl⟩ := i_nat (x := x) (n := 28) (by omega) (by omega)
    rw [nI_toInt (by omega)] at h2
    have p1 := q2 (c - 20) (by omega)
    refine CG_in (mL := 5) (hl := false) (lv := [some (.ref 98), some (.int (nI c)), none, none, none]) (ll := []) rfl rfl rfl ?_
    refine G_S (pc := 0) f_249_0 rfl rfl rfl ?_
    refine G_bi (v := nI 10) (pc := 1) f_249_1 (by decide) ?_
    refine G_bi (v := nI 9) (pc := 3) f_249_3 (by decide) ?_
    refine G_S (pc := 5) f_249_5 rfl rfl rfl ?_
    refine G_gIv (pc := 6) f_249_6 (by decide) rfl (by decide) (by first | assumption | exact hK.1 _ _ rfl) (by first | assumption | exact mI_s | ((refine mI_o (by first | decide | omega) ?_); (repeat (refine mI_o (by first | decide | omega) ?_)); first | exact mI_s | assumption) | rfl) ?_
    first | refine G_addN (pc := 9) f_249_9 ?_ | refine G_addZ (pc := 9) f_249_9 (by first | rfl | exact nI_zI _) (by first | rfl | exact nI_zI _) ?_ | refine G_S (pc := 9) f_249_9 rfl rfl rfl ?_
    refine G_CS (pc := 10) f_249_10 rfl rfl (by decide) rfl rfl ⟨Nat.le_of_ble_eq_true rfl, Nat.le_of_ble_eq_true rfl⟩ ?_
    refine CG.go (m_inZ (by first | exact nI_toInt (by omega) | exact zI_toInt (by omega) (by omega) | rfl) (by first | exact nI_toInt (by omega) | exact zI_toInt (by omega) (by omega) | rfl) (by first | exact nI_toInt (by omega) | exact zI_toInt (by omega) (by omega) | rfl)) ?_
    first | refine G_bEq (pc := 13) f_249_13 rfl (fun b1 => ?_) (fun b1 => ?_) | refine G_zeqZ (pc := 13) f_249_13 rfl (by first | exact nI_toInt (by omega) | exact zI_toInt (by omega) (by omega) | rfl) (fun b1 => ?_) (fun b1 => ?_)
    · refine G_S (pc := 26) f_249_26 rfl rfl rfl ?_
      refine G_bi (v := nI 20) (pc := 27) f_249_27 (by decide) ?_
      refine G_bi (v := nI 19) (pc := 29) f_249_29 (by decide) ?_
      refine G_S (pc := 31) f_249_31 rfl rfl rfl ?_
      refine G_gIv (pc := 32) f_249_32 (by decide) rfl (by decide) (by first | assumption | exact hK.1 _ _ rfl) (by first | assumption | exact mI_s | ((refine mI_o (by first | decide | omega) ?_); (repeat (refine mI_o (by first | decide | omega) ?_)); first | exact mI_s | assumption) | rfl) ?_
      first | refine G_addN (pc := 35) f_249_35 ?_ | refine G_addZ (pc := 35) f_249_35 (by first | rfl | exact nI_zI _) (by first | rfl | exact nI_zI _) ?_ | refine G_S (pc := 35) f_249_35 rfl rfl rfl ?_
      refine G_CS (pc := 36) f_249_36 rfl rfl (by decide) rfl rfl ⟨Nat.le_of_ble_eq_true rfl, Nat.le_of_ble_eq_true rfl⟩ ?_
      refine CG.go (m_inZ (by first | exact nI_toInt (by omega) | exact zI_toInt (by omega) (by omega) | rfl) (by first | exact nI_toInt (by omega) | exact zI_toInt (by omega) (by omega) | rfl) (by first | exact nI_toInt (by omega) | exact zI_toInt (by omega) (by omega) | rfl)) ?_
      first | refine G_bEq (pc := 39) f_249_39 rfl (fun b2 => ?_) (fun b2 => ?_) | refine G_zeqZ (pc := 39) f_249_39 rfl (by first | exact nI_toInt (by omega) | exact zI_toInt (by omega) (by omega) | rfl) (fun b2 => ?_) (fun b2 => ?_)
      · exfalso; omega
      · refine G_S (pc := 42) f_249_42 rfl rfl rfl ?_
        refine G_gR (pc := 43) f_249_43 (by decide) rfl (by first | assumption | exact hK.1 _ _ rfl) (by first | assumption | exact hK.2 _ _ _ rfl | (try dsimp only) <;> (repeat (first | exact up2_s | refine up2_o (by first | decide | omega) ?_)) <;> first | assumption | exact hK.2 _ _ _ rfl) ?_
        refine G_S (pc := 46) f_249_46 rfl rfl rfl ?_
        refine G_bi (v := nI 20) (pc := 47) f_249_47 (by decide) ?_
        first | refine G_subN (pc := 49) f_249_49 (by omega) ?_ | refine G_subZ (pc := 49) f_249_49 (by first | rfl | exact nI_zI _) (by first | rfl | exact nI_zI _) ?_ | refine G_S (pc := 49) f_249_49 rfl rfl rfl ?_
        refine G_iaN (pc := 50) f_249_50 (by first | assumption | exact hK.1 _ _ rfl) (by omega) (by omega) (by first | exact p1 | rfl) ?_
        refine G_ri (pc := 51) f_249_51 ?_
        refine ⟨?_, rfl⟩
        rw [big c (by omega) 2 (c - 20) (by omega) (by omega) (by omega), asP, if_neg (by decide), if_pos rfl, if_pos (by omega)]
    · exfalso; omega
  by_cases h3 : 30 ≤ x.toInt ∧ x.toInt ≤ 29 + (D 1 : Int)
  · obtain ⟨c, hc, rfl⟩ := i_nat (x := x) (n := 36) (by omega) (by omega)
    rw [nI_toInt (by omega)] at h3
    have p1 := q3 (c - 30) (by omega)
    refine CG_in (mL := 5) (hl := false) (lv := [some (.ref 98), some (.int (nI c)), none, none, none]) (ll := []) rfl rfl rfl ?_
    refine G_S (pc := 0) f_249_0 rfl rfl rfl ?_
    refine G_bi (v := nI 10) (pc := 1) f_249_1 (by decide) ?_
    refine G_bi (v := nI 9) (pc := 3) f_249_3 (by decide) ?_
    refine G_S (pc := 5) f_249_5 rfl rfl rfl ?_
    refine G_gIv (pc := 6) f_249_6 (by decide) rfl (by decide) (by first | assumption | exact hK.1 _ _ rfl) (by first | assumption | exact mI_s | ((refine mI_o (by first | decide | omega) ?_); (repeat (refine mI_o (by first | decide | omega) ?_)); first | exact mI_s | assumption) | rfl) ?_
    first | refine G_addN (pc := 9) f_249_9 ?_ | refine G_addZ (pc := 9) f_249_9 (by first | rfl | exact nI_zI _) (by first | rfl | exact nI_zI _) ?_ | refine G_S (pc := 9) f_249_9 rfl rfl rfl ?_
    refine G_CS (pc := 10) f_249_10 rfl rfl (by decide) rfl rfl ⟨Nat.le_of_ble_eq_true rfl, Nat.le_of_ble_eq_true rfl⟩ ?_
    refine CG.go (m_inZ (by first | exact nI_toInt (by omega) | exact zI_toInt (by omega) (by omega) | rfl) (by first | exact nI_toInt (by omega) | exact zI_toInt (by omega) (by omega) | rfl) (by first | exact nI_toInt (by omega) | exact zI_toInt (by omega) (by omega) | rfl)) ?_
    first | refine G_bEq (pc := 13) f_249_13 rfl (fun b1 => ?_) (fun b1 => ?_) | refine G_zeqZ (pc := 13) f_249_13 rfl (by first | exact nI_toInt (by omega) | exact zI_toInt (by omega) (by omega) | rfl) (fun b1 => ?_) (fun b1 => ?_)
    · refine G_S (pc := 26) f_249_26 rfl rfl rfl ?_
      refine G_bi (v := nI 20) (pc := 27) f_249_27 (by decide) ?_
      refine G_bi (v := nI 19) (pc := 29) f_249_29 (by decide) ?_
      refine G_S (pc := 31) f_249_31 rfl rfl rfl ?_
      refine G_gIv (pc := 32) f_249_32 (by decide) rfl (by decide) (by first | assumption | exact hK.1 _ _ rfl) (by first | assumption | exact mI_s | ((refine mI_o (by first | decide | omega) ?_); (repeat (refine mI_o (by first | decide | omega) ?_)); first | exact mI_s | assumption) | rfl) ?_
      first | refine G_addN (pc := 35) f_249_35 ?_ | refine G_addZ (pc := 35) f_249_35 (by first | rfl | exact nI_zI _) (by first | rfl | exact nI_zI _) ?_ | refine G_S (pc := 35) f_249_35 rfl rfl rfl ?_
      refine G_CS (pc := 36) f_249_36 rfl rfl (by decide) rfl rfl ⟨Nat.le_of_ble_eq_true rfl, Nat.le_of_ble_eq_true rfl⟩ ?_
      refine CG.go (m_inZ (by first | exact nI_toInt (by omega) | exact zI_toInt (by omega) (by omega) | rfl) (by first | exact nI_toInt (by omega) | exact zI_toInt (by omega) (by omega) | rfl) (by first | exact nI_toInt (by omega) | exact zI_toInt (by omega) (by omega) | rfl)) ?_
      first | refine G_bEq (pc := 39) f_249_39 rfl (fun b2 => ?_) (fun b2 => ?_) | refine G_zeqZ (pc := 39) f_249_39 rfl (by first | exact nI_toInt (by omega) | exact zI_toInt (by omega) (by omega) | rfl) (fun b2 => ?_) (fun b2 => ?_)
      · refine G_S (pc := 52) f_249_52 rfl rfl rfl ?_
        refine G_bi (v := nI 30) (pc := 53) f_249_53 (by decide) ?_
        refine G_bi (v := nI 29) (pc := 55) f_249_55 (by decide) ?_
        refine G_S (pc := 57) f_249_57 rfl rfl rfl ?_
        refine G_gIv (pc := 58) f_249_58 (by decide) rfl (by decide) (by first | assumption | exact hK.1 _ _ rfl) (by first | assumption | exact mI_s | ((refine mI_o (by first | decide | omega) ?_); (repeat (refine mI_o (by first | decide | omega) ?_)); first | exact mI_s | assumption) | rfl) ?_
        first | refine G_addN (pc := 61) f_249_61 ?_ | refine G_addZ (pc := 61) f_249_61 (by first | rfl | exact nI_zI _) (by first | rfl | exact nI_zI _) ?_ | refine G_S (pc := 61) f_249_61 rfl rfl rfl ?_
        refine G_CS (pc := 62) f_249_62 rfl rfl (by decide) rfl rfl ⟨Nat.le_of_ble_eq_true rfl, Nat.le_of_ble_eq_true rfl⟩ ?_
        refine CG.go (m_inZ (by first | exact nI_toInt (by omega) | exact zI_toInt (by omega) (by omega) | rfl) (by first | exact nI_toInt (by omega) | exact zI_toInt (by omega) (by omega) | rfl) (by first | exact nI_toInt (by omega) | exact zI_toInt (by omega) (by omega) | rfl)) ?_
        first | refine G_bEq (pc := 65) f_249_65 rfl (fun b3 => ?_) (fun b3 => ?_) | refine G_zeqZ (pc := 65) f_249_65 rfl (by first | exact nI_toInt (by omega) | exact zI_toInt (by omega) (by omega) | rfl) (fun b3 => ?_) (fun b3 => ?_)
        · exfalso; omega
        · refine G_S (pc := 68) f_249_68 rfl rfl rfl ?_
          refine G_gR (pc := 69) f_249_69 (by decide) rfl (by first | assumption | exact hK.1 _ _ rfl) (by first | assumption | exact hK.2 _ _ _ rfl | (try dsimp only) <;> (repeat (first | exact up2_s | refine up2_o (by first | decide | omega) ?_)) <;> first | assumption | exact hK.2 _ _ _ rfl) ?_
          refine G_S (pc := 72) f_249_72 rfl rfl rfl ?_
          refine G_bi (v := nI 30) (pc := 73) f_249_73 (by decide) ?_
          first | refine G_subN (pc := 75) f_249_75 (by omega) ?_ | refine G_subZ (pc := 75) f_249_75 (by first | rfl | exact nI_zI _) (by first | rfl | exact nI_zI _) ?_ | refine G_S (pc := 75) f_249_75 rfl rfl rfl ?_
          refine G_iaN (pc := 76) f_249_76 (by first | assumption | exact hK.1 _ _ rfl) (by omega) (by omega) (by first | exact p1 | rfl) ?_
          refine G_ri (pc := 77) f_249_77 ?_
          refine ⟨?_, rfl⟩
          rw [big c (by omega) 3 (c - 30) (by omega) (by omega) (by omega), asP, if_neg (by decide), if_neg (by decide), if_pos rfl, if_pos (by omega)]
      · exfalso; omega
    · exfalso; omega
  have loop : ∀ i, i ≤ D 2 → G C 249 (85, [some (.ref 98), some (.int x), some (.int (nI (abN S i))), some (.int (nI (smN D S b i))), some (.int (nI i))], [], [], M) (fun w M' => w = some (.int (asF D S b x)) ∧ M' = M) := by
    refine upto (fun i hi ih => ?_)
    have hki : i < D 2 → D (11 + i) ≤ 3 := fun q => hD.2.2.2.2.1 i (by omega)
    refine G_S (pc := 85) f_249_85 rfl rfl rfl ?_
    refine G_S (pc := 87) f_249_87 rfl rfl rfl ?_
    refine G_gIv (pc := 88) f_249_88 (by decide) rfl (by decide) (by first | assumption | exact hK.1 _ _ rfl) (by first | assumption | exact mI_s | ((refine mI_o (by first | decide | omega) ?_); (repeat (refine mI_o (by first | decide | omega) ?_)); first | exact mI_s | assumption) | rfl) ?_
    refine G_jgeZ (pc := 91) f_249_91 rfl (by first | exact nI_toInt (by omega) | exact zI_toInt (by omega) (by omega) | rfl) (by first | exact nI_toInt (by omega) | exact zI_toInt (by omega) (by omega) | rfl) (fun b4 => ?_) (fun b4 => ?_)
    · have e : i = D 2 := by omega
      subst e
      refine G_S (pc := 156) f_249_156 rfl rfl rfl ?_
      rcases sw7 x with rfl | rfl | rfl | rfl | rfl | rfl | rfl | hw
      · refine G_S (pc := 157) f_249_157 rfl rfl rfl ?_
        refine G_S (pc := 200) f_249_200 rfl rfl rfl ?_
        refine G_gIv (pc := 201) f_249_201 (by decide) rfl (by decide) (by first | assumption | exact hK.1 _ _ rfl) (by first | assumption | exact mI_s | ((refine mI_o (by first | decide | omega) ?_); (repeat (refine mI_o (by first | decide | omega) ?_)); first | exact mI_s | assumption) | rfl) ?_
        refine G_ri (pc := 204) f_249_204 ?_
        first
          | exact ⟨rfl, rfl⟩
          | (refine ⟨?_, rfl⟩
             rw [asF_d hw]
             by_cases h10 : x.toInt < 10
             · rw [if_pos h10]
             · rw [if_neg h10]
               unfold asP
               split
               · rw [if_neg (by omega)]
               · split
                 · rw [if_neg (by omega)]
                 · split
                   · rw [if_neg (by omega)]
                   · rfl)
      · refine G_S (pc := 157) f_249_157 rfl rfl rfl ?_
        refine G_S (pc := 205) f_249_205 rfl rfl rfl ?_
        refine G_gIv (pc := 206) f_249_206 (by decide) rfl (by decide) (by first | assumption | exact hK.1 _ _ rfl) (by first | assumption | exact mI_s | ((refine mI_o (by first | decide | omega) ?_); (repeat (refine mI_o (by first | decide | omega) ?_)); first | exact mI_s | assumption) | rfl) ?_
        refine G_ri (pc := 209) f_249_209 ?_
        first
          | exact ⟨rfl, rfl⟩
          | (refine ⟨?_, rfl⟩
             rw [asF_d hw]
             by_cases h10 : x.toInt < 10
             · rw [if_pos h10]
             · rw [if_neg h10]
               unfold asP
               split
               · rw [if_neg (by omega)]
               · split
                 · rw [if_neg (by omega)]
                 · split
                   · rw [if_neg (by omega)]
                   · rfl)
      · refine G_S (pc := 157) f_249_157 rfl rfl rfl ?_
        refine G_S (pc := 210) f_249_210 rfl rfl rfl ?_
        refine G_gIv (pc := 211) f_249_211 (by decide) rfl (by decide) (by first | assumption | exact hK.1 _ _ rfl) (by first | assumption | exact mI_s | ((refine mI_o (by first | decide | omega) ?_); (repeat (refine mI_o (by first | decide | omega) ?_)); first | exact mI_s | assumption) | rfl) ?_
        refine G_ri (pc := 214) f_249_214 ?_
        first
          | exact ⟨rfl, rfl⟩
          | (refine ⟨?_, rfl⟩
             rw [asF_d hw]
             by_cases h10 : x.toInt < 10
             · rw [if_pos h10]
             · rw [if_neg h10]
               unfold asP
               split
               · rw [if_neg (by omega)]
               · split
                 · rw [if_neg (by omega)]
                 · split
                   · rw [if_neg (by omega)]
                   · rfl)
      · refine G_S (pc := 157) f_249_157 rfl rfl rfl ?_
        refine G_S (pc := 215) f_249_215 rfl rfl rfl ?_
        refine G_CV (pc := 216) f_249_216 rfl rfl (by decide) rfl rfl (by first | assumption | exact hK.1 _ _ rfl) (by decide) ⟨Nat.le_of_ble_eq_true rfl, Nat.le_of_ble_eq_true rfl⟩ ?_
        refine CG.go (n_pull W) ?_
        refine G_ri (pc := 219) f_249_219 ?_
        first
          | exact ⟨rfl, rfl⟩
          | (refine ⟨?_, rfl⟩
             rw [asF_d hw]
             by_cases h10 : x.toInt < 10
             · rw [if_pos h10]
             · rw [if_neg h10]
               unfold asP
               split
               · rw [if_neg (by omega)]
               · split
                 · rw [if_neg (by omega)]
                 · split
                   · rw [if_neg (by omega)]
                   · rfl)
      · refine G_S (pc := 157) f_249_157 rfl rfl rfl ?_
        refine G_S (pc := 220) f_249_220 rfl rfl rfl ?_
        refine G_ri (pc := 221) f_249_221 ?_
        first
          | exact ⟨rfl, rfl⟩
          | (refine ⟨?_, rfl⟩
             rw [asF_d hw]
             by_cases h10 : x.toInt < 10
             · rw [if_pos h10]
             · rw [if_neg h10]
               unfold asP
               split
               · rw [if_neg (by omega)]
               · split
                 · rw [if_neg (by omega)]
                 · split
                   · rw [if_neg (by omega)]
                   · rfl)
      · refine G_S (pc := 157) f_249_157 rfl rfl rfl ?_
        refine G_S (pc := 222) f_249_222 rfl rfl rfl ?_
        refine G_ri (pc := 223) f_249_223 ?_
        first
          | exact ⟨rfl, rfl⟩
          | (refine ⟨?_, rfl⟩
             rw [asF_d hw]
             by_cases h10 : x.toInt < 10
             · rw [if_pos h10]
             · rw [if_neg h10]
               unfold asP
               split
               · rw [if_neg (by omega)]
               · split
                 · rw [if_neg (by omega)]
                 · split
                   · rw [if_neg (by omega)]
                   · rfl)
      · refine G_S (pc := 157) f_249_157 rfl rfl rfl ?_
        refine G_S (pc := 224) f_249_224 rfl rfl rfl ?_
        refine G_gIv (pc := 225) f_249_225 (by decide) rfl (by decide) (by first | assumption | exact hK.1 _ _ rfl) (by first | assumption | exact mI_s | ((refine mI_o (by first | decide | omega) ?_); (repeat (refine mI_o (by first | decide | omega) ?_)); first | exact mI_s | assumption) | rfl) ?_
        refine G_ri (pc := 228) f_249_228 ?_
        first
          | exact ⟨rfl, rfl⟩
          | (refine ⟨?_, rfl⟩
             rw [asF_d hw]
             by_cases h10 : x.toInt < 10
             · rw [if_pos h10]
             · rw [if_neg h10]
               unfold asP
               split
               · rw [if_neg (by omega)]
               · split
                 · rw [if_neg (by omega)]
                 · split
                   · rw [if_neg (by omega)]
                   · rfl)
      · refine G_tsO (pc := 157) f_249_157 rfl (hw) ?_
        refine G_bi (v := zI (-2)) (pc := 229) f_249_229 (by decide) ?_
        refine G_ri (pc := 231) f_249_231 ?_
        first
          | exact ⟨rfl, rfl⟩
          | (refine ⟨?_, rfl⟩
             rw [asF_d hw]
             by_cases h10 : x.toInt < 10
             · rw [if_pos h10]
             · rw [if_neg h10]
               unfold asP
               split
               · rw [if_neg (by omega)]
               · split
                 · rw [if_neg (by omega)]
                 · split
                   · rw [if_neg (by omega)]
                   · rfl)
    · have hki := hki (by omega)
      refine G_S (pc := 94) f_249_94 rfl rfl rfl ?_
      refine G_S (pc := 95) f_249_95 rfl rfl rfl ?_
      refine G_S (pc := 96) f_249_96 rfl rfl rfl ?_
      refine G_CV (pc := 98) f_249_98 rfl rfl (by decide) rfl rfl (by first | assumption | exact hK.1 _ _ rfl) (by decide) ⟨Nat.le_of_ble_eq_true rfl, Nat.le_of_ble_eq_true rfl⟩ ?_
      refine CG.go (n_isAboard W (by omega)) ?_
      first | refine G_bEq (pc := 101) f_249_101 rfl (fun b5 => ?_) (fun b5 => ?_) | refine G_zeqZ (pc := 101) f_249_101 rfl (by first | exact nI_toInt (by omega) | exact zI_toInt (by omega) (by omega) | rfl) (fun b5 => ?_) (fun b5 => ?_)
      · refine G_ic (v := nI 0) (pc := 111) f_249_111 (by decide) ?_
        first | refine G_orN (pc := 112) f_249_112 ?_ | refine G_S (pc := 112) f_249_112 rfl rfl rfl ?_
        refine G_S (pc := 113) f_249_113 rfl rfl rfl ?_
        refine G_S (pc := 114) f_249_114 rfl rfl rfl ?_
        refine G_S (pc := 115) f_249_115 rfl rfl rfl ?_
        refine G_S (pc := 116) f_249_116 rfl rfl rfl ?_
        refine G_CV (pc := 118) f_249_118 rfl rfl (by decide) rfl rfl (by first | assumption | exact hK.1 _ _ rfl) (by decide) ⟨Nat.le_of_ble_eq_true rfl, Nat.le_of_ble_eq_true rfl⟩ ?_
        refine CG.go (n_isAboard W (by omega)) ?_
        first | refine G_bEq (pc := 121) f_249_121 rfl (fun b6 => ?_) (fun b6 => ?_) | refine G_zeqZ (pc := 121) f_249_121 rfl (by first | exact nI_toInt (by omega) | exact zI_toInt (by omega) (by omega) | rfl) (fun b6 => ?_) (fun b6 => ?_)
        · refine G_ic (v := nI 0) (pc := 147) f_249_147 (by decide) ?_
          first | refine G_addN (pc := 148) f_249_148 ?_ | refine G_addZ (pc := 148) f_249_148 (by first | rfl | exact nI_zI _) (by first | rfl | exact nI_zI _) ?_ | refine G_S (pc := 148) f_249_148 rfl rfl rfl ?_
          refine G_S (pc := 149) f_249_149 rfl rfl rfl ?_
          first | refine G_inc1 (pc := 150) f_249_150 rfl ?_ | refine G_S (pc := 150) f_249_150 rfl rfl rfl ?_
          refine G_S (pc := 153) f_249_153 rfl rfl rfl ?_
          have e := ih (by omega)
          first
            | (rw [abN, smN, if_pos b5, if_pos ⟨b6, by omega⟩] at e; exact e)
            | (rw [abN, smN, if_pos b5, if_neg (fun q => absurd q.2 (by omega))] at e; exact e)
            | (rw [abN, smN, if_neg b5, if_neg (fun q => b6 q.1)] at e; exact e)
            | exact absurd b5 b6
            | exact absurd b6 b5
        · refine G_S (pc := 124) f_249_124 rfl rfl rfl ?_
          refine G_bi (v := nI 11) (pc := 125) f_249_125 (by decide) ?_
          refine G_S (pc := 127) f_249_127 rfl rfl rfl ?_
          first | refine G_addN (pc := 129) f_249_129 ?_ | refine G_addZ (pc := 129) f_249_129 (by first | rfl | exact nI_zI _) (by first | rfl | exact nI_zI _) ?_ | refine G_S (pc := 129) f_249_129 rfl rfl rfl ?_
          refine G_CV (pc := 130) f_249_130 rfl rfl (by decide) rfl rfl (by first | assumption | exact hK.1 _ _ rfl) (by decide) ⟨Nat.le_of_ble_eq_true rfl, Nat.le_of_ble_eq_true rfl⟩ ?_
          refine CG.go (m_ofD hK hH (by omega)) ?_
          refine G_ic (v := nI 3) (pc := 133) f_249_133 (by decide) ?_
          refine G_jneZ (pc := 134) f_249_134 rfl (by first | exact nI_toInt (by omega) | exact zI_toInt (by omega) (by omega) | rfl) (by first | exact nI_toInt (by omega) | exact zI_toInt (by omega) (by omega) | rfl) (fun b7 => ?_) (fun b7 => ?_)
          · refine G_ic (v := nI 0) (pc := 147) f_249_147 (by decide) ?_
            first | refine G_addN (pc := 148) f_249_148 ?_ | refine G_addZ (pc := 148) f_249_148 (by first | rfl | exact nI_zI _) (by first | rfl | exact nI_zI _) ?_ | refine G_S (pc := 148) f_249_148 rfl rfl rfl ?_
            refine G_S (pc := 149) f_249_149 rfl rfl rfl ?_
            first | refine G_inc1 (pc := 150) f_249_150 rfl ?_ | refine G_S (pc := 150) f_249_150 rfl rfl rfl ?_
            refine G_S (pc := 153) f_249_153 rfl rfl rfl ?_
            have e := ih (by omega)
            first
              | (rw [abN, smN, if_pos b5, if_pos ⟨b6, by omega⟩] at e; exact e)
              | (rw [abN, smN, if_pos b5, if_neg (fun q => absurd q.2 (by omega))] at e; exact e)
              | (rw [abN, smN, if_neg b5, if_neg (fun q => b6 q.1)] at e; exact e)
              | exact absurd b5 b6
              | exact absurd b6 b5
          · refine G_S (pc := 137) f_249_137 rfl rfl rfl ?_
            refine G_gR (pc := 138) f_249_138 (by decide) rfl (by first | assumption | exact hK.1 _ _ rfl) (by first | assumption | exact hK.2 _ _ _ rfl | (try dsimp only) <;> (repeat (first | exact up2_s | refine up2_o (by first | decide | omega) ?_)) <;> first | assumption | exact hK.2 _ _ _ rfl) ?_
            refine G_S (pc := 141) f_249_141 rfl rfl rfl ?_
            refine G_iaN (pc := 143) f_249_143 (by first | assumption | exact hK.1 _ _ rfl) (by omega) (by omega) (by first | assumption | exact q1 _ (by omega) | exact q2 _ (by omega) | exact q3 _ (by omega) | exact q4 _ (by omega) | exact q5 _ (by omega) | exact vh _ (by omega) | exact (vr _ (by omega)).1 | exact (vr _ (by omega)).2 | exact vw _ (by omega) | exact vf _ (by omega) (by omega) | exact mI_s | ((refine mI_o (by first | decide | omega) ?_); (repeat (refine mI_o (by first | decide | omega) ?_)); first | exact mI_s | assumption | exact q1 _ (by omega) | exact q2 _ (by omega) | exact q3 _ (by omega) | exact q4 _ (by omega) | exact q5 _ (by omega) | exact vh _ (by omega) | exact (vr _ (by omega)).1 | exact (vr _ (by omega)).2 | exact vw _ (by omega) | exact vf _ (by omega) (by omega)) | rfl) ?_
            refine G_S (pc := 144) f_249_144 rfl rfl rfl ?_
            first | refine G_addN (pc := 148) f_249_148 ?_ | refine G_addZ (pc := 148) f_249_148 (by first | rfl | exact nI_zI _) (by first | rfl | exact nI_zI _) ?_ | refine G_S (pc := 148) f_249_148 rfl rfl rfl ?_
            refine G_S (pc := 149) f_249_149 rfl rfl rfl ?_
            first | refine G_inc1 (pc := 150) f_249_150 rfl ?_ | refine G_S (pc := 150) f_249_150 rfl rfl rfl ?_
            refine G_S (pc := 153) f_249_153 rfl rfl rfl ?_
            have e := ih (by omega)
            first
              | (rw [abN, smN, if_pos b5, if_pos ⟨b6, by omega⟩] at e; exact e)
              | (rw [abN, smN, if_pos b5, if_neg (fun q => absurd q.2 (by omega))] at e; exact e)
              | (rw [abN, smN, if_neg b5, if_neg (fun q => b6 q.1)] at e; exact e)
              | exact absurd b5 b6
              | exact absurd b6 b5
      · refine G_ic (v := nI 1) (pc := 104) f_249_104 (by decide) ?_
        refine G_S (pc := 105) f_249_105 rfl rfl rfl ?_
        first | refine G_shl1 (pc := 107) f_249_107 (by omega) ?_ | refine G_S (pc := 107) f_249_107 rfl rfl rfl ?_
        refine G_S (pc := 108) f_249_108 rfl rfl rfl ?_
        first | refine G_orN (pc := 112) f_249_112 ?_ | refine G_S (pc := 112) f_249_112 rfl rfl rfl ?_
        refine G_S (pc := 113) f_249_113 rfl rfl rfl ?_
        refine G_S (pc := 114) f_249_114 rfl rfl rfl ?_
        refine G_S (pc := 115) f_249_115 rfl rfl rfl ?_
        refine G_S (pc := 116) f_249_116 rfl rfl rfl ?_
        refine G_CV (pc := 118) f_249_118 rfl rfl (by decide) rfl rfl (by first | assumption | exact hK.1 _ _ rfl) (by decide) ⟨Nat.le_of_ble_eq_true rfl, Nat.le_of_ble_eq_true rfl⟩ ?_
        refine CG.go (n_isAboard W (by omega)) ?_
        first | refine G_bEq (pc := 121) f_249_121 rfl (fun b6 => ?_) (fun b6 => ?_) | refine G_zeqZ (pc := 121) f_249_121 rfl (by first | exact nI_toInt (by omega) | exact zI_toInt (by omega) (by omega) | rfl) (fun b6 => ?_) (fun b6 => ?_)
        · refine G_ic (v := nI 0) (pc := 147) f_249_147 (by decide) ?_
          first | refine G_addN (pc := 148) f_249_148 ?_ | refine G_addZ (pc := 148) f_249_148 (by first | rfl | exact nI_zI _) (by first | rfl | exact nI_zI _) ?_ | refine G_S (pc := 148) f_249_148 rfl rfl rfl ?_
          refine G_S (pc := 149) f_249_149 rfl rfl rfl ?_
          first | refine G_inc1 (pc := 150) f_249_150 rfl ?_ | refine G_S (pc := 150) f_249_150 rfl rfl rfl ?_
          refine G_S (pc := 153) f_249_153 rfl rfl rfl ?_
          have e := ih (by omega)
          first
            | (rw [abN, smN, if_pos b5, if_pos ⟨b6, by omega⟩] at e; exact e)
            | (rw [abN, smN, if_pos b5, if_neg (fun q => absurd q.2 (by omega))] at e; exact e)
            | (rw [abN, smN, if_neg b5, if_neg (fun q => b6 q.1)] at e; exact e)
            | exact absurd b5 b6
            | exact absurd b6 b5
        · refine G_S (pc := 124) f_249_124 rfl rfl rfl ?_
          refine G_bi (v := nI 11) (pc := 125) f_249_125 (by decide) ?_
          refine G_S (pc := 127) f_249_127 rfl rfl rfl ?_
          first | refine G_addN (pc := 129) f_249_129 ?_ | refine G_addZ (pc := 129) f_249_129 (by first | rfl | exact nI_zI _) (by first | rfl | exact nI_zI _) ?_ | refine G_S (pc := 129) f_249_129 rfl rfl rfl ?_
          refine G_CV (pc := 130) f_249_130 rfl rfl (by decide) rfl rfl (by first | assumption | exact hK.1 _ _ rfl) (by decide) ⟨Nat.le_of_ble_eq_true rfl, Nat.le_of_ble_eq_true rfl⟩ ?_
          refine CG.go (m_ofD hK hH (by omega)) ?_
          refine G_ic (v := nI 3) (pc := 133) f_249_133 (by decide) ?_
          refine G_jneZ (pc := 134) f_249_134 rfl (by first | exact nI_toInt (by omega) | exact zI_toInt (by omega) (by omega) | rfl) (by first | exact nI_toInt (by omega) | exact zI_toInt (by omega) (by omega) | rfl) (fun b7 => ?_) (fun b7 => ?_)
          · refine G_ic (v := nI 0) (pc := 147) f_249_147 (by decide) ?_
            first | refine G_addN (pc := 148) f_249_148 ?_ | refine G_addZ (pc := 148) f_249_148 (by first | rfl | exact nI_zI _) (by first | rfl | exact nI_zI _) ?_ | refine G_S (pc := 148) f_249_148 rfl rfl rfl ?_
            refine G_S (pc := 149) f_249_149 rfl rfl rfl ?_
            first | refine G_inc1 (pc := 150) f_249_150 rfl ?_ | refine G_S (pc := 150) f_249_150 rfl rfl rfl ?_
            refine G_S (pc := 153) f_249_153 rfl rfl rfl ?_
            have e := ih (by omega)
            first
              | (rw [abN, smN, if_pos b5, if_pos ⟨b6, by omega⟩] at e; exact e)
              | (rw [abN, smN, if_pos b5, if_neg (fun q => absurd q.2 (by omega))] at e; exact e)
              | (rw [abN, smN, if_neg b5, if_neg (fun q => b6 q.1)] at e; exact e)
              | exact absurd b5 b6
              | exact absurd b6 b5
          · refine G_S (pc := 137) f_249_137 rfl rfl rfl ?_
            refine G_gR (pc := 138) f_249_138 (by decide) rfl (by first | assumption | exact hK.1 _ _ rfl) (by first | assumption | exact hK.2 _ _ _ rfl | (try dsimp only) <;> (repeat (first | exact up2_s | refine up2_o (by first | decide | omega) ?_)) <;> first | assumption | exact hK.2 _ _ _ rfl) ?_
            refine G_S (pc := 141) f_249_141 rfl rfl rfl ?_
            refine G_iaN (pc := 143) f_249_143 (by first | assumption | exact hK.1 _ _ rfl) (by omega) (by omega) (by first | assumption | exact q1 _ (by omega) | exact q2 _ (by omega) | exact q3 _ (by omega) | exact q4 _ (by omega) | exact q5 _ (by omega) | exact vh _ (by omega) | exact (vr _ (by omega)).1 | exact (vr _ (by omega)).2 | exact vw _ (by omega) | exact vf _ (by omega) (by omega) | exact mI_s | ((refine mI_o (by first | decide | omega) ?_); (repeat (refine mI_o (by first | decide | omega) ?_)); first | exact mI_s | assumption | exact q1 _ (by omega) | exact q2 _ (by omega) | exact q3 _ (by omega) | exact q4 _ (by omega) | exact q5 _ (by omega) | exact vh _ (by omega) | exact (vr _ (by omega)).1 | exact (vr _ (by omega)).2 | exact vw _ (by omega) | exact vf _ (by omega) (by omega)) | rfl) ?_
            refine G_S (pc := 144) f_249_144 rfl rfl rfl ?_
            first | refine G_addN (pc := 148) f_249_148 ?_ | refine G_addZ (pc := 148) f_249_148 (by first | rfl | exact nI_zI _) (by first | rfl | exact nI_zI _) ?_ | refine G_S (pc := 148) f_249_148 rfl rfl rfl ?_
            refine G_S (pc := 149) f_249_149 rfl rfl rfl ?_
            first | refine G_inc1 (pc := 150) f_249_150 rfl ?_ | refine G_S (pc := 150) f_249_150 rfl rfl rfl ?_
            refine G_S (pc := 153) f_249_153 rfl rfl rfl ?_
            have e := ih (by omega)
            first
              | (rw [abN, smN, if_pos b5, if_pos ⟨b6, by omega⟩] at e; exact e)
              | (rw [abN, smN, if_pos b5, if_neg (fun q => absurd q.2 (by omega))] at e; exact e)
              | (rw [abN, smN, if_neg b5, if_neg (fun q => b6 q.1)] at e; exact e)
              | exact absurd b5 b6
              | exact absurd b6 b5
  refine CG_in (mL := 5) (hl := false) (lv := [some (.ref 98), some (.int x), none, none, none]) (ll := []) rfl rfl rfl ?_
  refine G_S (pc := 0) f_249_0 rfl rfl rfl ?_
  refine G_bi (v := nI 10) (pc := 1) f_249_1 (by decide) ?_
  refine G_bi (v := nI 9) (pc := 3) f_249_3 (by decide) ?_
  refine G_S (pc := 5) f_249_5 rfl rfl rfl ?_
  refine G_gIv (pc := 6) f_249_6 (by decide) rfl (by decide) (by first | assumption | exact hK.1 _ _ rfl) (by first | assumption | exact mI_s | ((refine mI_o (by first | decide | omega) ?_); (repeat (refine mI_o (by first | decide | omega) ?_)); first | exact mI_s | assumption) | rfl) ?_
  first | refine G_addN (pc := 9) f_249_9 ?_ | refine G_addZ (pc := 9) f_249_9 (by first | rfl | exact nI_zI _) (by first | rfl | exact nI_zI _) ?_ | refine G_S (pc := 9) f_249_9 rfl rfl rfl ?_
  refine G_CS (pc := 10) f_249_10 rfl rfl (by decide) rfl rfl ⟨Nat.le_of_ble_eq_true rfl, Nat.le_of_ble_eq_true rfl⟩ ?_
  refine CG.go (m_inZ (by first | exact nI_toInt (by omega) | exact zI_toInt (by omega) (by omega) | rfl) (by first | exact nI_toInt (by omega) | exact zI_toInt (by omega) (by omega) | rfl) (by first | exact nI_toInt (by omega) | exact zI_toInt (by omega) (by omega) | rfl)) ?_
  first | refine G_bEq (pc := 13) f_249_13 rfl (fun b1 => ?_) (fun b1 => ?_) | refine G_zeqZ (pc := 13) f_249_13 rfl (by first | exact nI_toInt (by omega) | exact zI_toInt (by omega) (by omega) | rfl) (fun b1 => ?_) (fun b1 => ?_)
  · refine G_S (pc := 26) f_249_26 rfl rfl rfl ?_
    refine G_bi (v := nI 20) (pc := 27) f_249_27 (by decide) ?_
    refine G_bi (v := nI 19) (pc := 29) f_249_29 (by decide) ?_
    refine G_S (pc := 31) f_249_31 rfl rfl rfl ?_
    refine G_gIv (pc := 32) f_249_32 (by decide) rfl (by decide) (by first | assumption | exact hK.1 _ _ rfl) (by first | assumption | exact mI_s | ((refine mI_o (by first | decide | omega) ?_); (repeat (refine mI_o (by first | decide | omega) ?_)); first | exact mI_s | assumption) | rfl) ?_
    first | refine G_addN (pc := 35) f_249_35 ?_ | refine G_addZ (pc := 35) f_249_35 (by first | rfl | exact nI_zI _) (by first | rfl | exact nI_zI _) ?_ | refine G_S (pc := 35) f_249_35 rfl rfl rfl ?_
    refine G_CS (pc := 36) f_249_36 rfl rfl (by decide) rfl rfl ⟨Nat.le_of_ble_eq_true rfl, Nat.le_of_ble_eq_true rfl⟩ ?_
    refine CG.go (m_inZ (by first | exact nI_toInt (by omega) | exact zI_toInt (by omega) (by omega) | rfl) (by first | exact nI_toInt (by omega) | exact zI_toInt (by omega) (by omega) | rfl) (by first | exact nI_toInt (by omega) | exact zI_toInt (by omega) (by omega) | rfl)) ?_
    first | refine G_bEq (pc := 39) f_249_39 rfl (fun b2 => ?_) (fun b2 => ?_) | refine G_zeqZ (pc := 39) f_249_39 rfl (by first | exact nI_toInt (by omega) | exact zI_toInt (by omega) (by omega) | rfl) (fun b2 => ?_) (fun b2 => ?_)
    · refine G_S (pc := 52) f_249_52 rfl rfl rfl ?_
      refine G_bi (v := nI 30) (pc := 53) f_249_53 (by decide) ?_
      refine G_bi (v := nI 29) (pc := 55) f_249_55 (by decide) ?_
      refine G_S (pc := 57) f_249_57 rfl rfl rfl ?_
      refine G_gIv (pc := 58) f_249_58 (by decide) rfl (by decide) (by first | assumption | exact hK.1 _ _ rfl) (by first | assumption | exact mI_s | ((refine mI_o (by first | decide | omega) ?_); (repeat (refine mI_o (by first | decide | omega) ?_)); first | exact mI_s | assumption) | rfl) ?_
      first | refine G_addN (pc := 61) f_249_61 ?_ | refine G_addZ (pc := 61) f_249_61 (by first | rfl | exact nI_zI _) (by first | rfl | exact nI_zI _) ?_ | refine G_S (pc := 61) f_249_61 rfl rfl rfl ?_
      refine G_CS (pc := 62) f_249_62 rfl rfl (by decide) rfl rfl ⟨Nat.le_of_ble_eq_true rfl, Nat.le_of_ble_eq_true rfl⟩ ?_
      refine CG.go (m_inZ (by first | exact nI_toInt (by omega) | exact zI_toInt (by omega) (by omega) | rfl) (by first | exact nI_toInt (by omega) | exact zI_toInt (by omega) (by omega) | rfl) (by first | exact nI_toInt (by omega) | exact zI_toInt (by omega) (by omega) | rfl)) ?_
      first | refine G_bEq (pc := 65) f_249_65 rfl (fun b3 => ?_) (fun b3 => ?_) | refine G_zeqZ (pc := 65) f_249_65 rfl (by first | exact nI_toInt (by omega) | exact zI_toInt (by omega) (by omega) | rfl) (fun b3 => ?_) (fun b3 => ?_)
      · refine G_ic (v := nI 0) (pc := 78) f_249_78 (by decide) ?_
        refine G_S (pc := 79) f_249_79 rfl rfl rfl ?_
        refine G_ic (v := nI 0) (pc := 80) f_249_80 (by decide) ?_
        refine G_S (pc := 81) f_249_81 rfl rfl rfl ?_
        refine G_ic (v := nI 0) (pc := 82) f_249_82 (by decide) ?_
        refine G_S (pc := 83) f_249_83 rfl rfl rfl ?_
        exact loop 0 (Nat.zero_le _)
      · exfalso; omega
    · exfalso; omega
  · exfalso; omega
end MTD
