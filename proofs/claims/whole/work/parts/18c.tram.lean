/-! the class's tram: deeds, rides, days -/
section CTD
variable {C : Ct} {M : Mm} {h k : Nat} {D : Nat → Nat} {S : Nat → Int} {b : Nat → Nat} {x y : Int32}
def mvB (D : Nat → Nat) (S : Nat → Int) (x y : Int) : Bool := decide ((0 ≤ x ∧ x < (D 2 : Int)) ∧ abd S x.toNat = true) && decide ((0 ≤ y ∧ y < (D 1 : Int)) ∧ S (30 + y.toNat) = -1)
def mvS (S : Nat → Int) (x y : Int) : Nat → Int := bdS (ofS S x.toNat) x y
theorem t_move (W : TW M h D k S b) : CG C 113 [.ref 78, .int x, .int y] M (fun w M' => w = some (.int (b2i (mvB D S x.toInt y.toInt = true))) ∧ Fk M M' ∧ TW M' h D k (if mvB D S x.toInt y.toInt then mvS S x.toInt y.toInt else S) b) := by
  have W_ := W.1
  have hK := W_.1
  obtain ⟨⟨t0, t1, t2, t3, t4, t5, t6⟩, r0, r3, r4, r6, r7, r8⟩ := W_.2.1
  obtain ⟨hD, ⟨v0, v1, v2⟩, vh, vr, vw, vf⟩ := W_.2.2.1
  have hs := W_.2.2.2.1
  have hh := W_.2.2.2.2
  have hn0 : _ ≤ 8 := hD.1
  have hn1 : _ ≤ 6 := hD.2.1.2
  have hn2 : _ ≤ 8 := hD.2.2.1
  obtain ⟨rl, ⟨s0, s1, s2, s3⟩, q1, q2, q3, hO⟩ := W.2
  obtain ⟨o0, o1, o2, o3, o4, o5, o6⟩ := hO
  refine CG_in (mL := 3) (hl := false) (lv := [some (.ref 78), some (.int x), some (.int y)]) (ll := []) rfl rfl rfl ?_
  refine G_S (pc := 0) f_113_0 rfl rfl rfl ?_
  refine G_S (pc := 1) f_113_1 rfl rfl rfl ?_
  refine G_CV (pc := 2) f_113_2 rfl rfl (by decide) rfl rfl (by first | assumption | exact hK.1 _ _ rfl) (by decide) ⟨Nat.le_of_ble_eq_true rfl, Nat.le_of_ble_eq_true rfl⟩ ?_
  refine CG.go (t_isAboardX W) ?_
  first | refine G_bEq (pc := 5) f_113_5 rfl (fun b1 => ?_) (fun b1 => ?_) | refine G_zeqZ (pc := 5) f_113_5 rfl (by first | exact nI_toInt (by omega) | exact zI_toInt (by omega) (by omega) | rfl) (fun b1 => ?_) (fun b1 => ?_)
  · refine G_ic (v := nI 0) (pc := 37) f_113_37 (by decide) ?_
    refine G_rz (pc := 38) f_113_38 (by first | exact Or.inl rfl | exact Or.inr rfl | exact b2i_01 _ | assumption) ?_
    first
      | (have hm : mvB D S x.toInt y.toInt = true := band.mpr ⟨decide_eq_true b1, decide_eq_true b2⟩
         rw [if_pos hm, b2i_1 hm]
         exact ⟨rfl, hF2.tr hF3, W3⟩)
      | (have hm : ¬ mvB D S x.toInt y.toInt = true := fun q => by
           first
             | exact b2 (of_decide_eq_true (band.mp q).2)
             | exact b1 (of_decide_eq_true (band.mp q).1)
         rw [if_neg hm, b2i_0 hm]
         exact ⟨rfl, Fk.rf, W⟩)
  · refine G_S (pc := 8) f_113_8 rfl rfl rfl ?_
    refine G_S (pc := 9) f_113_9 rfl rfl rfl ?_
    refine G_CV (pc := 10) f_113_10 rfl rfl (by decide) rfl rfl (by first | assumption | exact hK.1 _ _ rfl) (by decide) ⟨Nat.le_of_ble_eq_true rfl, Nat.le_of_ble_eq_true rfl⟩ ?_
    refine CG.go (t_isFree W) ?_
    first | refine G_bEq (pc := 13) f_113_13 rfl (fun b2 => ?_) (fun b2 => ?_) | refine G_zeqZ (pc := 13) f_113_13 rfl (by first | exact nI_toInt (by omega) | exact zI_toInt (by omega) (by omega) | rfl) (fun b2 => ?_) (fun b2 => ?_)
    · refine G_ic (v := nI 0) (pc := 37) f_113_37 (by decide) ?_
      refine G_rz (pc := 38) f_113_38 (by first | exact Or.inl rfl | exact Or.inr rfl | exact b2i_01 _ | assumption) ?_
      first
        | (have hm : mvB D S x.toInt y.toInt = true := band.mpr ⟨decide_eq_true b1, decide_eq_true b2⟩
           rw [if_pos hm, b2i_1 hm]
           exact ⟨rfl, hF2.tr hF3, W3⟩)
        | (have hm : ¬ mvB D S x.toInt y.toInt = true := fun q => by
             first
               | exact b2 (of_decide_eq_true (band.mp q).2)
               | exact b1 (of_decide_eq_true (band.mp q).1)
           rw [if_neg hm, b2i_0 hm]
           exact ⟨rfl, Fk.rf, W⟩)
    · refine G_S (pc := 16) f_113_16 rfl rfl rfl ?_
      refine G_S (pc := 17) f_113_17 rfl rfl rfl ?_
      refine G_CV (pc := 18) f_113_18 rfl rfl (by decide) rfl rfl (by first | assumption | exact hK.1 _ _ rfl) (by decide) ⟨Nat.le_of_ble_eq_true rfl, Nat.le_of_ble_eq_true rfl⟩ ?_
      refine CG.mono (t_getOffX W) ?_
      rintro _ M2 ⟨rfl, hF2, W2⟩
      rw [if_pos b1] at W2
      have hK := W2.1.1
      have hbd : bdB D (ofS S x.toInt.toNat) x.toInt y.toInt = true := by
        refine band.mpr ⟨decide_eq_true ⟨b1.1, up1_s⟩, decide_eq_true ⟨b2.1, ?_⟩⟩
        unfold ofS
        rw [up1_o (by omega) rfl]
        unfold up1
        split
        · rfl
        · exact b2.2
      first | refine G_bEq (pc := 21) f_113_21 rfl (fun b3 => ?_) (fun b3 => ?_) | refine G_zeqZ (pc := 21) f_113_21 rfl (by first | exact nI_toInt (by omega) | exact zI_toInt (by omega) (by omega) | rfl) (fun b3 => ?_) (fun b3 => ?_)
      · exact absurd b1 b3
      · refine G_S (pc := 24) f_113_24 rfl rfl rfl ?_
        refine G_S (pc := 25) f_113_25 rfl rfl rfl ?_
        refine G_S (pc := 26) f_113_26 rfl rfl rfl ?_
        refine G_CV (pc := 27) f_113_27 rfl rfl (by decide) rfl rfl (by first | assumption | exact hK.1 _ _ rfl) (by decide) ⟨Nat.le_of_ble_eq_true rfl, Nat.le_of_ble_eq_true rfl⟩ ?_
        refine CG.mono (t_board W2) ?_
        rintro _ M3 ⟨rfl, hF3, W3⟩
        rw [if_pos hbd] at W3
        first | refine G_bEq (pc := 30) f_113_30 rfl (fun b4 => ?_) (fun b4 => ?_) | refine G_zeqZ (pc := 30) f_113_30 rfl (by first | exact nI_toInt (by omega) | exact zI_toInt (by omega) (by omega) | rfl) (fun b4 => ?_) (fun b4 => ?_)
        · exact absurd hbd b4
        · refine G_ic (v := nI 1) (pc := 33) f_113_33 (by decide) ?_
          refine G_S (pc := 34) f_113_34 rfl rfl rfl ?_
          refine G_rz (pc := 38) f_113_38 (by first | exact Or.inl rfl | exact Or.inr rfl | exact b2i_01 _ | assumption) ?_
          first
            | (have hm : mvB D S x.toInt y.toInt = true := band.mpr ⟨decide_eq_true b1, decide_eq_true b2⟩
               rw [if_pos hm, b2i_1 hm]
               exact ⟨rfl, hF2.tr hF3, W3⟩)
            | (have hm : ¬ mvB D S x.toInt y.toInt = true := fun q => by
                 first
                   | exact b2 (of_decide_eq_true (band.mp q).2)
                   | exact b1 (of_decide_eq_true (band.mp q).1)
               rw [if_neg hm, b2i_0 hm]
               exact ⟨rfl, Fk.rf, W⟩)
/-- a deed: whether it can be, and what is then -/
def dB (D : Nat → Nat) (d x y : Int) (S : Nat → Int) : Bool := if d = 0 then bdB D S x y else if d = 1 then mvB D S x y else if d = 2 then decide ((0 ≤ x ∧ x < (D 2 : Int)) ∧ abd S x.toNat = true) else if d = 3 then true else if d = 4 then true else if d = 5 then decide (S 0 < (D 0 : Int)) else if d = 6 then true else decide (S 0 ≠ 0)
def dF (D : Nat → Nat) (d x y : Int) (S : Nat → Int) (b : Nat → Nat) : (Nat → Int) × (Nat → Nat) := if d = 0 then (if bdB D S x y then bdS S x y else S, b) else if d = 1 then (if mvB D S x y then mvS S x y else S, b) else if d = 2 then (if (0 ≤ x ∧ x < (D 2 : Int)) ∧ abd S x.toNat = true then ofS S x.toNat else S, b) else if d = 3 then (S, adB S x b) else if d = 4 then (S, adB S (-x) b) else if d = 5 then goF D S b else if d = 6 then (S, shN S b (D 1 - 1)) else (if S 0 = 0 then S else bkS S, b)
theorem TW.kk {k' : Nat} (W : TW M h D k S b) (hk : k ≤ k') : TW M h D k' S b := ⟨W.1, W.2.1, W.2.2.1, W.2.2.2.1, W.2.2.2.2.1, W.2.2.2.2.2.1, W.2.2.2.2.2.2.up hk⟩
theorem t_perform {d x y : Int} (W : TW M h D k S b) (hd : 0 ≤ d ∧ d ≤ 7) (hx : -1 ≤ x ∧ x ≤ 99) (hy : -1 ≤ y ∧ y ≤ 99) : CG C 108 [.ref 78, .int (zI d), .int (zI x), .int (zI y)] M (fun w M' => w = some (.int (b2i (dB D d x y S = true))) ∧ Fk M M' ∧ TW M' h D (k + 1) (dF D d x y S b).1 (dF D d x y S b).2) := by
  have W_ := W.1
  have hK := W_.1
  obtain ⟨⟨t0, t1, t2, t3, t4, t5, t6⟩, r0, r3, r4, r6, r7, r8⟩ := W_.2.1
  obtain ⟨hD, ⟨v0, v1, v2⟩, vh, vr, vw, vf⟩ := W_.2.2.1
  have hs := W_.2.2.2.1
  have hh := W_.2.2.2.2
  have hn0 : _ ≤ 8 := hD.1
  have hn1 : _ ≤ 6 := hD.2.1.2
  have hn2 : _ ≤ 8 := hD.2.2.1
  obtain ⟨rl, ⟨s0, s1, s2, s3⟩, q1, q2, q3, hO⟩ := W.2
  obtain ⟨o0, o1, o2, o3, o4, o5, o6⟩ := hO
  have ex : (zI x).toInt = x := zI_toInt (by omega) (by omega)
  have ey : (zI y).toInt = y := zI_toInt (by omega) (by omega)
  have tb := t_board (C := C) (x := zI x) (y := zI y) W
  have tm := t_move (C := C) (x := zI x) (y := zI y) W
  have tg := t_getOffX (C := C) (x := zI x) W
  rw [ex, ey] at tb tm
  rw [ex] at tg
  obtain ⟨e, he, he2⟩ : ∃ e : Nat, d = (e : Int) ∧ e ≤ 7 := ⟨d.toNat, by omega, by omega⟩
  subst he
  rw [← nI_zI e]
  refine CG_in (mL := 4) (hl := false) (lv := [some (.ref 78), some (.int (nI e)), some (.int (zI x)), some (.int (zI y))]) (ll := []) rfl rfl rfl ?_
  refine G_S (pc := 0) f_108_0 rfl rfl rfl ?_
  rcases (show e = 0 ∨ e = 1 ∨ e = 2 ∨ e = 3 ∨ e = 4 ∨ e = 5 ∨ e = 6 ∨ e = 7 by omega) with rfl | rfl | rfl | rfl | rfl | rfl | rfl | rfl
  · refine G_S (pc := 1) f_108_1 rfl rfl rfl ?_
    refine G_S (pc := 48) f_108_48 rfl rfl rfl ?_
    refine G_S (pc := 49) f_108_49 rfl rfl rfl ?_
    refine G_S (pc := 50) f_108_50 rfl rfl rfl ?_
    refine G_CV (pc := 51) f_108_51 rfl rfl (by decide) rfl rfl (by first | assumption | exact hK.1 _ _ rfl) (by decide) ⟨Nat.le_of_ble_eq_true rfl, Nat.le_of_ble_eq_true rfl⟩ ?_
    refine CG.mono (tb) ?_
    rintro _ M2 ⟨rfl, hF, W2⟩
    refine G_rz (pc := 54) f_108_54 (by first | exact Or.inl rfl | exact Or.inr rfl | exact b2i_01 _ | assumption) ?_
    first
      | exact ⟨rfl, hF, W2.kk (by omega)⟩
      | exact ⟨rfl, hF, W2⟩
      | (refine ⟨?_, hF, W2.kk (by omega)⟩
         congr 2
         refine b2i_congr ?_
         show _ ↔ decide _ = true
         rw [decide_eq_true_eq])
      | (refine ⟨?_, hF, W2⟩
         congr 2
         refine b2i_congr ?_
         show _ ↔ decide _ = true
         rw [decide_eq_true_eq])
  · refine G_S (pc := 1) f_108_1 rfl rfl rfl ?_
    refine G_S (pc := 55) f_108_55 rfl rfl rfl ?_
    refine G_S (pc := 56) f_108_56 rfl rfl rfl ?_
    refine G_S (pc := 57) f_108_57 rfl rfl rfl ?_
    refine G_CV (pc := 58) f_108_58 rfl rfl (by decide) rfl rfl (by first | assumption | exact hK.1 _ _ rfl) (by decide) ⟨Nat.le_of_ble_eq_true rfl, Nat.le_of_ble_eq_true rfl⟩ ?_
    refine CG.mono (tm) ?_
    rintro _ M2 ⟨rfl, hF, W2⟩
    refine G_rz (pc := 61) f_108_61 (by first | exact Or.inl rfl | exact Or.inr rfl | exact b2i_01 _ | assumption) ?_
    first
      | exact ⟨rfl, hF, W2.kk (by omega)⟩
      | exact ⟨rfl, hF, W2⟩
      | (refine ⟨?_, hF, W2.kk (by omega)⟩
         congr 2
         refine b2i_congr ?_
         show _ ↔ decide _ = true
         rw [decide_eq_true_eq])
      | (refine ⟨?_, hF, W2⟩
         congr 2
         refine b2i_congr ?_
         show _ ↔ decide _ = true
         rw [decide_eq_true_eq])
  · refine G_S (pc := 1) f_108_1 rfl rfl rfl ?_
    refine G_S (pc := 62) f_108_62 rfl rfl rfl ?_
    refine G_S (pc := 63) f_108_63 rfl rfl rfl ?_
    refine G_CV (pc := 64) f_108_64 rfl rfl (by decide) rfl rfl (by first | assumption | exact hK.1 _ _ rfl) (by decide) ⟨Nat.le_of_ble_eq_true rfl, Nat.le_of_ble_eq_true rfl⟩ ?_
    refine CG.mono (tg) ?_
    rintro _ M2 ⟨rfl, hF, W2⟩
    refine G_rz (pc := 67) f_108_67 (by first | exact Or.inl rfl | exact Or.inr rfl | exact b2i_01 _ | assumption) ?_
    first
      | exact ⟨rfl, hF, W2.kk (by omega)⟩
      | exact ⟨rfl, hF, W2⟩
      | (refine ⟨?_, hF, W2.kk (by omega)⟩
         congr 2
         refine b2i_congr ?_
         show _ ↔ decide _ = true
         rw [decide_eq_true_eq])
      | (refine ⟨?_, hF, W2⟩
         congr 2
         refine b2i_congr ?_
         show _ ↔ decide _ = true
         rw [decide_eq_true_eq])
  · refine G_S (pc := 1) f_108_1 rfl rfl rfl ?_
    refine G_S (pc := 68) f_108_68 rfl rfl rfl ?_
    refine G_S (pc := 69) f_108_69 rfl rfl rfl ?_
    refine G_CV (pc := 70) f_108_70 rfl rfl (by decide) rfl rfl (by first | assumption | exact hK.1 _ _ rfl) (by decide) ⟨Nat.le_of_ble_eq_true rfl, Nat.le_of_ble_eq_true rfl⟩ ?_
    refine CG.mono (t_add W rfl (by omega) (by omega)) ?_
    rintro _ M2 ⟨rfl, hF, W2⟩
    refine G_ic (v := nI 1) (pc := 73) f_108_73 (by decide) ?_
    refine G_rz (pc := 74) f_108_74 (by first | exact Or.inl rfl | exact Or.inr rfl | exact b2i_01 _ | assumption) ?_
    first
      | exact ⟨rfl, hF, W2.kk (by omega)⟩
      | exact ⟨rfl, hF, W2⟩
      | (refine ⟨?_, hF, W2.kk (by omega)⟩
         congr 2
         refine b2i_congr ?_
         show _ ↔ decide _ = true
         rw [decide_eq_true_eq])
      | (refine ⟨?_, hF, W2⟩
         congr 2
         refine b2i_congr ?_
         show _ ↔ decide _ = true
         rw [decide_eq_true_eq])
  · refine G_S (pc := 1) f_108_1 rfl rfl rfl ?_
    refine G_S (pc := 75) f_108_75 rfl rfl rfl ?_
    refine G_S (pc := 76) f_108_76 rfl rfl rfl ?_
    first | refine G_negZ (pc := 77) f_108_77 (by first | rfl | exact nI_zI _) ?_ | refine G_S (pc := 77) f_108_77 rfl rfl rfl ?_
    refine G_CV (pc := 78) f_108_78 rfl rfl (by decide) rfl rfl (by first | assumption | exact hK.1 _ _ rfl) (by decide) ⟨Nat.le_of_ble_eq_true rfl, Nat.le_of_ble_eq_true rfl⟩ ?_
    refine CG.mono (t_add W rfl (by omega) (by omega)) ?_
    rintro _ M2 ⟨rfl, hF, W2⟩
    refine G_ic (v := nI 1) (pc := 81) f_108_81 (by decide) ?_
    refine G_rz (pc := 82) f_108_82 (by first | exact Or.inl rfl | exact Or.inr rfl | exact b2i_01 _ | assumption) ?_
    first
      | exact ⟨rfl, hF, W2.kk (by omega)⟩
      | exact ⟨rfl, hF, W2⟩
      | (refine ⟨?_, hF, W2.kk (by omega)⟩
         congr 2
         refine b2i_congr ?_
         show _ ↔ decide _ = true
         rw [decide_eq_true_eq])
      | (refine ⟨?_, hF, W2⟩
         congr 2
         refine b2i_congr ?_
         show _ ↔ decide _ = true
         rw [decide_eq_true_eq])
  · refine G_S (pc := 1) f_108_1 rfl rfl rfl ?_
    refine G_S (pc := 83) f_108_83 rfl rfl rfl ?_
    refine G_CV (pc := 84) f_108_84 rfl rfl (by decide) rfl rfl (by first | assumption | exact hK.1 _ _ rfl) (by decide) ⟨Nat.le_of_ble_eq_true rfl, Nat.le_of_ble_eq_true rfl⟩ ?_
    refine CG.mono (t_go W) ?_
    rintro _ M2 ⟨rfl, hF, W2⟩
    refine G_rz (pc := 87) f_108_87 (by first | exact Or.inl rfl | exact Or.inr rfl | exact b2i_01 _ | assumption) ?_
    first
      | exact ⟨rfl, hF, W2.kk (by omega)⟩
      | exact ⟨rfl, hF, W2⟩
      | (refine ⟨?_, hF, W2.kk (by omega)⟩
         congr 2
         refine b2i_congr ?_
         show _ ↔ decide _ = true
         rw [decide_eq_true_eq])
      | (refine ⟨?_, hF, W2⟩
         congr 2
         refine b2i_congr ?_
         show _ ↔ decide _ = true
         rw [decide_eq_true_eq])
  · refine G_S (pc := 1) f_108_1 rfl rfl rfl ?_
    refine G_S (pc := 88) f_108_88 rfl rfl rfl ?_
    refine G_CV (pc := 89) f_108_89 rfl rfl (by decide) rfl rfl (by first | assumption | exact hK.1 _ _ rfl) (by decide) ⟨Nat.le_of_ble_eq_true rfl, Nat.le_of_ble_eq_true rfl⟩ ?_
    refine CG.mono (t_share W) ?_
    rintro _ M2 ⟨rfl, hF, W2⟩
    refine G_ic (v := nI 1) (pc := 92) f_108_92 (by decide) ?_
    refine G_rz (pc := 93) f_108_93 (by first | exact Or.inl rfl | exact Or.inr rfl | exact b2i_01 _ | assumption) ?_
    first
      | exact ⟨rfl, hF, W2.kk (by omega)⟩
      | exact ⟨rfl, hF, W2⟩
      | (refine ⟨?_, hF, W2.kk (by omega)⟩
         congr 2
         refine b2i_congr ?_
         show _ ↔ decide _ = true
         rw [decide_eq_true_eq])
      | (refine ⟨?_, hF, W2⟩
         congr 2
         refine b2i_congr ?_
         show _ ↔ decide _ = true
         rw [decide_eq_true_eq])
  · refine G_S (pc := 1) f_108_1 rfl rfl rfl ?_
    refine G_S (pc := 94) f_108_94 rfl rfl rfl ?_
    refine G_CV (pc := 95) f_108_95 rfl rfl (by decide) rfl rfl (by first | assumption | exact hK.1 _ _ rfl) (by decide) ⟨Nat.le_of_ble_eq_true rfl, Nat.le_of_ble_eq_true rfl⟩ ?_
    refine CG.mono (t_back W) ?_
    rintro _ M2 ⟨rfl, hF, W2⟩
    refine G_rz (pc := 98) f_108_98 (by first | exact Or.inl rfl | exact Or.inr rfl | exact b2i_01 _ | assumption) ?_
    first
      | exact ⟨rfl, hF, W2.kk (by omega)⟩
      | exact ⟨rfl, hF, W2⟩
      | (refine ⟨?_, hF, W2.kk (by omega)⟩
         congr 2
         refine b2i_congr ?_
         show _ ↔ decide _ = true
         rw [decide_eq_true_eq])
      | (refine ⟨?_, hF, W2⟩
         congr 2
         refine b2i_congr ?_
         show _ ↔ decide _ = true
         rw [decide_eq_true_eq])
/-- a tram at its first stop -/
def S0 : Nat → Int := fun j => if j = 2 ∨ 20 ≤ j then -1 else 0
theorem TOK.s0 (hD : DOK D) : TOK D 0 S0 (fun r => D (19 + r)) := by
  have e : ∀ j, 20 ≤ j → S0 j = -1 := fun j hj => if_pos (Or.inr hj)
  have h2 := hD.2.2.1
  refine ⟨⟨by decide, by show (0 : Int) ≤ _; omega⟩, ⟨by decide, by decide⟩, ⟨by decide, by decide⟩, ⟨by decide, by decide⟩, by decide, fun r hr => ⟨by rw [e _ (by omega)]; omega, by show D (19 + r) ≤ 99; have := hD.2.2.2.2.2.1 r (by omega); omega⟩, fun s hs => by rw [e _ (by omega)]; omega⟩
theorem t_begin (W : LW M h D) : CG C 106 [.ref 78, .ref h] M (fun w M' => w = none ∧ Fc TF M M' ∧ TW M' h D 0 S0 (fun r => D (19 + r))) := by
  have hK := W.1
  obtain ⟨⟨t0, t1, t2, t3, t4, t5, t6⟩, r0, r3, r4, r6, r7, r8⟩ := W.2.1
  obtain ⟨hD, ⟨v0, v1, v2⟩, vh, vr, vw, vf⟩ := W.2.2.1
  have hs := W.2.2.2.1
  have hh := W.2.2.2.2
  have hn0 : _ ≤ 8 := hD.1
  have hn1 : _ ≤ 6 := hD.2.1.2
  have hn2 : _ ≤ 8 := hD.2.2.1
  have hne : h ≠ 78 := by
    unfold Lsep at hs
    omega
  refine CG_in (mL := 2) (hl := false) (lv := [some (.ref 78), some (.ref h)]) (ll := []) rfl rfl rfl ?_
  have q4 : up2 M.2.2.2 78 0 (some h) h 4 = some (h + 3) := up2_o (by omega) r4
  have hF1 : Fc [78] M (M.1, up2 (up2 (up2 (up2 M.2.1 78 1 (nI 0)) 78 2 (nI 0)) 78 3 (zI (-1))) 78 4 (nI 0), M.2.2.1, up2 M.2.2.2 78 0 (some h)) := ((((Fc.upR (i := 78) (k := 0) (x := some h) (by decide) (by decide)).tr (Fc.up (i := 78) (k := 1) (x := nI 0) (by decide))).tr (Fc.up (i := 78) (k := 2) (x := nI 0) (by decide))).tr (Fc.up (i := 78) (k := 3) (x := zI (-1)) (by decide))).tr (Fc.up (i := 78) (k := 4) (x := nI 0) (by decide))
  have hK1 := hF1.K hK
  have q5 : up2 M.2.2.2 78 0 (some h) 78 6 = some 79 := hK1.2 78 6 79 rfl
  have q6 : up2 M.2.2.2 78 0 (some h) 78 7 = some 80 := hK1.2 78 7 80 rfl
  have q7 : up2 M.2.2.2 78 0 (some h) 78 8 = some 81 := hK1.2 78 8 81 rfl
  refine G_S (pc := 0) f_106_0 rfl rfl rfl ?_
  refine G_S (pc := 1) f_106_1 rfl rfl rfl ?_
  refine G_pR (pc := 2) f_106_2 rfl (by first | assumption | exact hK.1 _ _ rfl) (by omega) ?_
  refine G_S (pc := 5) f_106_5 rfl rfl rfl ?_
  refine G_ic (v := nI 0) (pc := 6) f_106_6 (by decide) ?_
  refine G_pI (pc := 7) f_106_7 rfl (by first | assumption | exact hK.1 _ _ rfl) ?_
  refine G_S (pc := 10) f_106_10 rfl rfl rfl ?_
  refine G_ic (v := nI 0) (pc := 11) f_106_11 (by decide) ?_
  refine G_pI (pc := 12) f_106_12 rfl (by first | assumption | exact hK.1 _ _ rfl) ?_
  refine G_S (pc := 15) f_106_15 rfl rfl rfl ?_
  refine G_ic (v := zI (-1)) (pc := 16) f_106_16 (by decide) ?_
  refine G_pI (pc := 17) f_106_17 rfl (by first | assumption | exact hK.1 _ _ rfl) ?_
  refine G_S (pc := 20) f_106_20 rfl rfl rfl ?_
  refine G_ic (v := nI 0) (pc := 21) f_106_21 (by decide) ?_
  refine G_pI (pc := 22) f_106_22 rfl (by first | assumption | exact hK.1 _ _ rfl) ?_
  refine G_S (pc := 25) f_106_25 rfl rfl rfl ?_
  refine G_gR (pc := 26) f_106_26 (by decide) rfl (by first | assumption | exact hK.1 _ _ rfl) (by first | assumption | exact hK.2 _ _ _ rfl | (try dsimp only) <;> (repeat (first | exact up2_s | refine up2_o (by first | decide | omega) ?_)) <;> first | assumption | exact hK.2 _ _ _ rfl) ?_
  refine G_S (pc := 29) f_106_29 rfl rfl rfl ?_
  refine G_gR (pc := 30) f_106_30 (by decide) rfl (by first | assumption | exact hK.1 _ _ rfl) (by first | assumption | exact hK.2 _ _ _ rfl | (try dsimp only) <;> (repeat (first | exact up2_s | refine up2_o (by first | decide | omega) ?_)) <;> first | assumption | exact hK.2 _ _ _ rfl) ?_
  refine G_CS (pc := 33) f_106_33 rfl rfl (by decide) rfl rfl ⟨Nat.le_of_ble_eq_true rfl, Nat.le_of_ble_eq_true rfl⟩ ?_
  refine CG.mono (c_copyRow (s := h + 3) (d := 79) (n0 := 8) (n1 := 8) t3 (hK.1 79 _ rfl) (by decide) (by decide)) ?_
  rintro _ M2 ⟨rfl, rfl⟩
  refine G_S (pc := 36) f_106_36 rfl rfl rfl ?_
  refine G_gR (pc := 37) f_106_37 (by decide) rfl (by first | assumption | exact hK.1 _ _ rfl) (by first | assumption | exact hK.2 _ _ _ rfl | (try dsimp only) <;> (repeat (first | exact up2_s | refine up2_o (by first | decide | omega) ?_)) <;> first | assumption | exact hK.2 _ _ _ rfl) ?_
  refine G_ic (v := zI (-1)) (pc := 40) f_106_40 (by decide) ?_
  refine G_CS (pc := 41) f_106_41 rfl rfl (by decide) rfl rfl ⟨Nat.le_of_ble_eq_true rfl, Nat.le_of_ble_eq_true rfl⟩ ?_
  refine CG.mono (c_fill (n := 8) (hK.1 80 _ rfl) (by decide)) ?_
  rintro _ M3 ⟨rfl, e1, e2, e3, e4, f1⟩
  have hK3 : KM M3.1 M3.2.2.2 := by rw [e1, e3]; exact hK1
  have hK := hK3
  refine G_S (pc := 44) f_106_44 rfl rfl rfl ?_
  refine G_gR (pc := 45) f_106_45 (by decide) rfl (by first | assumption | exact hK.1 _ _ rfl) (by first | assumption | exact hK.2 _ _ _ rfl | (try dsimp only) <;> (repeat (first | exact up2_s | refine up2_o (by first | decide | omega) ?_)) <;> first | assumption | exact hK.2 _ _ _ rfl) ?_
  refine G_ic (v := zI (-1)) (pc := 48) f_106_48 (by decide) ?_
  refine G_CS (pc := 49) f_106_49 rfl rfl (by decide) rfl rfl ⟨Nat.le_of_ble_eq_true rfl, Nat.le_of_ble_eq_true rfl⟩ ?_
  refine CG.mono (c_fill (n := 6) (hK.1 81 _ rfl) (by decide)) ?_
  rintro _ M4 ⟨rfl, e1', e2', e3', e4', f2⟩
  refine G_rv (pc := 52) f_106_52 ?_
  have hF2 : Fc [80] _ M3 := Fc.fl e1 e2 e3 e4
  have hF3 : Fc [81] M3 M4 := Fc.fl e1' e2' e3' e4'
  have hFc : Fc [79] (M.1, up2 (up2 (up2 (up2 M.2.1 78 1 (nI 0)) 78 2 (nI 0)) 78 3 (zI (-1))) 78 4 (nI 0), M.2.2.1, up2 M.2.2.2 78 0 (some h)) (M.1, up1 (up2 (up2 (up2 (up2 M.2.1 78 1 (nI 0)) 78 2 (nI 0)) 78 3 (zI (-1))) 78 4 (nI 0)) 79 (va_cpy (up2 (up2 (up2 (up2 M.2.1 78 1 (nI 0)) 78 2 (nI 0)) 78 3 (zI (-1))) 78 4 (nI 0) (h + 3)) (up2 (up2 (up2 (up2 M.2.1 78 1 (nI 0)) 78 2 (nI 0)) 78 3 (zI (-1))) 78 4 (nI 0) 79) 0 0 (min 8 8)), M.2.2.1, up2 M.2.2.2 78 0 (some h)) := by
    refine ⟨rfl, fun _ _ _ => rfl, fun i hi => ⟨?_, rfl⟩⟩
    dsimp only
    exact up1_o (fun q => hi (by rw [q]; decide)) rfl
  have hF : Fc TF M M4 := (((hF1.sub (by decide)).tr (hFc.sub (by decide))).tr (hF2.sub (by decide))).tr (hF3.sub (by decide))
  have hsep : h + 3 ≠ 78 ∧ h + 3 ≠ 79 := by
    unfold Lsep at hs
    omega
  refine ⟨rfl, hF, W.fc hF TFo, ?_, ⟨?_, ?_, ?_, ?_⟩, fun r hr => ?_, fun r hr => ?_, fun s hs => ?_, TOK.s0 hD⟩
  · rw [e3', e3]
    exact (by (try dsimp only); exact up2_s)
  · rw [e4' 78 (by decide), e4 78 (by decide)]
    dsimp only
    rw [up1_o (by decide) rfl]
    exact (by (try dsimp only); exact up2_o (by omega) (by (try dsimp only); exact up2_o (by omega) (by (try dsimp only); exact up2_o (by omega) (by (try dsimp only); exact up2_s))))
  · rw [e4' 78 (by decide), e4 78 (by decide)]
    dsimp only
    rw [up1_o (by decide) rfl]
    exact (by (try dsimp only); exact up2_o (by omega) (by (try dsimp only); exact up2_o (by omega) (by (try dsimp only); exact up2_s)))
  · rw [e4' 78 (by decide), e4 78 (by decide)]
    dsimp only
    rw [up1_o (by decide) rfl]
    exact (by (try dsimp only); exact up2_o (by omega) (by (try dsimp only); exact up2_s))
  · rw [e4' 78 (by decide), e4 78 (by decide)]
    dsimp only
    rw [up1_o (by decide) rfl]
    exact (by (try dsimp only); exact up2_s)
  · rw [e4' 79 (by decide), e4 79 (by decide)]
    dsimp only
    rw [up1_s, pk_cpy_in (Nat.zero_le r) (by omega), Nat.sub_zero, Nat.zero_add, up2_ne hsep.1, up2_ne hsep.1, up2_ne hsep.1, up2_ne hsep.1]
    exact (vr r hr).2
  · rw [e4' 80 (by decide), f1 r (by omega), show S0 (20 + r) = -1 from if_pos (Or.inr (by omega))]
  · rw [f2 s hs, show S0 (30 + s) = -1 from if_pos (Or.inr (by omega))]
/-- a ride's numbers: R 0 how many deeds, three a deed -/
def ROK (R : Nat → Int) : Prop := (0 ≤ R 0 ∧ R 0 ≤ 40) ∧ ∀ k : Nat, (k : Int) < R 0 → (0 ≤ R (1 + 3 * k) ∧ R (1 + 3 * k) ≤ 7) ∧ (-1 ≤ R (2 + 3 * k) ∧ R (2 + 3 * k) ≤ 99) ∧ (-1 ≤ R (3 + 3 * k) ∧ R (3 + 3 * k) ≤ 99)
def RWd (M : Mm) (v : Nat) (R : Nat → Int) : Prop := KM M.1 M.2.2.2 ∧ ((M.1[v]? = some (6, 4) ∧ M.1[v + 1]? = some (50, 40) ∧ M.1[v + 2]? = some (50, 40) ∧ M.1[v + 3]? = some (50, 40)) ∧ M.2.2.2 v 0 = some (v + 1) ∧ M.2.2.2 v 1 = some (v + 2) ∧ M.2.2.2 v 2 = some (v + 3)) ∧ (ROK R ∧ M.2.1 v 3 = zI (R 0) ∧ (∀ k : Nat, (k : Int) < R 0 → M.2.1 (v + 1) k = zI (R (1 + 3 * k))) ∧ (∀ k : Nat, (k : Int) < R 0 → M.2.1 (v + 2) k = zI (R (2 + 3 * k))) ∧ ∀ k : Nat, (k : Int) < R 0 → M.2.1 (v + 3) k = zI (R (3 + 3 * k))) ∧ v + 3 < 78
theorem RWd.fc {M' : Mm} {v : Nat} {R : Nat → Int} {os : List Nat} (W : RWd M v R) (hF : Fc os M M') (ho : ∀ i, i ∈ os → 78 ≤ i) : RWd M' v R := by
  obtain ⟨hK, ⟨hT, r0, r1, r2⟩, ⟨hR, e, q1, q2, q3⟩, hv⟩ := W
  have nin : ∀ j, j ≤ 3 → v + j ∉ os := fun j hj q => by have := ho _ q; omega
  have n0 : v ∉ os := nin 0 (by omega)
  refine ⟨hF.K hK, ⟨by rw [hF.1]; exact hT, ?_, ?_, ?_⟩, ⟨hR, ?_, ?_, ?_, ?_⟩, hv⟩
  · rw [hF.2.1 v 0 (Or.inl n0)]; exact r0
  · rw [hF.2.1 v 1 (Or.inl n0)]; exact r1
  · rw [hF.2.1 v 2 (Or.inl n0)]; exact r2
  · rw [(hF.2.2 v n0).1]; exact e
  · rw [(hF.2.2 (v + 1) (nin 1 (by omega))).1]; exact q1
  · rw [(hF.2.2 (v + 2) (nin 2 (by omega))).1]; exact q2
  · rw [(hF.2.2 (v + 3) (nin 3 (by omega))).1]; exact q3
def rnF (D : Nat → Nat) (R : Nat → Int) : Nat → Nat → (Nat → Int) → (Nat → Nat) → Nat × (Nat → Int) × (Nat → Nat)
  | 0, k, S, b => (k, S, b)
  | f + 1, k, S, b => if dB D (R (1 + 3 * k)) (R (2 + 3 * k)) (R (3 + 3 * k)) S then rnF D R f (k + 1) (dF D (R (1 + 3 * k)) (R (2 + 3 * k)) (R (3 + 3 * k)) S b).1 (dF D (R (1 + 3 * k)) (R (2 + 3 * k)) (R (3 + 3 * k)) S b).2 else (k, S, b)
theorem rnF_le (D : Nat → Nat) (R : Nat → Int) : ∀ f k S b, (rnF D R f k S b).1 ≤ k + f
  | 0, k, S, b => Nat.le_refl _
  | f + 1, k, S, b => by
    rw [rnF]
    split
    · have := rnF_le D R f (k + 1) (dF D (R (1 + 3 * k)) (R (2 + 3 * k)) (R (3 + 3 * k)) S b).1 (dF D (R (1 + 3 * k)) (R (2 + 3 * k)) (R (3 + 3 * k)) S b).2
      omega
    · show k ≤ _
      omega
theorem t_follow {v m : Nat} {R : Nat → Int} (W : TW M h D 0 S b) (V : RWd M v R) (hm : (m : Int) ≤ R 0) : CG C 107 [.ref 78, .ref v, .int (nI m)] M (fun w M' => w = some (.int (nI (rnF D R m 0 S b).1)) ∧ Fc TF M M' ∧ ((rnF D R m 0 S b).1 = m → TW M' h D m (rnF D R m 0 S b).2.1 (rnF D R m 0 S b).2.2)) := by
  have loop : ∀ d i, i + d = m → ∀ M1 S b, TW M1 h D i S b → RWd M1 v R → G C 107 (12, [some (.ref 78), some (.ref v), some (.int (nI m)), some (.int (nI m)), some (.int (nI i))], [], [], M1) (fun w M' => w = some (.int (nI (rnF D R d i S b).1)) ∧ Fc TF M1 M' ∧ ((rnF D R d i S b).1 = m → TW M' h D m (rnF D R d i S b).2.1 (rnF D R d i S b).2.2)) := by
    intro d
    induction d with
    | zero =>
      intro i hi M1 S b W V
      have e : i = m := by omega
      subst e
      refine G_S (pc := 12) f_107_12 rfl rfl rfl ?_
      refine G_S (pc := 14) f_107_14 rfl rfl rfl ?_
      refine G_jgeZ (pc := 15) f_107_15 rfl (by first | exact nI_toInt (by omega) | exact zI_toInt (by omega) (by omega) | rfl) (by first | exact nI_toInt (by omega) | exact zI_toInt (by omega) (by omega) | rfl) (fun b1 => ?_) (fun b1 => ?_)
      · refine G_S (pc := 55) f_107_55 rfl rfl rfl ?_
        refine G_ri (pc := 56) f_107_56 ?_
        exact ⟨rfl, Fc.rf, fun _ => W⟩
      · exfalso; omega
    | succ d ih =>
      intro i hi M1 S b W V
      obtain ⟨hK, ⟨⟨t0, t1, t2, t3⟩, r0, r1, r2⟩, ⟨hR, e, q1, q2, q3⟩, hv⟩ := V
      have hRi := hR.2 i (by omega)
      have hR0 := hR.1
      refine G_S (pc := 12) f_107_12 rfl rfl rfl ?_
      refine G_S (pc := 14) f_107_14 rfl rfl rfl ?_
      refine G_jgeZ (pc := 15) f_107_15 rfl (by first | exact nI_toInt (by omega) | exact zI_toInt (by omega) (by omega) | rfl) (by first | exact nI_toInt (by omega) | exact zI_toInt (by omega) (by omega) | rfl) (fun b1 => ?_) (fun b1 => ?_)
      · exfalso; omega
      · refine G_S (pc := 18) f_107_18 rfl rfl rfl ?_
        refine G_S (pc := 19) f_107_19 rfl rfl rfl ?_
        refine G_gR (pc := 20) f_107_20 (by decide) rfl (by first | assumption | exact hK.1 _ _ rfl) (by first | assumption | exact hK.2 _ _ _ rfl | (try dsimp only) <;> (repeat (first | exact up2_s | refine up2_o (by first | decide | omega) ?_)) <;> first | assumption | exact hK.2 _ _ _ rfl) ?_
        refine G_S (pc := 23) f_107_23 rfl rfl rfl ?_
        refine G_iaN (pc := 25) f_107_25 (by first | assumption | exact hK.1 _ _ rfl) (by omega) (by omega) (by first | assumption | exact q1 _ (by omega) | exact q2 _ (by omega) | exact q3 _ (by omega) | exact q4 _ (by omega) | exact q5 _ (by omega) | exact vh _ (by omega) | exact (vr _ (by omega)).1 | exact (vr _ (by omega)).2 | exact vw _ (by omega) | exact vf _ (by omega) (by omega) | exact mI_s | ((refine mI_o (by first | decide | omega) ?_); (repeat (refine mI_o (by first | decide | omega) ?_)); first | exact mI_s | assumption | exact q1 _ (by omega) | exact q2 _ (by omega) | exact q3 _ (by omega) | exact q4 _ (by omega) | exact q5 _ (by omega) | exact vh _ (by omega) | exact (vr _ (by omega)).1 | exact (vr _ (by omega)).2 | exact vw _ (by omega) | exact vf _ (by omega) (by omega)) | rfl) ?_
        refine G_S (pc := 26) f_107_26 rfl rfl rfl ?_
        refine G_gR (pc := 27) f_107_27 (by decide) rfl (by first | assumption | exact hK.1 _ _ rfl) (by first | assumption | exact hK.2 _ _ _ rfl | (try dsimp only) <;> (repeat (first | exact up2_s | refine up2_o (by first | decide | omega) ?_)) <;> first | assumption | exact hK.2 _ _ _ rfl) ?_
        refine G_S (pc := 30) f_107_30 rfl rfl rfl ?_
        refine G_iaN (pc := 32) f_107_32 (by first | assumption | exact hK.1 _ _ rfl) (by omega) (by omega) (by first | assumption | exact q1 _ (by omega) | exact q2 _ (by omega) | exact q3 _ (by omega) | exact q4 _ (by omega) | exact q5 _ (by omega) | exact vh _ (by omega) | exact (vr _ (by omega)).1 | exact (vr _ (by omega)).2 | exact vw _ (by omega) | exact vf _ (by omega) (by omega) | exact mI_s | ((refine mI_o (by first | decide | omega) ?_); (repeat (refine mI_o (by first | decide | omega) ?_)); first | exact mI_s | assumption | exact q1 _ (by omega) | exact q2 _ (by omega) | exact q3 _ (by omega) | exact q4 _ (by omega) | exact q5 _ (by omega) | exact vh _ (by omega) | exact (vr _ (by omega)).1 | exact (vr _ (by omega)).2 | exact vw _ (by omega) | exact vf _ (by omega) (by omega)) | rfl) ?_
        refine G_S (pc := 33) f_107_33 rfl rfl rfl ?_
        refine G_gR (pc := 34) f_107_34 (by decide) rfl (by first | assumption | exact hK.1 _ _ rfl) (by first | assumption | exact hK.2 _ _ _ rfl | (try dsimp only) <;> (repeat (first | exact up2_s | refine up2_o (by first | decide | omega) ?_)) <;> first | assumption | exact hK.2 _ _ _ rfl) ?_
        refine G_S (pc := 37) f_107_37 rfl rfl rfl ?_
        refine G_iaN (pc := 39) f_107_39 (by first | assumption | exact hK.1 _ _ rfl) (by omega) (by omega) (by first | assumption | exact q1 _ (by omega) | exact q2 _ (by omega) | exact q3 _ (by omega) | exact q4 _ (by omega) | exact q5 _ (by omega) | exact vh _ (by omega) | exact (vr _ (by omega)).1 | exact (vr _ (by omega)).2 | exact vw _ (by omega) | exact vf _ (by omega) (by omega) | exact mI_s | ((refine mI_o (by first | decide | omega) ?_); (repeat (refine mI_o (by first | decide | omega) ?_)); first | exact mI_s | assumption | exact q1 _ (by omega) | exact q2 _ (by omega) | exact q3 _ (by omega) | exact q4 _ (by omega) | exact q5 _ (by omega) | exact vh _ (by omega) | exact (vr _ (by omega)).1 | exact (vr _ (by omega)).2 | exact vw _ (by omega) | exact vf _ (by omega) (by omega)) | rfl) ?_
        refine G_CV (pc := 40) f_107_40 rfl rfl (by decide) rfl rfl (by first | assumption | exact hK.1 _ _ rfl) (by decide) ⟨Nat.le_of_ble_eq_true rfl, Nat.le_of_ble_eq_true rfl⟩ ?_
        refine CG.mono (t_perform W hRi.1 hRi.2.1 hRi.2.2) ?_
        rintro _ M2 ⟨rfl, hF, W2⟩
        first | refine G_bNe (pc := 43) f_107_43 rfl (fun b2 => ?_) (fun b2 => ?_) | refine G_zneZ (pc := 43) f_107_43 rfl (by first | exact nI_toInt (by omega) | exact zI_toInt (by omega) (by omega) | rfl) (fun b2 => ?_) (fun b2 => ?_)
        · first | refine G_inc1 (pc := 49) f_107_49 rfl ?_ | refine G_S (pc := 49) f_107_49 rfl rfl rfl ?_
          refine G_S (pc := 52) f_107_52 rfl rfl rfl ?_
          have V2 := RWd.fc ⟨hK, ⟨⟨t0, t1, t2, t3⟩, r0, r1, r2⟩, ⟨hR, e, q1, q2, q3⟩, hv⟩ hF.1 (fun j hj => (TFo j hj).1)
          refine G.mono (ih (i + 1) (by omega) M2 _ _ W2 V2) ?_
          rintro w M9 ⟨g1, g2, g3⟩
          rw [rnF, if_pos b2]
          exact ⟨g1, hF.1.tr g2, g3⟩
        · refine G_S (pc := 46) f_107_46 rfl rfl rfl ?_
          refine G_ri (pc := 48) f_107_48 ?_
          rw [rnF, if_neg b2]
          exact ⟨rfl, hF.1, fun q => absurd (show i = m from q) (by omega)⟩
  obtain ⟨hK, ⟨⟨t0, t1, t2, t3⟩, r0, r1, r2⟩, ⟨hR, e, q1, q2, q3⟩, hv⟩ := V
  have hR0 := hR.1
  obtain ⟨c, hc⟩ : ∃ c : Nat, R 0 = (c : Int) := ⟨(R 0).toNat, by omega⟩
  have e' : M.2.1 v 3 = nI c := by rw [e, hc, nI_zI]
  refine CG_in (mL := 5) (hl := false) (lv := [some (.ref 78), some (.ref v), some (.int (nI m)), none, none]) (ll := []) rfl rfl rfl ?_
  refine G_S (pc := 0) f_107_0 rfl rfl rfl ?_
  refine G_S (pc := 1) f_107_1 rfl rfl rfl ?_
  refine G_gIv (pc := 2) f_107_2 (by decide) rfl (by decide) (by first | assumption | exact hK.1 _ _ rfl) (e') ?_
  first | refine G_minN (pc := 5) f_107_5 rfl rfl (by omega) (by omega) ?_ | refine G_minZ (pc := 5) f_107_5 rfl rfl (by first | exact nI_toInt (by omega) | exact zI_toInt (by omega) (by omega) | rfl) (by first | exact nI_toInt (by omega) | exact zI_toInt (by omega) (by omega) | rfl) ?_
  refine G_S (pc := 8) f_107_8 rfl rfl rfl ?_
  refine G_ic (v := nI 0) (pc := 9) f_107_9 (by decide) ?_
  refine G_S (pc := 10) f_107_10 rfl rfl rfl ?_
  rw [show min m c = m by omega]
  exact loop m 0 (by omega) M S b W ⟨hK, ⟨⟨t0, t1, t2, t3⟩, r0, r1, r2⟩, ⟨hR, e, q1, q2, q3⟩, hv⟩
/-- what is asked of a state -/
def asP (D : Nat → Nat) (S : Nat → Int) (b : Nat → Nat) (p r : Nat) : Int32 := if p = 1 then (if r < D 2 then nI (b r) else zI (-2)) else if p = 2 then (if r < D 2 then zI (S (20 + r)) else zI (-2)) else if p = 3 then (if r < D 1 then zI (S (30 + r)) else zI (-2)) else zI (-2)
def asF (D : Nat → Nat) (S : Nat → Int) (b : Nat → Nat) (x : Int32) : Int32 := if x.toInt = 0 then zI (S 0) else if x.toInt = 1 then zI (S 1) else if x.toInt = 2 then zI (S 2) else if x.toInt = 3 then nI (ptN D S b (D 2)) else if x.toInt = 4 then nI (abN S (D 2)) else if x.toInt = 5 then nI (smN D S b (D 2)) else if x.toInt = 6 then zI (S 3) else if x.toInt < 10 then zI (-2) else asP D S b (x.toInt.toNat / 10) (x.toInt.toNat % 10)
theorem sw7 (x : Int32) : x = nI 0 ∨ x = nI 1 ∨ x = nI 2 ∨ x = nI 3 ∨ x = nI 4 ∨ x = nI 5 ∨ x = nI 6 ∨ (x.toInt < 0 ∨ 6 < x.toInt) := by
  rcases sw6 x with h | h | h | h | h | h | h
  · exact Or.inl h
  · exact Or.inr (Or.inl h)
  · exact Or.inr (Or.inr (Or.inl h))
  · exact Or.inr (Or.inr (Or.inr (Or.inl h)))
  · exact Or.inr (Or.inr (Or.inr (Or.inr (Or.inl h))))
  · exact Or.inr (Or.inr (Or.inr (Or.inr (Or.inr (Or.inl h)))))
  · by_cases q : x.toInt = 6
    · obtain ⟨c, hc, rfl⟩ := i_nat (x := x) (n := 7) (by omega) (by omega)
      rw [nI_toInt (by omega)] at q
      rw [show c = 6 by omega]
      exact Or.inr (Or.inr (Or.inr (Or.inr (Or.inr (Or.inr (Or.inl rfl))))))
    · exact Or.inr (Or.inr (Or.inr (Or.inr (Or.inr (Or.inr (Or.inr (by omega)))))))
theorem asF_d {x : Int32} (h : x.toInt < 0 ∨ 6 < x.toInt) : asF D S b x = if x.toInt < 10 then zI (-2) else asP D S b (x.toInt.toNat / 10) (x.toInt.toNat % 10) := by
  unfold asF
  rw [if_neg (by omega), if_neg (by omega), if_neg (by omega), if_neg (by omega), if_neg (by omega), if_neg (by omega), if_neg (by omega)]
theorem t_answerOf {p r : Nat} (W : TW M h D k S b) (hp : p < 2 ^ 31) (hr : r < 10) : CG C 125 [.ref 78, .int (nI p), .int (nI r)] M (fun w M' => w = some (.int (asP D S b p r)) ∧ M' = M) := by
  have W_ := W.1
  have hK := W_.1
  obtain ⟨⟨t0, t1, t2, t3, t4, t5, t6⟩, r0, r3, r4, r6, r7, r8⟩ := W_.2.1
  obtain ⟨hD, ⟨v0, v1, v2⟩, vh, vr, vw, vf⟩ := W_.2.2.1
  have hs := W_.2.2.2.1
  have hh := W_.2.2.2.2
  have hn0 : _ ≤ 8 := hD.1
  have hn1 : _ ≤ 6 := hD.2.1.2
  have hn2 : _ ≤ 8 := hD.2.2.1
  obtain ⟨rl, ⟨s0, s1, s2, s3⟩, q1, q2, q3, hO⟩ := W.2
  obtain ⟨o0, o1, o2, o3, o4, o5, o6⟩ := hO
  have tr := t_isRider (C := C) (x := nI r) W
  rw [nI_toInt (by omega)] at tr
  refine CG_in (mL := 3) (hl := false) (lv := [some (.ref 78), some (.int (nI p)), some (.int (nI r))]) (ll := []) rfl rfl rfl ?_
  refine G_S (pc := 0) f_125_0 rfl rfl rfl ?_
  rcases (show p = 1 ∨ p = 2 ∨ p = 3 ∨ (p < 1 ∨ 3 < p) by omega) with rfl | rfl | rfl | hw
  · refine G_S (pc := 1) f_125_1 rfl rfl rfl ?_
    refine G_S (pc := 28) f_125_28 rfl rfl rfl ?_
    refine G_S (pc := 29) f_125_29 rfl rfl rfl ?_
    refine G_CV (pc := 30) f_125_30 rfl rfl (by decide) rfl rfl (by first | assumption | exact hK.1 _ _ rfl) (by decide) ⟨Nat.le_of_ble_eq_true rfl, Nat.le_of_ble_eq_true rfl⟩ ?_
    refine CG.go (tr) ?_
    first | refine G_bEq (pc := 33) f_125_33 rfl (fun b1 => ?_) (fun b1 => ?_) | refine G_zeqZ (pc := 33) f_125_33 rfl (by first | exact nI_toInt (by omega) | exact zI_toInt (by omega) (by omega) | rfl) (fun b1 => ?_) (fun b1 => ?_)
    · refine G_bi (v := zI (-2)) (pc := 45) f_125_45 (by decide) ?_
      refine G_ri (pc := 47) f_125_47 ?_
      refine ⟨?_, rfl⟩
      congr 2
      first
        | (show _ = (if r < D 2 then nI (b r) else zI (-2))
           first | rw [if_pos (by omega)] | rw [if_neg (by omega)])
        | (show _ = (if r < D 2 then zI (S (20 + r)) else zI (-2))
           first | rw [if_pos (by omega)] | rw [if_neg (by omega)])
        | (show _ = (if r < D 1 then zI (S (30 + r)) else zI (-2))
           first | rw [if_pos (by omega)] | rw [if_neg (by omega)])
        | (unfold asP
           rw [if_neg (by omega), if_neg (by omega), if_neg (by omega)])
    · refine G_S (pc := 36) f_125_36 rfl rfl rfl ?_
      refine G_gR (pc := 37) f_125_37 (by decide) rfl (by first | assumption | exact hK.1 _ _ rfl) (by first | assumption | exact hK.2 _ _ _ rfl | (try dsimp only) <;> (repeat (first | exact up2_s | refine up2_o (by first | decide | omega) ?_)) <;> first | assumption | exact hK.2 _ _ _ rfl) ?_
      refine G_S (pc := 40) f_125_40 rfl rfl rfl ?_
      refine G_iaN (pc := 41) f_125_41 (by first | assumption | exact hK.1 _ _ rfl) (by omega) (by omega) (by first | assumption | exact q1 _ (by omega) | exact q2 _ (by omega) | exact q3 _ (by omega) | exact q4 _ (by omega) | exact q5 _ (by omega) | exact vh _ (by omega) | exact (vr _ (by omega)).1 | exact (vr _ (by omega)).2 | exact vw _ (by omega) | exact vf _ (by omega) (by omega) | exact mI_s | ((refine mI_o (by first | decide | omega) ?_); (repeat (refine mI_o (by first | decide | omega) ?_)); first | exact mI_s | assumption | exact q1 _ (by omega) | exact q2 _ (by omega) | exact q3 _ (by omega) | exact q4 _ (by omega) | exact q5 _ (by omega) | exact vh _ (by omega) | exact (vr _ (by omega)).1 | exact (vr _ (by omega)).2 | exact vw _ (by omega) | exact vf _ (by omega) (by omega)) | rfl) ?_
      refine G_S (pc := 42) f_125_42 rfl rfl rfl ?_
      refine G_ri (pc := 47) f_125_47 ?_
      refine ⟨?_, rfl⟩
      congr 2
      first
        | (show _ = (if r < D 2 then nI (b r) else zI (-2))
           first | rw [if_pos (by omega)] | rw [if_neg (by omega)])
        | (show _ = (if r < D 2 then zI (S (20 + r)) else zI (-2))
           first | rw [if_pos (by omega)] | rw [if_neg (by omega)])
        | (show _ = (if r < D 1 then zI (S (30 + r)) else zI (-2))
           first | rw [if_pos (by omega)] | rw [if_neg (by omega)])
        | (unfold asP
           rw [if_neg (by omega), if_neg (by omega), if_neg (by omega)])
  · refine G_S (pc := 1) f_125_1 rfl rfl rfl ?_
    refine G_S (pc := 48) f_125_48 rfl rfl rfl ?_
    refine G_S (pc := 49) f_125_49 rfl rfl rfl ?_
    refine G_CV (pc := 50) f_125_50 rfl rfl (by decide) rfl rfl (by first | assumption | exact hK.1 _ _ rfl) (by decide) ⟨Nat.le_of_ble_eq_true rfl, Nat.le_of_ble_eq_true rfl⟩ ?_
    refine CG.go (tr) ?_
    first | refine G_bEq (pc := 53) f_125_53 rfl (fun b2 => ?_) (fun b2 => ?_) | refine G_zeqZ (pc := 53) f_125_53 rfl (by first | exact nI_toInt (by omega) | exact zI_toInt (by omega) (by omega) | rfl) (fun b2 => ?_) (fun b2 => ?_)
    · refine G_bi (v := zI (-2)) (pc := 65) f_125_65 (by decide) ?_
      refine G_ri (pc := 67) f_125_67 ?_
      refine ⟨?_, rfl⟩
      congr 2
      first
        | (show _ = (if r < D 2 then nI (b r) else zI (-2))
           first | rw [if_pos (by omega)] | rw [if_neg (by omega)])
        | (show _ = (if r < D 2 then zI (S (20 + r)) else zI (-2))
           first | rw [if_pos (by omega)] | rw [if_neg (by omega)])
        | (show _ = (if r < D 1 then zI (S (30 + r)) else zI (-2))
           first | rw [if_pos (by omega)] | rw [if_neg (by omega)])
        | (unfold asP
           rw [if_neg (by omega), if_neg (by omega), if_neg (by omega)])
    · refine G_S (pc := 56) f_125_56 rfl rfl rfl ?_
      refine G_gR (pc := 57) f_125_57 (by decide) rfl (by first | assumption | exact hK.1 _ _ rfl) (by first | assumption | exact hK.2 _ _ _ rfl | (try dsimp only) <;> (repeat (first | exact up2_s | refine up2_o (by first | decide | omega) ?_)) <;> first | assumption | exact hK.2 _ _ _ rfl) ?_
      refine G_S (pc := 60) f_125_60 rfl rfl rfl ?_
      refine G_iaN (pc := 61) f_125_61 (by first | assumption | exact hK.1 _ _ rfl) (by omega) (by omega) (by first | assumption | exact q1 _ (by omega) | exact q2 _ (by omega) | exact q3 _ (by omega) | exact q4 _ (by omega) | exact q5 _ (by omega) | exact vh _ (by omega) | exact (vr _ (by omega)).1 | exact (vr _ (by omega)).2 | exact vw _ (by omega) | exact vf _ (by omega) (by omega) | exact mI_s | ((refine mI_o (by first | decide | omega) ?_); (repeat (refine mI_o (by first | decide | omega) ?_)); first | exact mI_s | assumption | exact q1 _ (by omega) | exact q2 _ (by omega) | exact q3 _ (by omega) | exact q4 _ (by omega) | exact q5 _ (by omega) | exact vh _ (by omega) | exact (vr _ (by omega)).1 | exact (vr _ (by omega)).2 | exact vw _ (by omega) | exact vf _ (by omega) (by omega)) | rfl) ?_
      refine G_S (pc := 62) f_125_62 rfl rfl rfl ?_
      refine G_ri (pc := 67) f_125_67 ?_
      refine ⟨?_, rfl⟩
      congr 2
      first
        | (show _ = (if r < D 2 then nI (b r) else zI (-2))
           first | rw [if_pos (by omega)] | rw [if_neg (by omega)])
        | (show _ = (if r < D 2 then zI (S (20 + r)) else zI (-2))
           first | rw [if_pos (by omega)] | rw [if_neg (by omega)])
        | (show _ = (if r < D 1 then zI (S (30 + r)) else zI (-2))
           first | rw [if_pos (by omega)] | rw [if_neg (by omega)])
        | (unfold asP
           rw [if_neg (by omega), if_neg (by omega), if_neg (by omega)])
  · refine G_S (pc := 1) f_125_1 rfl rfl rfl ?_
    refine G_S (pc := 68) f_125_68 rfl rfl rfl ?_
    refine G_S (pc := 69) f_125_69 rfl rfl rfl ?_
    refine G_gR (pc := 70) f_125_70 (by decide) rfl (by first | assumption | exact hK.1 _ _ rfl) (by first | assumption | exact hK.2 _ _ _ rfl | (try dsimp only) <;> (repeat (first | exact up2_s | refine up2_o (by first | decide | omega) ?_)) <;> first | assumption | exact hK.2 _ _ _ rfl) ?_
    refine G_gIv (pc := 73) f_125_73 (by decide) rfl (by decide) (by first | assumption | exact hK.1 _ _ rfl) (by first | assumption | exact mI_s | ((refine mI_o (by first | decide | omega) ?_); (repeat (refine mI_o (by first | decide | omega) ?_)); first | exact mI_s | assumption) | rfl) ?_
    refine G_jgeZ (pc := 76) f_125_76 rfl (by first | exact nI_toInt (by omega) | exact zI_toInt (by omega) (by omega) | rfl) (by first | exact nI_toInt (by omega) | exact zI_toInt (by omega) (by omega) | rfl) (fun b3 => ?_) (fun b3 => ?_)
    · refine G_bi (v := zI (-2)) (pc := 88) f_125_88 (by decide) ?_
      refine G_ri (pc := 90) f_125_90 ?_
      refine ⟨?_, rfl⟩
      congr 2
      first
        | (show _ = (if r < D 2 then nI (b r) else zI (-2))
           first | rw [if_pos (by omega)] | rw [if_neg (by omega)])
        | (show _ = (if r < D 2 then zI (S (20 + r)) else zI (-2))
           first | rw [if_pos (by omega)] | rw [if_neg (by omega)])
        | (show _ = (if r < D 1 then zI (S (30 + r)) else zI (-2))
           first | rw [if_pos (by omega)] | rw [if_neg (by omega)])
        | (unfold asP
           rw [if_neg (by omega), if_neg (by omega), if_neg (by omega)])
    · refine G_S (pc := 79) f_125_79 rfl rfl rfl ?_
      refine G_gR (pc := 80) f_125_80 (by decide) rfl (by first | assumption | exact hK.1 _ _ rfl) (by first | assumption | exact hK.2 _ _ _ rfl | (try dsimp only) <;> (repeat (first | exact up2_s | refine up2_o (by first | decide | omega) ?_)) <;> first | assumption | exact hK.2 _ _ _ rfl) ?_
      refine G_S (pc := 83) f_125_83 rfl rfl rfl ?_
      refine G_iaN (pc := 84) f_125_84 (by first | assumption | exact hK.1 _ _ rfl) (by omega) (by omega) (by first | assumption | exact q1 _ (by omega) | exact q2 _ (by omega) | exact q3 _ (by omega) | exact q4 _ (by omega) | exact q5 _ (by omega) | exact vh _ (by omega) | exact (vr _ (by omega)).1 | exact (vr _ (by omega)).2 | exact vw _ (by omega) | exact vf _ (by omega) (by omega) | exact mI_s | ((refine mI_o (by first | decide | omega) ?_); (repeat (refine mI_o (by first | decide | omega) ?_)); first | exact mI_s | assumption | exact q1 _ (by omega) | exact q2 _ (by omega) | exact q3 _ (by omega) | exact q4 _ (by omega) | exact q5 _ (by omega) | exact vh _ (by omega) | exact (vr _ (by omega)).1 | exact (vr _ (by omega)).2 | exact vw _ (by omega) | exact vf _ (by omega) (by omega)) | rfl) ?_
      refine G_S (pc := 85) f_125_85 rfl rfl rfl ?_
      refine G_ri (pc := 90) f_125_90 ?_
      refine ⟨?_, rfl⟩
      congr 2
      first
        | (show _ = (if r < D 2 then nI (b r) else zI (-2))
           first | rw [if_pos (by omega)] | rw [if_neg (by omega)])
        | (show _ = (if r < D 2 then zI (S (20 + r)) else zI (-2))
           first | rw [if_pos (by omega)] | rw [if_neg (by omega)])
        | (show _ = (if r < D 1 then zI (S (30 + r)) else zI (-2))
           first | rw [if_pos (by omega)] | rw [if_neg (by omega)])
        | (unfold asP
           rw [if_neg (by omega), if_neg (by omega), if_neg (by omega)])
  · refine G_tsO (pc := 1) f_125_1 rfl ((by rw [nI_toInt hp]; omega)) ?_
    refine G_bi (v := zI (-2)) (pc := 91) f_125_91 (by decide) ?_
    refine G_ri (pc := 93) f_125_93 ?_
    refine ⟨?_, rfl⟩
    congr 2
    first
      | (show _ = (if r < D 2 then nI (b r) else zI (-2))
         first | rw [if_pos (by omega)] | rw [if_neg (by omega)])
      | (show _ = (if r < D 2 then zI (S (20 + r)) else zI (-2))
         first | rw [if_pos (by omega)] | rw [if_neg (by omega)])
      | (show _ = (if r < D 1 then zI (S (30 + r)) else zI (-2))
         first | rw [if_pos (by omega)] | rw [if_neg (by omega)])
      | (unfold asP
         rw [if_neg (by omega), if_neg (by omega), if_neg (by omega)])
theorem t_answer (W : TW M h D k S b) : CG C 124 [.ref 78, .int x] M (fun w M' => w = some (.int (asF D S b x)) ∧ M' = M) := by
  have W_ := W.1
  have hK := W_.1
  obtain ⟨⟨t0, t1, t2, t3, t4, t5, t6⟩, r0, r3, r4, r6, r7, r8⟩ := W_.2.1
  obtain ⟨hD, ⟨v0, v1, v2⟩, vh, vr, vw, vf⟩ := W_.2.2.1
  have hs := W_.2.2.2.1
  have hh := W_.2.2.2.2
  have hn0 : _ ≤ 8 := hD.1
  have hn1 : _ ≤ 6 := hD.2.1.2
  have hn2 : _ ≤ 8 := hD.2.2.1
  obtain ⟨rl, ⟨s0, s1, s2, s3⟩, q1, q2, q3, hO⟩ := W.2
  obtain ⟨o0, o1, o2, o3, o4, o5, o6⟩ := hO
  by_cases hx : x.toInt < 10
  · refine CG_in (mL := 2) (hl := false) (lv := [some (.ref 78), some (.int x)]) (ll := []) rfl rfl rfl ?_
    refine G_S (pc := 0) f_124_0 rfl rfl rfl ?_
    rcases sw7 x with rfl | rfl | rfl | rfl | rfl | rfl | rfl | hw
    · refine G_S (pc := 1) f_124_1 rfl rfl rfl ?_
      refine G_S (pc := 44) f_124_44 rfl rfl rfl ?_
      refine G_gIv (pc := 45) f_124_45 (by decide) rfl (by decide) (by first | assumption | exact hK.1 _ _ rfl) (by first | assumption | exact mI_s | ((refine mI_o (by first | decide | omega) ?_); (repeat (refine mI_o (by first | decide | omega) ?_)); first | exact mI_s | assumption) | rfl) ?_
      refine G_ri (pc := 48) f_124_48 ?_
      first
        | exact ⟨rfl, rfl⟩
        | exact ⟨by rw [asF_d hw, if_pos hx], rfl⟩
    · refine G_S (pc := 1) f_124_1 rfl rfl rfl ?_
      refine G_S (pc := 49) f_124_49 rfl rfl rfl ?_
      refine G_gIv (pc := 50) f_124_50 (by decide) rfl (by decide) (by first | assumption | exact hK.1 _ _ rfl) (by first | assumption | exact mI_s | ((refine mI_o (by first | decide | omega) ?_); (repeat (refine mI_o (by first | decide | omega) ?_)); first | exact mI_s | assumption) | rfl) ?_
      refine G_ri (pc := 53) f_124_53 ?_
      first
        | exact ⟨rfl, rfl⟩
        | exact ⟨by rw [asF_d hw, if_pos hx], rfl⟩
    · refine G_S (pc := 1) f_124_1 rfl rfl rfl ?_
      refine G_S (pc := 54) f_124_54 rfl rfl rfl ?_
      refine G_gIv (pc := 55) f_124_55 (by decide) rfl (by decide) (by first | assumption | exact hK.1 _ _ rfl) (by first | assumption | exact mI_s | ((refine mI_o (by first | decide | omega) ?_); (repeat (refine mI_o (by first | decide | omega) ?_)); first | exact mI_s | assumption) | rfl) ?_
      refine G_ri (pc := 58) f_124_58 ?_
      first
        | exact ⟨rfl, rfl⟩
        | exact ⟨by rw [asF_d hw, if_pos hx], rfl⟩
    · refine G_S (pc := 1) f_124_1 rfl rfl rfl ?_
      refine G_S (pc := 59) f_124_59 rfl rfl rfl ?_
      refine G_CV (pc := 60) f_124_60 rfl rfl (by decide) rfl rfl (by first | assumption | exact hK.1 _ _ rfl) (by decide) ⟨Nat.le_of_ble_eq_true rfl, Nat.le_of_ble_eq_true rfl⟩ ?_
      refine CG.go (t_pulls W) ?_
      refine G_ri (pc := 63) f_124_63 ?_
      first
        | exact ⟨rfl, rfl⟩
        | exact ⟨by rw [asF_d hw, if_pos hx], rfl⟩
    · refine G_S (pc := 1) f_124_1 rfl rfl rfl ?_
      refine G_S (pc := 64) f_124_64 rfl rfl rfl ?_
      refine G_CV (pc := 65) f_124_65 rfl rfl (by decide) rfl rfl (by first | assumption | exact hK.1 _ _ rfl) (by decide) ⟨Nat.le_of_ble_eq_true rfl, Nat.le_of_ble_eq_true rfl⟩ ?_
      refine CG.go (t_aboard W) ?_
      refine G_ri (pc := 68) f_124_68 ?_
      first
        | exact ⟨rfl, rfl⟩
        | exact ⟨by rw [asF_d hw, if_pos hx], rfl⟩
    · refine G_S (pc := 1) f_124_1 rfl rfl rfl ?_
      refine G_S (pc := 69) f_124_69 rfl rfl rfl ?_
      refine G_CV (pc := 70) f_124_70 rfl rfl (by decide) rfl rfl (by first | assumption | exact hK.1 _ _ rfl) (by decide) ⟨Nat.le_of_ble_eq_true rfl, Nat.le_of_ble_eq_true rfl⟩ ?_
      refine CG.go (t_smoke W) ?_
      refine G_ri (pc := 73) f_124_73 ?_
      first
        | exact ⟨rfl, rfl⟩
        | exact ⟨by rw [asF_d hw, if_pos hx], rfl⟩
    · refine G_S (pc := 1) f_124_1 rfl rfl rfl ?_
      refine G_S (pc := 74) f_124_74 rfl rfl rfl ?_
      refine G_gIv (pc := 75) f_124_75 (by decide) rfl (by decide) (by first | assumption | exact hK.1 _ _ rfl) (by first | assumption | exact mI_s | ((refine mI_o (by first | decide | omega) ?_); (repeat (refine mI_o (by first | decide | omega) ?_)); first | exact mI_s | assumption) | rfl) ?_
      refine G_ri (pc := 78) f_124_78 ?_
      first
        | exact ⟨rfl, rfl⟩
        | exact ⟨by rw [asF_d hw, if_pos hx], rfl⟩
    · refine G_tsO (pc := 1) f_124_1 rfl (hw) ?_
      refine G_S (pc := 79) f_124_79 rfl rfl rfl ?_
      refine G_bi (v := nI 10) (pc := 80) f_124_80 (by decide) ?_
      refine G_jgeZ (pc := 82) f_124_82 rfl (by first | exact nI_toInt (by omega) | exact zI_toInt (by omega) (by omega) | rfl) (by first | exact nI_toInt (by omega) | exact zI_toInt (by omega) (by omega) | rfl) (fun b1 => ?_) (fun b1 => ?_)
      · exfalso; omega
      · refine G_bi (v := zI (-2)) (pc := 85) f_124_85 (by decide) ?_
        refine G_S (pc := 87) f_124_87 rfl rfl rfl ?_
        refine G_ri (pc := 102) f_124_102 ?_
        first
          | exact ⟨rfl, rfl⟩
          | exact ⟨by rw [asF_d hw, if_pos hx], rfl⟩
  · obtain ⟨c, hc, rfl⟩ := i_nat (x := x) (n := 2 ^ 31) (by omega) (Int32.toInt_lt x)
    rw [nI_toInt hc] at hx
    refine CG_in (mL := 2) (hl := false) (lv := [some (.ref 78), some (.int (nI c))]) (ll := []) rfl rfl rfl ?_
    refine G_S (pc := 0) f_124_0 rfl rfl rfl ?_
    skip
    · refine G_tsO (pc := 1) f_124_1 rfl ((Or.inr (by rw [nI_toInt hc]; omega))) ?_
      refine G_S (pc := 79) f_124_79 rfl rfl rfl ?_
      refine G_bi (v := nI 10) (pc := 80) f_124_80 (by decide) ?_
      refine G_jgeZ (pc := 82) f_124_82 rfl (by first | exact nI_toInt (by omega) | exact zI_toInt (by omega) (by omega) | rfl) (by first | exact nI_toInt (by omega) | exact zI_toInt (by omega) (by omega) | rfl) (fun b1 => ?_) (fun b1 => ?_)
      · refine G_S (pc := 90) f_124_90 rfl rfl rfl ?_
        refine G_S (pc := 91) f_124_91 rfl rfl rfl ?_
        refine G_bi (v := nI 10) (pc := 92) f_124_92 (by decide) ?_
        refine G_divN (pc := 94) f_124_94 (by omega) (by omega) (by omega) ?_
        refine G_S (pc := 95) f_124_95 rfl rfl rfl ?_
        refine G_bi (v := nI 10) (pc := 96) f_124_96 (by decide) ?_
        refine G_remN (pc := 98) f_124_98 (by omega) (by omega) (by omega) ?_
        refine G_CV (pc := 99) f_124_99 rfl rfl (by decide) rfl rfl (by first | assumption | exact hK.1 _ _ rfl) (by decide) ⟨Nat.le_of_ble_eq_true rfl, Nat.le_of_ble_eq_true rfl⟩ ?_
        refine CG.go (t_answerOf W (by omega) (by omega)) ?_
        refine G_ri (pc := 102) f_124_102 ?_
        exact ⟨by rw [asF_d (by rw [nI_toInt hc]; omega), nI_toInt hc, if_neg (by omega), Int.toNat_natCast], rfl⟩
      · exfalso; omega
/-- the first free seat -/
theorem t_free (W : TW M h D k S b) : CG C 123 [.ref 78] M (fun w M' => w = some (.int (oI (leastF (fun s => decide (S (30 + s) = -1)) (D 1) 0))) ∧ M' = M) := by
  have W_ := W.1
  have hK := W_.1
  obtain ⟨⟨t0, t1, t2, t3, t4, t5, t6⟩, r0, r3, r4, r6, r7, r8⟩ := W_.2.1
  obtain ⟨hD, ⟨v0, v1, v2⟩, vh, vr, vw, vf⟩ := W_.2.2.1
  have hs := W_.2.2.2.1
  have hh := W_.2.2.2.2
  have hn0 : _ ≤ 8 := hD.1
  have hn1 : _ ≤ 6 := hD.2.1.2
  have hn2 : _ ≤ 8 := hD.2.2.1
  obtain ⟨rl, ⟨s0, s1, s2, s3⟩, q1, q2, q3, hO⟩ := W.2
  obtain ⟨o0, o1, o2, o3, o4, o5, o6⟩ := hO
  have loop : ∀ d i, i + d = D 1 → G C 123 (2, [some (.ref 78), some (.int (nI i))], [], [], M) (fun w M' => w = some (.int (oI (leastF (fun s => decide (S (30 + s) = -1)) d i))) ∧ M' = M) := by
    intro d
    induction d with
    | zero =>
      intro i hi
      refine G_S (pc := 2) f_123_2 rfl rfl rfl ?_
      refine G_S (pc := 3) f_123_3 rfl rfl rfl ?_
      refine G_gR (pc := 4) f_123_4 (by decide) rfl (by first | assumption | exact hK.1 _ _ rfl) (by first | assumption | exact hK.2 _ _ _ rfl | (try dsimp only) <;> (repeat (first | exact up2_s | refine up2_o (by first | decide | omega) ?_)) <;> first | assumption | exact hK.2 _ _ _ rfl) ?_
      refine G_gIv (pc := 7) f_123_7 (by decide) rfl (by decide) (by first | assumption | exact hK.1 _ _ rfl) (by first | assumption | exact mI_s | ((refine mI_o (by first | decide | omega) ?_); (repeat (refine mI_o (by first | decide | omega) ?_)); first | exact mI_s | assumption) | rfl) ?_
      refine G_jgeZ (pc := 10) f_123_10 rfl (by first | exact nI_toInt (by omega) | exact zI_toInt (by omega) (by omega) | rfl) (by first | exact nI_toInt (by omega) | exact zI_toInt (by omega) (by omega) | rfl) (fun b1 => ?_) (fun b1 => ?_)
      · refine G_ic (v := zI (-1)) (pc := 29) f_123_29 (by decide) ?_
        refine G_ri (pc := 30) f_123_30 ?_
        exact ⟨rfl, rfl⟩
      · exfalso; omega
    | succ d ih =>
      intro i hi
      have tf := t_isFree (C := C) (x := nI i) W
      rw [nI_toInt (by omega), Int.toNat_natCast] at tf
      refine G_S (pc := 2) f_123_2 rfl rfl rfl ?_
      refine G_S (pc := 3) f_123_3 rfl rfl rfl ?_
      refine G_gR (pc := 4) f_123_4 (by decide) rfl (by first | assumption | exact hK.1 _ _ rfl) (by first | assumption | exact hK.2 _ _ _ rfl | (try dsimp only) <;> (repeat (first | exact up2_s | refine up2_o (by first | decide | omega) ?_)) <;> first | assumption | exact hK.2 _ _ _ rfl) ?_
      refine G_gIv (pc := 7) f_123_7 (by decide) rfl (by decide) (by first | assumption | exact hK.1 _ _ rfl) (by first | assumption | exact mI_s | ((refine mI_o (by first | decide | omega) ?_); (repeat (refine mI_o (by first | decide | omega) ?_)); first | exact mI_s | assumption) | rfl) ?_
      refine G_jgeZ (pc := 10) f_123_10 rfl (by first | exact nI_toInt (by omega) | exact zI_toInt (by omega) (by omega) | rfl) (by first | exact nI_toInt (by omega) | exact zI_toInt (by omega) (by omega) | rfl) (fun b1 => ?_) (fun b1 => ?_)
      · exfalso; omega
      · refine G_S (pc := 13) f_123_13 rfl rfl rfl ?_
        refine G_S (pc := 14) f_123_14 rfl rfl rfl ?_
        refine G_CV (pc := 15) f_123_15 rfl rfl (by decide) rfl rfl (by first | assumption | exact hK.1 _ _ rfl) (by decide) ⟨Nat.le_of_ble_eq_true rfl, Nat.le_of_ble_eq_true rfl⟩ ?_
        refine CG.go (tf) ?_
        first | refine G_bEq (pc := 18) f_123_18 rfl (fun b2 => ?_) (fun b2 => ?_) | refine G_zeqZ (pc := 18) f_123_18 rfl (by first | exact nI_toInt (by omega) | exact zI_toInt (by omega) (by omega) | rfl) (fun b2 => ?_) (fun b2 => ?_)
        · first | refine G_inc1 (pc := 23) f_123_23 rfl ?_ | refine G_S (pc := 23) f_123_23 rfl rfl rfl ?_
          refine G_S (pc := 26) f_123_26 rfl rfl rfl ?_
          have e := ih (i + 1) (by omega)
          rw [leastF, if_neg (fun q => b2 ⟨by omega, of_decide_eq_true q⟩)]
          exact e
        · refine G_S (pc := 21) f_123_21 rfl rfl rfl ?_
          refine G_ri (pc := 22) f_123_22 ?_
          rw [leastF, if_pos (decide_eq_true b2.2)]
          exact ⟨rfl, rfl⟩
  refine CG_in (mL := 2) (hl := false) (lv := [some (.ref 78), none]) (ll := []) rfl rfl rfl ?_
  refine G_ic (v := nI 0) (pc := 0) f_123_0 (by decide) ?_
  refine G_S (pc := 1) f_123_1 rfl rfl rfl ?_
  exact loop (D 1) 0 (by omega)
/-- a number drawn -/
def sdF (s : Int32) : Int32 := s * zI 1103515245 + nI 12345
def drF (s : Int32) (n : Int) : Int := ((sdF s).toUInt32 >>> ((nI 16).toUInt32 &&& Int32.toUInt32 31)).toInt32.toInt % n
theorem ush_pos (s : Int32) : 0 ≤ (s.toUInt32 >>> ((nI 16).toUInt32 &&& Int32.toUInt32 31)).toInt32.toInt ∧ (s.toUInt32 >>> ((nI 16).toUInt32 &&& Int32.toUInt32 31)).toInt32.toInt < 65536 := by
  have h := pk_ushr s (nI 16) 16 (by decide)
  have h2 : s.toBitVec.toNat < 2 ^ 32 := s.toBitVec.isLt
  have h3 : (s.toUInt32 >>> ((nI 16).toUInt32 &&& Int32.toUInt32 31)).toInt32.toBitVec.toNat < 65536 := by
    rw [h]
    omega
  generalize (s.toUInt32 >>> ((nI 16).toUInt32 &&& Int32.toUInt32 31)).toInt32 = z at h3 ⊢
  have e : z.toInt = (z.toBitVec.toNat : Int) := by
    show z.toBitVec.toInt = _
    rw [BitVec.toInt_eq_toNat_of_lt (by omega)]
  rw [e]
  omega
theorem t_below {n : Nat} {z : Int} {s : Int32} (W : TW M h D k S b) (hs5 : M.2.1 78 5 = s) (h1 : 1 ≤ n) (hn : n < 2 ^ 31) (hz : z = (n : Int)) : CG C 122 [.ref 78, .int (nI n)] M (fun w M' => w = some (.int (zI (drF s z))) ∧ M' = (M.1, up2 M.2.1 78 5 (sdF s), M.2.2.1, M.2.2.2)) := by
  subst hz
  have W_ := W.1
  have hK := W_.1
  obtain ⟨⟨t0, t1, t2, t3, t4, t5, t6⟩, r0, r3, r4, r6, r7, r8⟩ := W_.2.1
  obtain ⟨hD, ⟨v0, v1, v2⟩, vh, vr, vw, vf⟩ := W_.2.2.1
  have hs := W_.2.2.2.1
  have hh := W_.2.2.2.2
  have hn0 : _ ≤ 8 := hD.1
  have hn1 : _ ≤ 6 := hD.2.1.2
  have hn2 : _ ≤ 8 := hD.2.2.1
  obtain ⟨rl, ⟨s0, s1, s2, s3⟩, q1, q2, q3, hO⟩ := W.2
  obtain ⟨o0, o1, o2, o3, o4, o5, o6⟩ := hO
  obtain ⟨p1, p2⟩ := ush_pos (sdF s)
  refine CG_in (mL := 2) (hl := false) (lv := [some (.ref 78), some (.int (nI n))]) (ll := []) rfl rfl rfl ?_
  refine G_S (pc := 0) f_122_0 rfl rfl rfl ?_
  refine G_S (pc := 1) f_122_1 rfl rfl rfl ?_
  refine G_gIv (pc := 2) f_122_2 (by decide) rfl (by decide) (by first | assumption | exact hK.1 _ _ rfl) (hs5) ?_
  refine G_lc1 (v := zI 1103515245) (pc := 5) f_122_5 rfl (by decide) ?_
  refine G_S (pc := 7) f_122_7 rfl rfl rfl ?_
  refine G_si (v := nI 12345) (pc := 8) f_122_8 (by decide) ?_
  refine G_S (pc := 11) f_122_11 rfl rfl rfl ?_
  refine G_pI (pc := 12) f_122_12 rfl (by first | assumption | exact hK.1 _ _ rfl) ?_
  refine G_S (pc := 15) f_122_15 rfl rfl rfl ?_
  refine G_zgtZ (pc := 16) f_122_16 rfl (by first | exact nI_toInt (by omega) | exact zI_toInt (by omega) (by omega) | rfl) (fun b1 => ?_) (fun b1 => ?_)
  · refine G_S (pc := 23) f_122_23 rfl rfl rfl ?_
    refine G_gIv (pc := 24) f_122_24 (by decide) rfl (by decide) (by first | assumption | exact hK.1 _ _ rfl) (mI_s) ?_
    refine G_bi (v := nI 16) (pc := 27) f_122_27 (by decide) ?_
    have hz : ∃ c : Nat, ((sdF s).toUInt32 >>> ((nI 16).toUInt32 &&& Int32.toUInt32 31)).toInt32 = nI c ∧ c < 65536 := by
      obtain ⟨c, hc, e⟩ := i_nat (n := 65536) p1 p2
      exact ⟨c, e, hc⟩
    obtain ⟨c, hc, hc2⟩ := hz
    refine G_S (pc := 29) f_122_29 rfl rfl rfl ?_
    show G C 122 (30, [some (.ref 78), some (.int (nI n))], [], [.int ((sdF s).toUInt32 >>> ((nI 16).toUInt32 &&& Int32.toUInt32 31)).toInt32], (M.1, up2 M.2.1 78 5 (sdF s), M.2.2.1, M.2.2.2)) _
    rw [hc]
    refine G_S (pc := 30) f_122_30 rfl rfl rfl ?_
    refine G_remN (pc := 31) f_122_31 (by omega) (by omega) (by omega) ?_
    refine G_ri (pc := 32) f_122_32 ⟨?_, rfl⟩
    unfold drF
    rw [hc, nI_toInt (by omega), nI_zI]
    rfl
  · exfalso; omega
end CTD
