/-! what is asked of a yard: the class's answers -/
theorem sw5 (x : Int32) : x = nI 0 ∨ x = nI 1 ∨ x = nI 2 ∨ x = nI 3 ∨ x = nI 4 ∨ (x.toInt < 0 ∨ 4 < x.toInt) := by
  by_cases h : 0 ≤ x.toInt ∧ x.toInt < ((5 : Nat) : Int)
  · obtain ⟨c, hc, rfl⟩ := i_nat h.1 h.2
    rcases (show c = 0 ∨ c = 1 ∨ c = 2 ∨ c = 3 ∨ c = 4 by omega) with rfl | rfl | rfl | rfl | rfl
    · exact Or.inl rfl
    · exact Or.inr (Or.inl rfl)
    · exact Or.inr (Or.inr (Or.inl rfl))
    · exact Or.inr (Or.inr (Or.inr (Or.inl rfl)))
    · exact Or.inr (Or.inr (Or.inr (Or.inr (Or.inl rfl))))
  · exact Or.inr (Or.inr (Or.inr (Or.inr (Or.inr (by omega)))))
def upF (D : Nat → Nat) (x : Int32) : Int32 := if x.toInt = 0 then oI (bestF (uB D) fewL (2 ^ D 2)) else if x.toInt = 1 then oI (bestF (uB D) (lightL D) (2 ^ D 2)) else if x.toInt = 2 then loI D (bestF (uB D) (lightL D) (2 ^ D 2)) else if x.toInt = 3 then nI (tra (uB D) (2 ^ D 2) (2 ^ D 2 - 1)) else if x.toInt = 4 then nI (andF (uB D) (2 ^ D 2 - 1) (2 ^ D 2)) else zI (-1)
def setsF (D : Nat → Nat) (x : Int32) : Int32 := if x.toInt = 0 then nI (cntF (uB D) (2 ^ D 2)) else if x.toInt = 1 then oI (bestF (wrP D) (wrL D) (D 0)) else if x.toInt = 2 then woI D (bestF (wrP D) (wrL D) (D 0)) else zI (-2)
def agF (D : Nat → Nat) (x : Int32) : Int32 := if 0 ≤ x.toInt ∧ x.toInt < (D 0 : Int) then oI (bestF (agP D (D (3 + x.toInt.toNat))) fewL (2 ^ D 2)) else zI (-1)
def halfF (D : Nat → Nat) (x : Int32) : Int32 := match bestF (haP D) (haL D) ((2 ^ D 2 - 1) / 2) with
  | none => zI (-1)
  | some c => if x.toInt = 0 then nI (difF D (2 * c + 1)) else nI (2 * c + 1)
theorem upF_o {D : Nat → Nat} {x : Int32} (h : x.toInt < 0 ∨ 4 < x.toInt) : upF D x = zI (-1) := by
  unfold upF
  rw [if_neg (by omega), if_neg (by omega), if_neg (by omega), if_neg (by omega), if_neg (by omega)]
theorem setsF_o {D : Nat → Nat} {x : Int32} (h : x.toInt < 0 ∨ 2 < x.toInt) : setsF D x = zI (-2) := by
  unfold setsF
  rw [if_neg (by omega), if_neg (by omega), if_neg (by omega)]
section CYT
variable {C : Ct} {M : Mm} {n h S : Nat} {L : Nat → Nat → Nat} {k x y f : Int32} {D : Nat → Nat}
theorem c_up (W : CLs M n L) : CG C 170 [.ref 0, .int k, .int x] M (fun w M' => w = some (.int (aLin (lin n L k) (zI (-1)) (fun D => upF D x))) ∧ Fc CS M M') := by
  have hK := W.1
  cases hl : lin n L k with
  | none =>
    refine CG_in (mL := 4) (hl := false) (lv := [some (.ref 0), some (.int k), some (.int x), none]) (ll := []) rfl rfl rfl ?_
    refine G_S (pc := 0) f_170_0 rfl rfl rfl ?_
    refine G_S (pc := 1) f_170_1 rfl rfl rfl ?_
    refine G_CV (pc := 2) f_170_2 rfl rfl (by decide) rfl rfl (by first | assumption | exact hK.1 _ _ rfl) (by decide) ⟨Nat.le_of_ble_eq_true rfl, Nat.le_of_ble_eq_true rfl⟩ ?_
    refine CG.go (c_lineAtN W hl) ?_
    refine G_S (pc := 5) f_170_5 rfl rfl rfl ?_
    refine G_S (pc := 6) f_170_6 rfl rfl rfl ?_
    refine G_S (pc := 7) f_170_7 rfl rfl rfl ?_
    refine G_ic (v := zI (-1)) (pc := 19) f_170_19 (by decide) ?_
    refine G_ri (pc := 20) f_170_20 ?_
    exact ⟨rfl, Fc.rf⟩
  | some D =>
    show CG C 170 [.ref 0, .int k, .int x] M (fun w M' => w = some (.int (upF D x)) ∧ Fc CS M M')
    refine CG_in (mL := 4) (hl := false) (lv := [some (.ref 0), some (.int k), some (.int x), none]) (ll := []) rfl rfl rfl ?_
    refine G_S (pc := 0) f_170_0 rfl rfl rfl ?_
    refine G_S (pc := 1) f_170_1 rfl rfl rfl ?_
    refine G_CV (pc := 2) f_170_2 rfl rfl (by decide) rfl rfl (by first | assumption | exact hK.1 _ _ rfl) (by decide) ⟨Nat.le_of_ble_eq_true rfl, Nat.le_of_ble_eq_true rfl⟩ ?_
    refine CG.mono (c_lineAtS W hl) ?_
    rintro _ M1 ⟨⟨h, rfl, W1⟩, rfl⟩
    have hK := W1.1
    obtain ⟨⟨t0, t1, t2, t3, t4, t5, t6⟩, r0, r3, r4, r6, r7, r8⟩ := W1.2.1
    obtain ⟨hD, ⟨v0, v1, v2⟩, vh, vr, vw, vf⟩ := W1.2.2.1
    have hs := W1.2.2.2.1
    have hh := W1.2.2.2.2
    have hn0 : _ ≤ 8 := hD.1
    have hn1 : _ ≤ 6 := hD.2.1.2
    have hn2 : _ ≤ 8 := hD.2.2.1
    refine G_S (pc := 5) f_170_5 rfl rfl rfl ?_
    refine G_S (pc := 6) f_170_6 rfl rfl rfl ?_
    refine G_S (pc := 7) f_170_7 rfl rfl (if_pos (by first | assumption | omega)) ?_
    refine G_S (pc := 10) f_170_10 rfl rfl rfl ?_
    refine G_zltZ (pc := 11) f_170_11 rfl (by first | exact nI_toInt (by omega) | exact zI_toInt (by omega) (by omega) | rfl) (fun b2 => ?_) (fun b2 => ?_)
    · refine G_ic (v := zI (-1)) (pc := 19) f_170_19 (by decide) ?_
      refine G_ri (pc := 20) f_170_20 ?_
      first
        | exact ⟨rfl, hF.sub (by decide)⟩
        | exact ⟨rfl, (hF.sub (by decide)).tr (hF2.sub (by decide))⟩
        | exact ⟨by rw [upF_o (by omega)], Fc.rf⟩
        | (exfalso; omega)
    · refine G_S (pc := 14) f_170_14 rfl rfl rfl ?_
      refine G_ic (v := nI 4) (pc := 15) f_170_15 (by decide) ?_
      refine G_jleZ (pc := 16) f_170_16 rfl (by first | exact nI_toInt (by omega) | exact zI_toInt (by omega) (by omega) | rfl) (by first | exact nI_toInt (by omega) | exact zI_toInt (by omega) (by omega) | rfl) (fun b3 => ?_) (fun b3 => ?_)
      · refine G_S (pc := 21) f_170_21 rfl rfl rfl ?_
        refine G_gR (pc := 22) f_170_22 (by decide) rfl (by first | assumption | exact hK.1 _ _ rfl) (by first | assumption | exact hK.2 _ _ _ rfl | (try dsimp only) <;> (repeat (first | exact up2_s | refine up2_o (by first | decide | omega) ?_)) <;> first | assumption | exact hK.2 _ _ _ rfl) ?_
        refine G_S (pc := 25) f_170_25 rfl rfl rfl ?_
        refine G_CV (pc := 26) f_170_26 rfl rfl (by decide) rfl rfl (by first | assumption | exact hK.1 _ _ rfl) (by decide) ⟨Nat.le_of_ble_eq_true rfl, Nat.le_of_ble_eq_true rfl⟩ ?_
        refine CG.mono (y_begin W1) ?_
        rintro _ M2 ⟨rfl, hF, Y⟩
        have hK := Y.1.1
        refine G_S (pc := 29) f_170_29 rfl rfl rfl ?_
        rcases sw5 x with rfl | rfl | rfl | rfl | rfl | hw
        · refine G_S (pc := 30) f_170_30 rfl rfl rfl ?_
          refine G_S (pc := 60) f_170_60 rfl rfl rfl ?_
          refine G_gR (pc := 61) f_170_61 (by decide) rfl (by first | assumption | exact hK.1 _ _ rfl) (by first | assumption | exact hK.2 _ _ _ rfl | (try dsimp only) <;> (repeat (first | exact up2_s | refine up2_o (by first | decide | omega) ?_)) <;> first | assumption | exact hK.2 _ _ _ rfl) ?_
          refine G_CV (pc := 64) f_170_64 rfl rfl (by decide) rfl rfl (by first | assumption | exact hK.1 _ _ rfl) (by decide) ⟨Nat.le_of_ble_eq_true rfl, Nat.le_of_ble_eq_true rfl⟩ ?_
          refine CG.go (y_fewest Y) ?_
          refine G_ri (pc := 67) f_170_67 ?_
          first
            | exact ⟨rfl, hF.sub (by decide)⟩
            | exact ⟨rfl, (hF.sub (by decide)).tr (hF2.sub (by decide))⟩
            | exact ⟨by rw [upF_o (by omega)], Fc.rf⟩
            | (exfalso; omega)
        · refine G_S (pc := 30) f_170_30 rfl rfl rfl ?_
          refine G_S (pc := 68) f_170_68 rfl rfl rfl ?_
          refine G_gR (pc := 69) f_170_69 (by decide) rfl (by first | assumption | exact hK.1 _ _ rfl) (by first | assumption | exact hK.2 _ _ _ rfl | (try dsimp only) <;> (repeat (first | exact up2_s | refine up2_o (by first | decide | omega) ?_)) <;> first | assumption | exact hK.2 _ _ _ rfl) ?_
          refine G_CV (pc := 72) f_170_72 rfl rfl (by decide) rfl rfl (by first | assumption | exact hK.1 _ _ rfl) (by decide) ⟨Nat.le_of_ble_eq_true rfl, Nat.le_of_ble_eq_true rfl⟩ ?_
          refine CG.go (y_lightest Y) ?_
          refine G_ri (pc := 75) f_170_75 ?_
          first
            | exact ⟨rfl, hF.sub (by decide)⟩
            | exact ⟨rfl, (hF.sub (by decide)).tr (hF2.sub (by decide))⟩
            | exact ⟨by rw [upF_o (by omega)], Fc.rf⟩
            | (exfalso; omega)
        · refine G_S (pc := 30) f_170_30 rfl rfl rfl ?_
          refine G_S (pc := 76) f_170_76 rfl rfl rfl ?_
          refine G_gR (pc := 77) f_170_77 (by decide) rfl (by first | assumption | exact hK.1 _ _ rfl) (by first | assumption | exact hK.2 _ _ _ rfl | (try dsimp only) <;> (repeat (first | exact up2_s | refine up2_o (by first | decide | omega) ?_)) <;> first | assumption | exact hK.2 _ _ _ rfl) ?_
          refine G_CV (pc := 80) f_170_80 rfl rfl (by decide) rfl rfl (by first | assumption | exact hK.1 _ _ rfl) (by decide) ⟨Nat.le_of_ble_eq_true rfl, Nat.le_of_ble_eq_true rfl⟩ ?_
          refine CG.go (y_lightOz Y) ?_
          refine G_ri (pc := 83) f_170_83 ?_
          first
            | exact ⟨rfl, hF.sub (by decide)⟩
            | exact ⟨rfl, (hF.sub (by decide)).tr (hF2.sub (by decide))⟩
            | exact ⟨by rw [upF_o (by omega)], Fc.rf⟩
            | (exfalso; omega)
        · refine G_S (pc := 30) f_170_30 rfl rfl rfl ?_
          refine G_S (pc := 84) f_170_84 rfl rfl rfl ?_
          refine G_gR (pc := 85) f_170_85 (by decide) rfl (by first | assumption | exact hK.1 _ _ rfl) (by first | assumption | exact hK.2 _ _ _ rfl | (try dsimp only) <;> (repeat (first | exact up2_s | refine up2_o (by first | decide | omega) ?_)) <;> first | assumption | exact hK.2 _ _ _ rfl) ?_
          refine G_CV (pc := 88) f_170_88 rfl rfl (by decide) rfl rfl (by first | assumption | exact hK.1 _ _ rfl) (by decide) ⟨Nat.le_of_ble_eq_true rfl, Nat.le_of_ble_eq_true rfl⟩ ?_
          refine CG.mono (y_trams Y) ?_
          rintro _ M3 ⟨rfl, hF2⟩
          refine G_ri (pc := 91) f_170_91 ?_
          first
            | exact ⟨rfl, hF.sub (by decide)⟩
            | exact ⟨rfl, (hF.sub (by decide)).tr (hF2.sub (by decide))⟩
            | exact ⟨by rw [upF_o (by omega)], Fc.rf⟩
            | (exfalso; omega)
        · refine G_S (pc := 30) f_170_30 rfl rfl rfl ?_
          refine G_S (pc := 92) f_170_92 rfl rfl rfl ?_
          refine G_gR (pc := 93) f_170_93 (by decide) rfl (by first | assumption | exact hK.1 _ _ rfl) (by first | assumption | exact hK.2 _ _ _ rfl | (try dsimp only) <;> (repeat (first | exact up2_s | refine up2_o (by first | decide | omega) ?_)) <;> first | assumption | exact hK.2 _ _ _ rfl) ?_
          refine G_CV (pc := 96) f_170_96 rfl rfl (by decide) rfl rfl (by first | assumption | exact hK.1 _ _ rfl) (by decide) ⟨Nat.le_of_ble_eq_true rfl, Nat.le_of_ble_eq_true rfl⟩ ?_
          refine CG.go (y_needed Y) ?_
          refine G_ri (pc := 99) f_170_99 ?_
          first
            | exact ⟨rfl, hF.sub (by decide)⟩
            | exact ⟨rfl, (hF.sub (by decide)).tr (hF2.sub (by decide))⟩
            | exact ⟨by rw [upF_o (by omega)], Fc.rf⟩
            | (exfalso; omega)
        · refine G_tsO (pc := 30) f_170_30 rfl ((by omega)) ?_
          refine G_S (pc := 92) f_170_92 rfl rfl rfl ?_
          refine G_gR (pc := 93) f_170_93 (by decide) rfl (by first | assumption | exact hK.1 _ _ rfl) (by first | assumption | exact hK.2 _ _ _ rfl | (try dsimp only) <;> (repeat (first | exact up2_s | refine up2_o (by first | decide | omega) ?_)) <;> first | assumption | exact hK.2 _ _ _ rfl) ?_
          refine G_CV (pc := 96) f_170_96 rfl rfl (by decide) rfl rfl (by first | assumption | exact hK.1 _ _ rfl) (by decide) ⟨Nat.le_of_ble_eq_true rfl, Nat.le_of_ble_eq_true rfl⟩ ?_
          refine CG.go (y_needed Y) ?_
          refine G_ri (pc := 99) f_170_99 ?_
          first
            | exact ⟨rfl, hF.sub (by decide)⟩
            | exact ⟨rfl, (hF.sub (by decide)).tr (hF2.sub (by decide))⟩
            | exact ⟨by rw [upF_o (by omega)], Fc.rf⟩
            | (exfalso; omega)
      · refine G_ic (v := zI (-1)) (pc := 19) f_170_19 (by decide) ?_
        refine G_ri (pc := 20) f_170_20 ?_
        first
          | exact ⟨rfl, hF.sub (by decide)⟩
          | exact ⟨rfl, (hF.sub (by decide)).tr (hF2.sub (by decide))⟩
          | exact ⟨by rw [upF_o (by omega)], Fc.rf⟩
          | (exfalso; omega)
theorem c_sets (W : CLs M n L) : CG C 172 [.ref 0, .int k, .int x] M (fun w M' => w = some (.int (aLin (lin n L k) (zI (-2)) (fun D => setsF D x))) ∧ Fc CS M M') := by
  have hK := W.1
  cases hl : lin n L k with
  | none =>
    refine CG_in (mL := 4) (hl := false) (lv := [some (.ref 0), some (.int k), some (.int x), none]) (ll := []) rfl rfl rfl ?_
    refine G_S (pc := 0) f_172_0 rfl rfl rfl ?_
    refine G_S (pc := 1) f_172_1 rfl rfl rfl ?_
    refine G_CV (pc := 2) f_172_2 rfl rfl (by decide) rfl rfl (by first | assumption | exact hK.1 _ _ rfl) (by decide) ⟨Nat.le_of_ble_eq_true rfl, Nat.le_of_ble_eq_true rfl⟩ ?_
    refine CG.go (c_lineAtN W hl) ?_
    refine G_S (pc := 5) f_172_5 rfl rfl rfl ?_
    refine G_S (pc := 6) f_172_6 rfl rfl rfl ?_
    refine G_S (pc := 7) f_172_7 rfl rfl rfl ?_
    refine G_bi (v := zI (-2)) (pc := 19) f_172_19 (by decide) ?_
    refine G_ri (pc := 21) f_172_21 ?_
    exact ⟨rfl, Fc.rf⟩
  | some D =>
    show CG C 172 [.ref 0, .int k, .int x] M (fun w M' => w = some (.int (setsF D x)) ∧ Fc CS M M')
    by_cases hx : 0 ≤ x.toInt ∧ x.toInt < ((3 : Nat) : Int)
    · obtain ⟨c, hc, rfl⟩ := i_nat hx.1 hx.2
      refine CG_in (mL := 4) (hl := false) (lv := [some (.ref 0), some (.int k), some (.int (nI c)), none]) (ll := []) rfl rfl rfl ?_
      refine G_S (pc := 0) f_172_0 rfl rfl rfl ?_
      refine G_S (pc := 1) f_172_1 rfl rfl rfl ?_
      refine G_CV (pc := 2) f_172_2 rfl rfl (by decide) rfl rfl (by first | assumption | exact hK.1 _ _ rfl) (by decide) ⟨Nat.le_of_ble_eq_true rfl, Nat.le_of_ble_eq_true rfl⟩ ?_
      refine CG.mono (c_lineAtS W hl) ?_
      rintro _ M1 ⟨⟨h, rfl, W1⟩, rfl⟩
      have hK := W1.1
      obtain ⟨⟨t0, t1, t2, t3, t4, t5, t6⟩, r0, r3, r4, r6, r7, r8⟩ := W1.2.1
      obtain ⟨hD, ⟨v0, v1, v2⟩, vh, vr, vw, vf⟩ := W1.2.2.1
      have hs := W1.2.2.2.1
      have hh := W1.2.2.2.2
      have hn0 : _ ≤ 8 := hD.1
      have hn1 : _ ≤ 6 := hD.2.1.2
      have hn2 : _ ≤ 8 := hD.2.2.1
      refine G_S (pc := 5) f_172_5 rfl rfl rfl ?_
      refine G_S (pc := 6) f_172_6 rfl rfl rfl ?_
      refine G_S (pc := 7) f_172_7 rfl rfl (if_pos (by first | assumption | omega)) ?_
      refine G_S (pc := 10) f_172_10 rfl rfl rfl ?_
      refine G_zltZ (pc := 11) f_172_11 rfl (by first | exact nI_toInt (by omega) | exact zI_toInt (by omega) (by omega) | rfl) (fun b2 => ?_) (fun b2 => ?_)
      · exfalso; omega
      · refine G_S (pc := 14) f_172_14 rfl rfl rfl ?_
        refine G_ic (v := nI 2) (pc := 15) f_172_15 (by decide) ?_
        refine G_jleZ (pc := 16) f_172_16 rfl (by first | exact nI_toInt (by omega) | exact zI_toInt (by omega) (by omega) | rfl) (by first | exact nI_toInt (by omega) | exact zI_toInt (by omega) (by omega) | rfl) (fun b3 => ?_) (fun b3 => ?_)
        · refine G_S (pc := 22) f_172_22 rfl rfl rfl ?_
          refine G_gR (pc := 23) f_172_23 (by decide) rfl (by first | assumption | exact hK.1 _ _ rfl) (by first | assumption | exact hK.2 _ _ _ rfl | (try dsimp only) <;> (repeat (first | exact up2_s | refine up2_o (by first | decide | omega) ?_)) <;> first | assumption | exact hK.2 _ _ _ rfl) ?_
          refine G_S (pc := 26) f_172_26 rfl rfl rfl ?_
          refine G_CV (pc := 27) f_172_27 rfl rfl (by decide) rfl rfl (by first | assumption | exact hK.1 _ _ rfl) (by decide) ⟨Nat.le_of_ble_eq_true rfl, Nat.le_of_ble_eq_true rfl⟩ ?_
          refine CG.mono (y_begin W1) ?_
          rintro _ M2 ⟨rfl, hF, Y⟩
          have hK := Y.1.1
          refine G_S (pc := 30) f_172_30 rfl rfl rfl ?_
          rcases (show c = 0 ∨ c = 1 ∨ c = 2 by omega) with rfl | rfl | rfl
          · refine G_S (pc := 31) f_172_31 rfl rfl rfl ?_
            refine G_S (pc := 56) f_172_56 rfl rfl rfl ?_
            refine G_gR (pc := 57) f_172_57 (by decide) rfl (by first | assumption | exact hK.1 _ _ rfl) (by first | assumption | exact hK.2 _ _ _ rfl | (try dsimp only) <;> (repeat (first | exact up2_s | refine up2_o (by first | decide | omega) ?_)) <;> first | assumption | exact hK.2 _ _ _ rfl) ?_
            refine G_CV (pc := 60) f_172_60 rfl rfl (by decide) rfl rfl (by first | assumption | exact hK.1 _ _ rfl) (by decide) ⟨Nat.le_of_ble_eq_true rfl, Nat.le_of_ble_eq_true rfl⟩ ?_
            refine CG.go (y_many Y) ?_
            refine G_ri (pc := 63) f_172_63 ?_
            first
              | exact ⟨rfl, hF.sub (by decide)⟩
              | exact ⟨rfl, (hF.sub (by decide)).tr (hF2.sub (by decide))⟩
          · refine G_S (pc := 31) f_172_31 rfl rfl rfl ?_
            refine G_S (pc := 64) f_172_64 rfl rfl rfl ?_
            refine G_gR (pc := 65) f_172_65 (by decide) rfl (by first | assumption | exact hK.1 _ _ rfl) (by first | assumption | exact hK.2 _ _ _ rfl | (try dsimp only) <;> (repeat (first | exact up2_s | refine up2_o (by first | decide | omega) ?_)) <;> first | assumption | exact hK.2 _ _ _ rfl) ?_
            refine G_CV (pc := 68) f_172_68 rfl rfl (by decide) rfl rfl (by first | assumption | exact hK.1 _ _ rfl) (by decide) ⟨Nat.le_of_ble_eq_true rfl, Nat.le_of_ble_eq_true rfl⟩ ?_
            refine CG.mono (y_worst Y) ?_
            rintro _ M3 ⟨rfl, hF2, _, _⟩
            refine G_ri (pc := 71) f_172_71 ?_
            first
              | exact ⟨rfl, hF.sub (by decide)⟩
              | exact ⟨rfl, (hF.sub (by decide)).tr (hF2.sub (by decide))⟩
          · refine G_S (pc := 31) f_172_31 rfl rfl rfl ?_
            refine G_S (pc := 72) f_172_72 rfl rfl rfl ?_
            refine G_gR (pc := 73) f_172_73 (by decide) rfl (by first | assumption | exact hK.1 _ _ rfl) (by first | assumption | exact hK.2 _ _ _ rfl | (try dsimp only) <;> (repeat (first | exact up2_s | refine up2_o (by first | decide | omega) ?_)) <;> first | assumption | exact hK.2 _ _ _ rfl) ?_
            refine G_CV (pc := 76) f_172_76 rfl rfl (by decide) rfl rfl (by first | assumption | exact hK.1 _ _ rfl) (by decide) ⟨Nat.le_of_ble_eq_true rfl, Nat.le_of_ble_eq_true rfl⟩ ?_
            refine CG.mono (y_atWorst Y) ?_
            rintro _ M3 ⟨rfl, hF2⟩
            refine G_ri (pc := 79) f_172_79 ?_
            first
              | exact ⟨rfl, hF.sub (by decide)⟩
              | exact ⟨rfl, (hF.sub (by decide)).tr (hF2.sub (by decide))⟩
        · exfalso; omega
    · refine CG_in (mL := 4) (hl := false) (lv := [some (.ref 0), some (.int k), some (.int x), none]) (ll := []) rfl rfl rfl ?_
      refine G_S (pc := 0) f_172_0 rfl rfl rfl ?_
      refine G_S (pc := 1) f_172_1 rfl rfl rfl ?_
      refine G_CV (pc := 2) f_172_2 rfl rfl (by decide) rfl rfl (by first | assumption | exact hK.1 _ _ rfl) (by decide) ⟨Nat.le_of_ble_eq_true rfl, Nat.le_of_ble_eq_true rfl⟩ ?_
      refine CG.mono (c_lineAtS W hl) ?_
      rintro _ M1 ⟨⟨h, rfl, W1⟩, rfl⟩
      have hK := W1.1
      obtain ⟨⟨t0, t1, t2, t3, t4, t5, t6⟩, r0, r3, r4, r6, r7, r8⟩ := W1.2.1
      obtain ⟨hD, ⟨v0, v1, v2⟩, vh, vr, vw, vf⟩ := W1.2.2.1
      have hs := W1.2.2.2.1
      have hh := W1.2.2.2.2
      have hn0 : _ ≤ 8 := hD.1
      have hn1 : _ ≤ 6 := hD.2.1.2
      have hn2 : _ ≤ 8 := hD.2.2.1
      refine G_S (pc := 5) f_172_5 rfl rfl rfl ?_
      refine G_S (pc := 6) f_172_6 rfl rfl rfl ?_
      refine G_S (pc := 7) f_172_7 rfl rfl (if_pos (by first | assumption | omega)) ?_
      refine G_S (pc := 10) f_172_10 rfl rfl rfl ?_
      refine G_zltZ (pc := 11) f_172_11 rfl (by first | exact nI_toInt (by omega) | exact zI_toInt (by omega) (by omega) | rfl) (fun b2 => ?_) (fun b2 => ?_)
      · refine G_bi (v := zI (-2)) (pc := 19) f_172_19 (by decide) ?_
        refine G_ri (pc := 21) f_172_21 ?_
        exact ⟨by rw [setsF_o (by omega)], Fc.rf⟩
      · refine G_S (pc := 14) f_172_14 rfl rfl rfl ?_
        refine G_ic (v := nI 2) (pc := 15) f_172_15 (by decide) ?_
        refine G_jleZ (pc := 16) f_172_16 rfl (by first | exact nI_toInt (by omega) | exact zI_toInt (by omega) (by omega) | rfl) (by first | exact nI_toInt (by omega) | exact zI_toInt (by omega) (by omega) | rfl) (fun b3 => ?_) (fun b3 => ?_)
        · exfalso; omega
        · refine G_bi (v := zI (-2)) (pc := 19) f_172_19 (by decide) ?_
          refine G_ri (pc := 21) f_172_21 ?_
          exact ⟨by rw [setsF_o (by omega)], Fc.rf⟩
theorem c_against (W : CLs M n L) : CG C 171 [.ref 0, .int k, .int x] M (fun w M' => w = some (.int (aLin (lin n L k) (zI (-1)) (fun D => agF D x))) ∧ Fc CS M M') := by
  have hK := W.1
  cases hl : lin n L k with
  | none =>
    refine CG_in (mL := 4) (hl := false) (lv := [some (.ref 0), some (.int k), some (.int x), none]) (ll := []) rfl rfl rfl ?_
    refine G_S (pc := 0) f_171_0 rfl rfl rfl ?_
    refine G_S (pc := 1) f_171_1 rfl rfl rfl ?_
    refine G_CV (pc := 2) f_171_2 rfl rfl (by decide) rfl rfl (by first | assumption | exact hK.1 _ _ rfl) (by decide) ⟨Nat.le_of_ble_eq_true rfl, Nat.le_of_ble_eq_true rfl⟩ ?_
    refine CG.go (c_lineAtN W hl) ?_
    refine G_S (pc := 5) f_171_5 rfl rfl rfl ?_
    refine G_S (pc := 6) f_171_6 rfl rfl rfl ?_
    refine G_S (pc := 7) f_171_7 rfl rfl rfl ?_
    refine G_ic (v := zI (-1)) (pc := 22) f_171_22 (by decide) ?_
    refine G_ri (pc := 23) f_171_23 ?_
    exact ⟨rfl, Fc.rf⟩
  | some D =>
    show CG C 171 [.ref 0, .int k, .int x] M (fun w M' => w = some (.int (agF D x)) ∧ Fc CS M M')
    refine CG_in (mL := 4) (hl := false) (lv := [some (.ref 0), some (.int k), some (.int x), none]) (ll := []) rfl rfl rfl ?_
    refine G_S (pc := 0) f_171_0 rfl rfl rfl ?_
    refine G_S (pc := 1) f_171_1 rfl rfl rfl ?_
    refine G_CV (pc := 2) f_171_2 rfl rfl (by decide) rfl rfl (by first | assumption | exact hK.1 _ _ rfl) (by decide) ⟨Nat.le_of_ble_eq_true rfl, Nat.le_of_ble_eq_true rfl⟩ ?_
    refine CG.mono (c_lineAtS W hl) ?_
    rintro _ M1 ⟨⟨h, rfl, W1⟩, rfl⟩
    have hK := W1.1
    obtain ⟨⟨t0, t1, t2, t3, t4, t5, t6⟩, r0, r3, r4, r6, r7, r8⟩ := W1.2.1
    obtain ⟨hD, ⟨v0, v1, v2⟩, vh, vr, vw, vf⟩ := W1.2.2.1
    have hs := W1.2.2.2.1
    have hh := W1.2.2.2.2
    have hn0 : _ ≤ 8 := hD.1
    have hn1 : _ ≤ 6 := hD.2.1.2
    have hn2 : _ ≤ 8 := hD.2.2.1
    refine G_S (pc := 5) f_171_5 rfl rfl rfl ?_
    refine G_S (pc := 6) f_171_6 rfl rfl rfl ?_
    refine G_S (pc := 7) f_171_7 rfl rfl (if_pos (by first | assumption | omega)) ?_
    refine G_S (pc := 10) f_171_10 rfl rfl rfl ?_
    refine G_zltZ (pc := 11) f_171_11 rfl (by first | exact nI_toInt (by omega) | exact zI_toInt (by omega) (by omega) | rfl) (fun b2 => ?_) (fun b2 => ?_)
    · refine G_ic (v := zI (-1)) (pc := 22) f_171_22 (by decide) ?_
      refine G_ri (pc := 23) f_171_23 ?_
      unfold agF
      first
        | exact ⟨by rw [if_neg (by omega)], Fc.rf⟩
        | (refine ⟨?_, hF.sub (by decide)⟩
           rw [nI_toInt (by omega), Int.toNat_natCast, if_pos (by omega)])
    · refine G_S (pc := 14) f_171_14 rfl rfl rfl ?_
      refine G_S (pc := 15) f_171_15 rfl rfl rfl ?_
      refine G_gIv (pc := 16) f_171_16 (by decide) rfl (by decide) (by first | assumption | exact hK.1 _ _ rfl) (by first | assumption | (try dsimp only) <;> (repeat (first | exact up2_s | refine up2_o (by first | decide | omega) ?_)) <;> first | assumption | rfl) ?_
      refine G_jltZ (pc := 19) f_171_19 rfl (by first | exact nI_toInt (by omega) | exact zI_toInt (by omega) (by omega) | rfl) (by first | exact nI_toInt (by omega) | exact zI_toInt (by omega) (by omega) | rfl) (fun b3 => ?_) (fun b3 => ?_)
      · obtain ⟨c, hc, rfl⟩ := i_nat b2 b3
        have h99 := hD.2.2.2.1 c (by omega)
        refine G_S (pc := 24) f_171_24 rfl rfl rfl ?_
        refine G_gR (pc := 25) f_171_25 (by decide) rfl (by first | assumption | exact hK.1 _ _ rfl) (by first | assumption | exact hK.2 _ _ _ rfl | (try dsimp only) <;> (repeat (first | exact up2_s | refine up2_o (by first | decide | omega) ?_)) <;> first | assumption | exact hK.2 _ _ _ rfl) ?_
        refine G_S (pc := 28) f_171_28 rfl rfl rfl ?_
        refine G_S (pc := 29) f_171_29 rfl rfl rfl ?_
        refine G_gR (pc := 30) f_171_30 (by decide) rfl (by first | assumption | exact hK.1 _ _ rfl) (by first | assumption | exact hK.2 _ _ _ rfl | (try dsimp only) <;> (repeat (first | exact up2_s | refine up2_o (by first | decide | omega) ?_)) <;> first | assumption | exact hK.2 _ _ _ rfl) ?_
        refine G_S (pc := 33) f_171_33 rfl rfl rfl ?_
        refine G_iaN (pc := 34) f_171_34 (by first | assumption | exact hK.1 _ _ rfl) (by omega) (by omega) (by first | assumption | exact q1 _ (by omega) | exact q2 _ (by omega) | exact q3 _ (by omega) | exact q4 _ (by omega) | exact q5 _ (by omega) | exact vh _ (by omega) | exact (vr _ (by omega)).1 | exact (vr _ (by omega)).2 | exact vw _ (by omega) | exact vf _ (by omega) (by omega) | rfl) ?_
        refine G_CV (pc := 35) f_171_35 rfl rfl (by decide) rfl rfl (by first | assumption | exact hK.1 _ _ rfl) (by decide) ⟨Nat.le_of_ble_eq_true rfl, Nat.le_of_ble_eq_true rfl⟩ ?_
        refine CG.mono (y_against W1 (by omega)) ?_
        rintro _ M2 ⟨rfl, hF⟩
        refine G_ri (pc := 38) f_171_38 ?_
        unfold agF
        first
          | exact ⟨by rw [if_neg (by omega)], Fc.rf⟩
          | (refine ⟨?_, hF.sub (by decide)⟩
             rw [nI_toInt (by omega), Int.toNat_natCast, if_pos (by omega)])
      · refine G_ic (v := zI (-1)) (pc := 22) f_171_22 (by decide) ?_
        refine G_ri (pc := 23) f_171_23 ?_
        unfold agF
        first
          | exact ⟨by rw [if_neg (by omega)], Fc.rf⟩
          | (refine ⟨?_, hF.sub (by decide)⟩
             rw [nI_toInt (by omega), Int.toNat_natCast, if_pos (by omega)])
theorem c_halves (W : CLs M n L) : CG C 173 [.ref 0, .int k, .int x] M (fun w M' => w = some (.int (aLin (lin n L k) (zI (-1)) (fun D => halfF D x))) ∧ Fc CS M M') := by
  have hK := W.1
  cases hl : lin n L k with
  | none =>
    refine CG_in (mL := 5) (hl := false) (lv := [some (.ref 0), some (.int k), some (.int x), none, none]) (ll := []) rfl rfl rfl ?_
    refine G_S (pc := 0) f_173_0 rfl rfl rfl ?_
    refine G_S (pc := 1) f_173_1 rfl rfl rfl ?_
    refine G_CV (pc := 2) f_173_2 rfl rfl (by decide) rfl rfl (by first | assumption | exact hK.1 _ _ rfl) (by decide) ⟨Nat.le_of_ble_eq_true rfl, Nat.le_of_ble_eq_true rfl⟩ ?_
    refine CG.go (c_lineAtN W hl) ?_
    refine G_S (pc := 5) f_173_5 rfl rfl rfl ?_
    refine G_S (pc := 6) f_173_6 rfl rfl rfl ?_
    refine G_S (pc := 7) f_173_7 rfl rfl rfl ?_
    refine G_ic (v := zI (-1)) (pc := 10) f_173_10 (by decide) ?_
    refine G_ri (pc := 11) f_173_11 ?_
    exact ⟨rfl, Fc.rf⟩
  | some D =>
    show CG C 173 [.ref 0, .int k, .int x] M (fun w M' => w = some (.int (halfF D x)) ∧ Fc CS M M')
    have q3 : ∀ c, bestF (haP D) (haL D) ((2 ^ D 2 - 1) / 2) = some c → c < (2 ^ D 2 - 1) / 2 ∧ haP D c = true := fun c hc => bestF_lt hc
    refine CG_in (mL := 5) (hl := false) (lv := [some (.ref 0), some (.int k), some (.int x), none, none]) (ll := []) rfl rfl rfl ?_
    refine G_S (pc := 0) f_173_0 rfl rfl rfl ?_
    refine G_S (pc := 1) f_173_1 rfl rfl rfl ?_
    refine G_CV (pc := 2) f_173_2 rfl rfl (by decide) rfl rfl (by first | assumption | exact hK.1 _ _ rfl) (by decide) ⟨Nat.le_of_ble_eq_true rfl, Nat.le_of_ble_eq_true rfl⟩ ?_
    refine CG.mono (c_lineAtS W hl) ?_
    rintro _ M1 ⟨⟨h, rfl, W1⟩, rfl⟩
    have hK := W1.1
    obtain ⟨⟨t0, t1, t2, t3, t4, t5, t6⟩, r0, r3, r4, r6, r7, r8⟩ := W1.2.1
    obtain ⟨hD, ⟨v0, v1, v2⟩, vh, vr, vw, vf⟩ := W1.2.2.1
    have hs := W1.2.2.2.1
    have hh := W1.2.2.2.2
    have hn0 : _ ≤ 8 := hD.1
    have hn1 : _ ≤ 6 := hD.2.1.2
    have hn2 : _ ≤ 8 := hD.2.2.1
    have hp := pw_le _ (Nat.lt_succ_of_le hn2)
    refine G_S (pc := 5) f_173_5 rfl rfl rfl ?_
    refine G_S (pc := 6) f_173_6 rfl rfl rfl ?_
    refine G_S (pc := 7) f_173_7 rfl rfl (if_pos (by first | assumption | omega)) ?_
    refine G_S (pc := 12) f_173_12 rfl rfl rfl ?_
    refine G_gR (pc := 13) f_173_13 (by decide) rfl (by first | assumption | exact hK.1 _ _ rfl) (by first | assumption | exact hK.2 _ _ _ rfl | (try dsimp only) <;> (repeat (first | exact up2_s | refine up2_o (by first | decide | omega) ?_)) <;> first | assumption | exact hK.2 _ _ _ rfl) ?_
    refine G_S (pc := 16) f_173_16 rfl rfl rfl ?_
    refine G_CV (pc := 17) f_173_17 rfl rfl (by decide) rfl rfl (by first | assumption | exact hK.1 _ _ rfl) (by decide) ⟨Nat.le_of_ble_eq_true rfl, Nat.le_of_ble_eq_true rfl⟩ ?_
    refine CG.mono (y_begin W1) ?_
    rintro _ M2 ⟨rfl, hF, Y⟩
    have hK := Y.1.1
    refine G_S (pc := 20) f_173_20 rfl rfl rfl ?_
    refine G_gR (pc := 21) f_173_21 (by decide) rfl (by first | assumption | exact hK.1 _ _ rfl) (by first | assumption | exact hK.2 _ _ _ rfl | (try dsimp only) <;> (repeat (first | exact up2_s | refine up2_o (by first | decide | omega) ?_)) <;> first | assumption | exact hK.2 _ _ _ rfl) ?_
    refine G_CV (pc := 24) f_173_24 rfl rfl (by decide) rfl rfl (by first | assumption | exact hK.1 _ _ rfl) (by decide) ⟨Nat.le_of_ble_eq_true rfl, Nat.le_of_ble_eq_true rfl⟩ ?_
    refine CG.go (y_half Y) ?_
    refine G_S (pc := 27) f_173_27 rfl rfl rfl ?_
    refine G_S (pc := 29) f_173_29 rfl rfl rfl ?_
    first | refine G_bNe (pc := 30) f_173_30 rfl (fun b2 => ?_) (fun b2 => ?_) | refine G_zneZ (pc := 30) f_173_30 rfl (by first | exact nI_toInt (by omega) | exact zI_toInt (by omega) (by omega) | rfl) (fun b2 => ?_) (fun b2 => ?_)
    · refine G_S (pc := 39) f_173_39 rfl rfl rfl ?_
      refine G_S (pc := 41) f_173_41 rfl rfl rfl ?_
      refine G_ri (pc := 53) f_173_53 ?_
      refine ⟨?_, hF.sub (by decide)⟩
      congr 2
      unfold halfF
      first
        | (rw [hc]; exact (if_pos b2).symm)
        | (cases hq : bestF (haP D) (haL D) ((2 ^ D 2 - 1) / 2) with
           | none => rfl
           | some c => exact (if_neg b2).symm)
        | (rw [hI_m1 (fun c hc => by have := (q3 c hc).1; omega) b3]; rfl)
    · refine G_S (pc := 33) f_173_33 rfl rfl rfl ?_
      refine G_ic (v := zI (-1)) (pc := 35) f_173_35 (by decide) ?_
      refine G_jneZ (pc := 36) f_173_36 rfl (by first | exact nI_toInt (by omega) | exact zI_toInt (by omega) (by omega) | rfl) (by first | exact nI_toInt (by omega) | exact zI_toInt (by omega) (by omega) | rfl) (fun b3 => ?_) (fun b3 => ?_)
      · obtain ⟨c, hc⟩ := hI_nn b3
        have hc2 := (q3 c hc).1
        rw [hc, show hI (some c) = nI (2 * c + 1) from rfl]
        refine G_S (pc := 44) f_173_44 rfl rfl rfl ?_
        refine G_gR (pc := 45) f_173_45 (by decide) rfl (by first | assumption | exact hK.1 _ _ rfl) (by first | assumption | exact hK.2 _ _ _ rfl | (try dsimp only) <;> (repeat (first | exact up2_s | refine up2_o (by first | decide | omega) ?_)) <;> first | assumption | exact hK.2 _ _ _ rfl) ?_
        refine G_S (pc := 48) f_173_48 rfl rfl rfl ?_
        refine G_CV (pc := 50) f_173_50 rfl rfl (by decide) rfl rfl (by first | assumption | exact hK.1 _ _ rfl) (by decide) ⟨Nat.le_of_ble_eq_true rfl, Nat.le_of_ble_eq_true rfl⟩ ?_
        refine CG.go (y_diff Y (by omega)) ?_
        refine G_ri (pc := 53) f_173_53 ?_
        refine ⟨?_, hF.sub (by decide)⟩
        congr 2
        unfold halfF
        first
          | (rw [hc]; exact (if_pos b2).symm)
          | (cases hq : bestF (haP D) (haL D) ((2 ^ D 2 - 1) / 2) with
             | none => rfl
             | some c => exact (if_neg b2).symm)
          | (rw [hI_m1 (fun c hc => by have := (q3 c hc).1; omega) b3]; rfl)
      · refine G_S (pc := 39) f_173_39 rfl rfl rfl ?_
        refine G_S (pc := 41) f_173_41 rfl rfl rfl ?_
        refine G_ri (pc := 53) f_173_53 ?_
        refine ⟨?_, hF.sub (by decide)⟩
        congr 2
        unfold halfF
        first
          | (rw [hc]; exact (if_pos b2).symm)
          | (cases hq : bestF (haP D) (haL D) ((2 ^ D 2 - 1) / 2) with
             | none => rfl
             | some c => exact (if_neg b2).symm)
          | (rw [hI_m1 (fun c hc => by have := (q3 c hc).1; omega) b3]; rfl)
end CYT
