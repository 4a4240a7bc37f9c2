/-! the reference's tram -/
def TM (M : Mm) (l : Nat) (D : Nat → Nat) (k : Nat) (S : Nat → Int) (b : Nat → Nat) : Prop := mH M l D ∧ (M.2.1 98 31 = zI (S 0) ∧ M.2.1 98 32 = zI (S 1) ∧ M.2.1 98 33 = zI (S 2) ∧ M.2.1 98 34 = zI (S 3)) ∧ (∀ r, r < D 2 → M.2.1 110 r = nI (b r)) ∧ (∀ r, r < D 2 → M.2.1 111 r = zI (S (20 + r))) ∧ (∀ s, s < 6 → M.2.1 112 s = zI (S (30 + s))) ∧ TOK D k S b
def TO : List Nat := [110, 111, 112]
def TFs : List Nat := [31, 32, 33, 34]
theorem TFs_ok : ∀ k, k ∈ TFs → k < 23 ∨ 26 < k := by decide
section MTR
variable {C : Ct} {M : Mm} {l k : Nat} {D : Nat → Nat} {S : Nat → Int} {b : Nat → Nat} {x y : Int32}
theorem TM.kk {k' : Nat} (W : TM M l D k S b) (hk : k ≤ k') : TM M l D k' S b := ⟨W.1, W.2.1, W.2.2.1, W.2.2.2.1, W.2.2.2.2.1, W.2.2.2.2.2.up hk⟩
theorem TM.H {M' : Mm} (W : TM M l D k S b) (h : Fm TO TFs M M') : mH M' l D := W.1.fm h (by decide) TFs_ok
theorem n_isAboard {r : Nat} (W : TM M l D k S b) (hr : r < D 2) : CG C 235 [.ref 98, .int (nI r)] M (fun w M' => w = some (.int (b2i (abd S r = true))) ∧ M' = M) := by
  have hK := W.1.1
  have hH := W.1.2
  obtain ⟨⟨a0, a1, a2, a3⟩, hl8, hD, ao⟩ := W.1.2
  have hn0 : _ ≤ 8 := hD.1
  have hn1 : _ ≤ 6 := hD.2.1.2
  have hn2 : _ ≤ 8 := hD.2.2.1
  obtain ⟨⟨s0, s1, s2, s3⟩, q1, q2, q3, hO⟩ := W.2
  obtain ⟨o0, o1, o2, o3, o4, o5, o6⟩ := hO
  have ho := (o5 r hr).1
  refine CG_in (mL := 2) (hl := false) (lv := [some (.ref 98), some (.int (nI r))]) (ll := []) rfl rfl rfl ?_
  refine G_S (pc := 0) f_235_0 rfl rfl rfl ?_
  refine G_ic (v := nI 0) (pc := 1) f_235_1 (by decide) ?_
  refine G_S (pc := 2) f_235_2 rfl rfl rfl ?_
  refine G_gIv (pc := 3) f_235_3 (by decide) rfl (by decide) (by first | assumption | exact hK.1 _ _ rfl) (by first | assumption | exact mI_s | ((refine mI_o (by first | decide | omega) ?_); (repeat (refine mI_o (by first | decide | omega) ?_)); first | exact mI_s | assumption) | rfl) ?_
  refine G_ic (v := nI 1) (pc := 6) f_235_6 (by decide) ?_
  first | refine G_subN (pc := 7) f_235_7 (by omega) ?_ | refine G_subZ (pc := 7) f_235_7 (by first | rfl | exact nI_zI _) (by first | rfl | exact nI_zI _) ?_ | refine G_S (pc := 7) f_235_7 rfl rfl rfl ?_
  refine G_CS (pc := 8) f_235_8 rfl rfl (by decide) rfl rfl ⟨Nat.le_of_ble_eq_true rfl, Nat.le_of_ble_eq_true rfl⟩ ?_
  refine CG.go (m_inZ (by first | exact nI_toInt (by omega) | exact zI_toInt (by omega) (by omega) | rfl) (by first | exact nI_toInt (by omega) | exact zI_toInt (by omega) (by omega) | rfl) (by first | exact nI_toInt (by omega) | exact zI_toInt (by omega) (by omega) | rfl)) ?_
  first | refine G_bEq (pc := 11) f_235_11 rfl (fun b1 => ?_) (fun b1 => ?_) | refine G_zeqZ (pc := 11) f_235_11 rfl (by first | exact nI_toInt (by omega) | exact zI_toInt (by omega) (by omega) | rfl) (fun b1 => ?_) (fun b1 => ?_)
  · exact absurd (by omega) b1
  · refine G_S (pc := 14) f_235_14 rfl rfl rfl ?_
    refine G_gR (pc := 15) f_235_15 (by decide) rfl (by first | assumption | exact hK.1 _ _ rfl) (by first | assumption | exact hK.2 _ _ _ rfl | (try dsimp only) <;> (repeat (first | exact up2_s | refine up2_o (by first | decide | omega) ?_)) <;> first | assumption | exact hK.2 _ _ _ rfl) ?_
    refine G_S (pc := 18) f_235_18 rfl rfl rfl ?_
    refine G_iaN (pc := 19) f_235_19 (by first | assumption | exact hK.1 _ _ rfl) (by omega) (by omega) (by first | assumption | exact q1 _ (by omega) | exact q2 _ (by omega) | exact q3 _ (by omega) | exact q4 _ (by omega) | exact q5 _ (by omega) | exact vh _ (by omega) | exact (vr _ (by omega)).1 | exact (vr _ (by omega)).2 | exact vw _ (by omega) | exact vf _ (by omega) (by omega) | exact mI_s | ((refine mI_o (by first | decide | omega) ?_); (repeat (refine mI_o (by first | decide | omega) ?_)); first | exact mI_s | assumption | exact q1 _ (by omega) | exact q2 _ (by omega) | exact q3 _ (by omega) | exact q4 _ (by omega) | exact q5 _ (by omega) | exact vh _ (by omega) | exact (vr _ (by omega)).1 | exact (vr _ (by omega)).2 | exact vw _ (by omega) | exact vf _ (by omega) (by omega)) | rfl) ?_
    refine G_ic (v := zI (-1)) (pc := 20) f_235_20 (by decide) ?_
    refine G_jeqZ (pc := 21) f_235_21 rfl (by first | exact nI_toInt (by omega) | exact zI_toInt (by omega) (by omega) | rfl) (by first | exact nI_toInt (by omega) | exact zI_toInt (by omega) (by omega) | rfl) (fun b2 => ?_) (fun b2 => ?_)
    · refine G_ic (v := nI 0) (pc := 28) f_235_28 (by decide) ?_
      refine G_rz (pc := 29) f_235_29 (by first | exact Or.inl rfl | exact Or.inr rfl | exact b2i_01 _ | assumption) ?_
      refine ⟨?_, rfl⟩
      congr 2
      first
        | exact (b2i_1 (decide_eq_true b2)).symm
        | exact (b2i_0 (fun q => absurd b2 (of_decide_eq_true q))).symm
    · refine G_ic (v := nI 1) (pc := 24) f_235_24 (by decide) ?_
      refine G_S (pc := 25) f_235_25 rfl rfl rfl ?_
      refine G_rz (pc := 29) f_235_29 (by first | exact Or.inl rfl | exact Or.inr rfl | exact b2i_01 _ | assumption) ?_
      refine ⟨?_, rfl⟩
      congr 2
      first
        | exact (b2i_1 (decide_eq_true b2)).symm
        | exact (b2i_0 (fun q => absurd b2 (of_decide_eq_true q))).symm
theorem n_isAboardX (W : TM M l D k S b) : CG C 235 [.ref 98, .int x] M (fun w M' => w = some (.int (b2i ((0 ≤ x.toInt ∧ x.toInt < (D 2 : Int)) ∧ abd S x.toInt.toNat = true))) ∧ M' = M) := by
  have hK := W.1.1
  have hH := W.1.2
  obtain ⟨⟨a0, a1, a2, a3⟩, hl8, hD, ao⟩ := W.1.2
  have hn0 : _ ≤ 8 := hD.1
  have hn1 : _ ≤ 6 := hD.2.1.2
  have hn2 : _ ≤ 8 := hD.2.2.1
  obtain ⟨⟨s0, s1, s2, s3⟩, q1, q2, q3, hO⟩ := W.2
  obtain ⟨o0, o1, o2, o3, o4, o5, o6⟩ := hO
  by_cases hx : 0 ≤ x.toInt ∧ x.toInt < (D 2 : Int)
  · obtain ⟨r, hr, rfl⟩ := i_nat hx.1 hx.2
    refine CG.mono (n_isAboard W hr) ?_
    rintro w M' ⟨rfl, rfl⟩
    refine ⟨?_, rfl⟩
    congr 2
    refine b2i_congr ?_
    rw [nI_toInt (by omega), Int.toNat_natCast]
    exact ⟨fun q => ⟨by omega, q⟩, fun q => q.2⟩
  · refine CG_in (mL := 2) (hl := false) (lv := [some (.ref 98), some (.int x)]) (ll := []) rfl rfl rfl ?_
    refine G_S (pc := 0) f_235_0 rfl rfl rfl ?_
    refine G_ic (v := nI 0) (pc := 1) f_235_1 (by decide) ?_
    refine G_S (pc := 2) f_235_2 rfl rfl rfl ?_
    refine G_gIv (pc := 3) f_235_3 (by decide) rfl (by decide) (by first | assumption | exact hK.1 _ _ rfl) (by first | assumption | exact mI_s | ((refine mI_o (by first | decide | omega) ?_); (repeat (refine mI_o (by first | decide | omega) ?_)); first | exact mI_s | assumption) | rfl) ?_
    refine G_ic (v := nI 1) (pc := 6) f_235_6 (by decide) ?_
    first | refine G_subN (pc := 7) f_235_7 (by omega) ?_ | refine G_subZ (pc := 7) f_235_7 (by first | rfl | exact nI_zI _) (by first | rfl | exact nI_zI _) ?_ | refine G_S (pc := 7) f_235_7 rfl rfl rfl ?_
    refine G_CS (pc := 8) f_235_8 rfl rfl (by decide) rfl rfl ⟨Nat.le_of_ble_eq_true rfl, Nat.le_of_ble_eq_true rfl⟩ ?_
    refine CG.go (m_inZ (by first | exact nI_toInt (by omega) | exact zI_toInt (by omega) (by omega) | rfl) (by first | exact nI_toInt (by omega) | exact zI_toInt (by omega) (by omega) | rfl) (by first | exact nI_toInt (by omega) | exact zI_toInt (by omega) (by omega) | rfl)) ?_
    first | refine G_bEq (pc := 11) f_235_11 rfl (fun b1 => ?_) (fun b1 => ?_) | refine G_zeqZ (pc := 11) f_235_11 rfl (by first | exact nI_toInt (by omega) | exact zI_toInt (by omega) (by omega) | rfl) (fun b1 => ?_) (fun b1 => ?_)
    · refine G_ic (v := nI 0) (pc := 28) f_235_28 (by decide) ?_
      refine G_rz (pc := 29) f_235_29 (by first | exact Or.inl rfl | exact Or.inr rfl | exact b2i_01 _ | assumption) ?_
      refine ⟨?_, rfl⟩
      congr 2
      exact (b2i_0 (fun q => hx q.1)).symm
    · exfalso; omega
theorem n_isFree (W : TM M l D k S b) : CG C 236 [.ref 98, .int x] M (fun w M' => w = some (.int (b2i ((0 ≤ x.toInt ∧ x.toInt < (D 1 : Int)) ∧ S (30 + x.toInt.toNat) = -1))) ∧ M' = M) := by
  have hK := W.1.1
  have hH := W.1.2
  obtain ⟨⟨a0, a1, a2, a3⟩, hl8, hD, ao⟩ := W.1.2
  have hn0 : _ ≤ 8 := hD.1
  have hn1 : _ ≤ 6 := hD.2.1.2
  have hn2 : _ ≤ 8 := hD.2.2.1
  obtain ⟨⟨s0, s1, s2, s3⟩, q1, q2, q3, hO⟩ := W.2
  obtain ⟨o0, o1, o2, o3, o4, o5, o6⟩ := hO
  by_cases hx : 0 ≤ x.toInt ∧ x.toInt < (D 1 : Int)
  · obtain ⟨s, hr, rfl⟩ := i_nat hx.1 hx.2
    have ho := o6 s (by omega)
    rw [nI_toInt (by omega), Int.toNat_natCast]
    refine CG_in (mL := 2) (hl := false) (lv := [some (.ref 98), some (.int (nI s))]) (ll := []) rfl rfl rfl ?_
    refine G_S (pc := 0) f_236_0 rfl rfl rfl ?_
    refine G_ic (v := nI 0) (pc := 1) f_236_1 (by decide) ?_
    refine G_S (pc := 2) f_236_2 rfl rfl rfl ?_
    refine G_gIv (pc := 3) f_236_3 (by decide) rfl (by decide) (by first | assumption | exact hK.1 _ _ rfl) (by first | assumption | exact mI_s | ((refine mI_o (by first | decide | omega) ?_); (repeat (refine mI_o (by first | decide | omega) ?_)); first | exact mI_s | assumption) | rfl) ?_
    refine G_ic (v := nI 1) (pc := 6) f_236_6 (by decide) ?_
    first | refine G_subN (pc := 7) f_236_7 (by omega) ?_ | refine G_subZ (pc := 7) f_236_7 (by first | rfl | exact nI_zI _) (by first | rfl | exact nI_zI _) ?_ | refine G_S (pc := 7) f_236_7 rfl rfl rfl ?_
    refine G_CS (pc := 8) f_236_8 rfl rfl (by decide) rfl rfl ⟨Nat.le_of_ble_eq_true rfl, Nat.le_of_ble_eq_true rfl⟩ ?_
    refine CG.go (m_inZ (by first | exact nI_toInt (by omega) | exact zI_toInt (by omega) (by omega) | rfl) (by first | exact nI_toInt (by omega) | exact zI_toInt (by omega) (by omega) | rfl) (by first | exact nI_toInt (by omega) | exact zI_toInt (by omega) (by omega) | rfl)) ?_
    first | refine G_bEq (pc := 11) f_236_11 rfl (fun b1 => ?_) (fun b1 => ?_) | refine G_zeqZ (pc := 11) f_236_11 rfl (by first | exact nI_toInt (by omega) | exact zI_toInt (by omega) (by omega) | rfl) (fun b1 => ?_) (fun b1 => ?_)
    · exact absurd (by omega) b1
    · refine G_S (pc := 14) f_236_14 rfl rfl rfl ?_
      refine G_gR (pc := 15) f_236_15 (by decide) rfl (by first | assumption | exact hK.1 _ _ rfl) (by first | assumption | exact hK.2 _ _ _ rfl | (try dsimp only) <;> (repeat (first | exact up2_s | refine up2_o (by first | decide | omega) ?_)) <;> first | assumption | exact hK.2 _ _ _ rfl) ?_
      refine G_S (pc := 18) f_236_18 rfl rfl rfl ?_
      refine G_iaN (pc := 19) f_236_19 (by first | assumption | exact hK.1 _ _ rfl) (by omega) (by omega) (by first | assumption | exact q1 _ (by omega) | exact q2 _ (by omega) | exact q3 _ (by omega) | exact q4 _ (by omega) | exact q5 _ (by omega) | exact vh _ (by omega) | exact (vr _ (by omega)).1 | exact (vr _ (by omega)).2 | exact vw _ (by omega) | exact vf _ (by omega) (by omega) | exact mI_s | ((refine mI_o (by first | decide | omega) ?_); (repeat (refine mI_o (by first | decide | omega) ?_)); first | exact mI_s | assumption | exact q1 _ (by omega) | exact q2 _ (by omega) | exact q3 _ (by omega) | exact q4 _ (by omega) | exact q5 _ (by omega) | exact vh _ (by omega) | exact (vr _ (by omega)).1 | exact (vr _ (by omega)).2 | exact vw _ (by omega) | exact vf _ (by omega) (by omega)) | rfl) ?_
      refine G_ic (v := zI (-1)) (pc := 20) f_236_20 (by decide) ?_
      refine G_jneZ (pc := 21) f_236_21 rfl (by first | exact nI_toInt (by omega) | exact zI_toInt (by omega) (by omega) | rfl) (by first | exact nI_toInt (by omega) | exact zI_toInt (by omega) (by omega) | rfl) (fun b2 => ?_) (fun b2 => ?_)
      · refine G_ic (v := nI 0) (pc := 28) f_236_28 (by decide) ?_
        refine G_rz (pc := 29) f_236_29 (by first | exact Or.inl rfl | exact Or.inr rfl | exact b2i_01 _ | assumption) ?_
        refine ⟨?_, rfl⟩
        congr 2
        first
          | exact (b2i_1 ⟨by omega, b2⟩).symm
          | exact (b2i_0 (fun q => b2 q.2)).symm
      · refine G_ic (v := nI 1) (pc := 24) f_236_24 (by decide) ?_
        refine G_S (pc := 25) f_236_25 rfl rfl rfl ?_
        refine G_rz (pc := 29) f_236_29 (by first | exact Or.inl rfl | exact Or.inr rfl | exact b2i_01 _ | assumption) ?_
        refine ⟨?_, rfl⟩
        congr 2
        first
          | exact (b2i_1 ⟨by omega, b2⟩).symm
          | exact (b2i_0 (fun q => b2 q.2)).symm
  · refine CG_in (mL := 2) (hl := false) (lv := [some (.ref 98), some (.int x)]) (ll := []) rfl rfl rfl ?_
    refine G_S (pc := 0) f_236_0 rfl rfl rfl ?_
    refine G_ic (v := nI 0) (pc := 1) f_236_1 (by decide) ?_
    refine G_S (pc := 2) f_236_2 rfl rfl rfl ?_
    refine G_gIv (pc := 3) f_236_3 (by decide) rfl (by decide) (by first | assumption | exact hK.1 _ _ rfl) (by first | assumption | exact mI_s | ((refine mI_o (by first | decide | omega) ?_); (repeat (refine mI_o (by first | decide | omega) ?_)); first | exact mI_s | assumption) | rfl) ?_
    refine G_ic (v := nI 1) (pc := 6) f_236_6 (by decide) ?_
    first | refine G_subN (pc := 7) f_236_7 (by omega) ?_ | refine G_subZ (pc := 7) f_236_7 (by first | rfl | exact nI_zI _) (by first | rfl | exact nI_zI _) ?_ | refine G_S (pc := 7) f_236_7 rfl rfl rfl ?_
    refine G_CS (pc := 8) f_236_8 rfl rfl (by decide) rfl rfl ⟨Nat.le_of_ble_eq_true rfl, Nat.le_of_ble_eq_true rfl⟩ ?_
    refine CG.go (m_inZ (by first | exact nI_toInt (by omega) | exact zI_toInt (by omega) (by omega) | rfl) (by first | exact nI_toInt (by omega) | exact zI_toInt (by omega) (by omega) | rfl) (by first | exact nI_toInt (by omega) | exact zI_toInt (by omega) (by omega) | rfl)) ?_
    first | refine G_bEq (pc := 11) f_236_11 rfl (fun b1 => ?_) (fun b1 => ?_) | refine G_zeqZ (pc := 11) f_236_11 rfl (by first | exact nI_toInt (by omega) | exact zI_toInt (by omega) (by omega) | rfl) (fun b1 => ?_) (fun b1 => ?_)
    · refine G_ic (v := nI 0) (pc := 28) f_236_28 (by decide) ?_
      refine G_rz (pc := 29) f_236_29 (by first | exact Or.inl rfl | exact Or.inr rfl | exact b2i_01 _ | assumption) ?_
      refine ⟨?_, rfl⟩
      congr 2
      exact (b2i_0 (fun q => hx q.1)).symm
    · exfalso; omega
/-- seats and sitters behind sitsDown -/
def sdS (S : Nat → Int) (r : Nat) (z : Int) : Nat → Int := if z = -1 then up1 (if S (20 + r) = -1 then S else up1 S (30 + (S (20 + r)).toNat) (-1)) (20 + r) z else up1 (up1 (if S (20 + r) = -1 then S else up1 S (30 + (S (20 + r)).toNat) (-1)) (20 + r) z) (30 + z.toNat) (r : Int)
theorem sdS_lo {r j : Nat} {z : Int} (hj : j < 20) : sdS S r z j = S j := by
  unfold sdS
  split
  · rw [up1_o (by omega) rfl]
    split
    · rfl
    · exact up1_o (by omega) rfl
  · rw [up1_o (by omega) rfl, up1_o (by omega) rfl]
    split
    · rfl
    · exact up1_o (by omega) rfl
theorem sdS_bd {r : Nat} {z : Int} (h : S (20 + r) = -1) (hz : z ≠ -1) : sdS S r z = bdS S (r : Int) z := by
  unfold sdS bdS
  rw [if_neg hz, if_pos h, Int.toNat_natCast]
theorem sdS_of {r : Nat} (h : S (20 + r) ≠ -1) : sdS S r (-1) = ofS S r := by
  unfold sdS ofS
  rw [if_pos rfl, if_neg h]
theorem up1_up1 {α : Type} {f : Nat → α} {i : Nat} {x y : α} : up1 (up1 f i x) i y = up1 f i y := by
  funext j
  unfold up1
  split <;> rfl
theorem sdS_mv {r : Nat} {z : Int} (h : S (20 + r) ≠ -1) (hz : z ≠ -1) : sdS S r z = mvS S (r : Int) z := by
  unfold sdS mvS bdS ofS
  rw [if_neg hz, if_neg h, Int.toNat_natCast, up1_up1]
/-- the values alone -/
def TV (M : Mm) (l : Nat) (D : Nat → Nat) (S : Nat → Int) (b : Nat → Nat) : Prop := mH M l D ∧ (M.2.1 98 31 = zI (S 0) ∧ M.2.1 98 32 = zI (S 1) ∧ M.2.1 98 33 = zI (S 2) ∧ M.2.1 98 34 = zI (S 3)) ∧ (∀ r, r < D 2 → M.2.1 110 r = nI (b r)) ∧ (∀ r, r < D 2 → M.2.1 111 r = zI (S (20 + r))) ∧ ∀ s, s < 6 → M.2.1 112 s = zI (S (30 + s))
theorem TM.v (W : TM M l D k S b) : TV M l D S b := ⟨W.1, W.2.1, W.2.2.1, W.2.2.2.1, W.2.2.2.2.1⟩
theorem TV.m (W : TV M l D S b) (h : TOK D k S b) : TM M l D k S b := ⟨W.1, W.2.1, W.2.2.1, W.2.2.2.1, W.2.2.2.2, h⟩
theorem TV.seat {r : Nat} {z : Int} (W : TV M l D S b) (hr : r < 8) : TV (M.1, up2 M.2.1 111 r (zI z), M.2.2.1, M.2.2.2) l D (up1 S (20 + r) z) b := by
  obtain ⟨h1, ⟨s0, s1, s2, s3⟩, q1, q2, q3⟩ := W
  have hF : Fm TO TFs M _ := Fm.up (i := 111) (k := r) (x := zI z) (by decide) (by decide)
  have e : ∀ j, j < 20 → up1 S (20 + r) z j = S j := fun j hj => up1_o (by omega) rfl
  refine ⟨h1.fm hF (by decide) TFs_ok, ⟨by rw [e 0 (by omega)]; exact (by (try dsimp only); exact up2_o (by omega) s0), by rw [e 1 (by omega)]; exact (by (try dsimp only); exact up2_o (by omega) s1), by rw [e 2 (by omega)]; exact (by (try dsimp only); exact up2_o (by omega) s2), by rw [e 3 (by omega)]; exact (by (try dsimp only); exact up2_o (by omega) s3)⟩, fun i hi => (by (try dsimp only); exact up2_o (by omega) (q1 i hi)), fun i hi => ?_, fun i hi => ?_⟩
  · by_cases q : i = r
    · subst q
      rw [up1_s]
      exact (by (try dsimp only); exact up2_s)
    · rw [up1_o (by omega) rfl]
      exact (by (try dsimp only); exact up2_o (by omega) (q2 i hi))
  · rw [up1_o (by omega) rfl]
    exact (by (try dsimp only); exact up2_o (by omega) (q3 i hi))
theorem TV.sit {s : Nat} {z : Int} (W : TV M l D S b) (hn : D 2 ≤ 8) : TV (M.1, up2 M.2.1 112 s (zI z), M.2.2.1, M.2.2.2) l D (up1 S (30 + s) z) b := by
  obtain ⟨h1, ⟨s0, s1, s2, s3⟩, q1, q2, q3⟩ := W
  have hF : Fm TO TFs M _ := Fm.up (i := 112) (k := s) (x := zI z) (by decide) (by decide)
  have e : ∀ j, j < 30 → up1 S (30 + s) z j = S j := fun j hj => up1_o (by omega) rfl
  refine ⟨h1.fm hF (by decide) TFs_ok, ⟨by rw [e 0 (by omega)]; exact (by (try dsimp only); exact up2_o (by omega) s0), by rw [e 1 (by omega)]; exact (by (try dsimp only); exact up2_o (by omega) s1), by rw [e 2 (by omega)]; exact (by (try dsimp only); exact up2_o (by omega) s2), by rw [e 3 (by omega)]; exact (by (try dsimp only); exact up2_o (by omega) s3)⟩, fun i hi => (by (try dsimp only); exact up2_o (by omega) (q1 i hi)), fun i hi => ?_, fun i hi => ?_⟩
  · rw [e _ (by omega)]
    exact (by (try dsimp only); exact up2_o (by omega) (q2 i hi))
  · by_cases q : i = s
    · subst q
      rw [up1_s]
      exact (by (try dsimp only); exact up2_s)
    · rw [up1_o (by omega) rfl]
      exact (by (try dsimp only); exact up2_o (by omega) (q3 i hi))
theorem n_sits {r : Nat} {z : Int} (W : TM M l D k S b) (hr : r < D 2) (hz : -1 ≤ z ∧ z < 6) : CG C 237 [.ref 98, .int (nI r), .int (zI z)] M (fun w M' => w = none ∧ Fm TO TFs M M' ∧ TV M' l D (sdS S r z) b) := by
  have V := W.v
  have hK := W.1.1
  have hH := W.1.2
  obtain ⟨⟨a0, a1, a2, a3⟩, hl8, hD, ao⟩ := W.1.2
  have hn0 : _ ≤ 8 := hD.1
  have hn1 : _ ≤ 6 := hD.2.1.2
  have hn2 : _ ≤ 8 := hD.2.2.1
  obtain ⟨⟨s0, s1, s2, s3⟩, q1, q2, q3, hO⟩ := W.2
  obtain ⟨o0, o1, o2, o3, o4, o5, o6⟩ := hO
  have ho := (o5 r hr).1
  have u1 : ∀ (i j : Nat) (v : Int32) (N : Mm), i = 111 ∨ i = 112 → Fm TO TFs N (N.1, up2 N.2.1 i j v, N.2.2.1, N.2.2.2) := fun i j v N h => by rcases h with rfl | rfl <;> exact Fm.up (by decide) (by decide)
  by_cases hs : S (20 + r) = -1
  · have p2 : M.2.1 111 r = zI (-1) := by rw [q2 r hr, hs]
    by_cases hm : z = -1
    · subst hm
      refine CG_in (mL := 3) (hl := false) (lv := [some (.ref 98), some (.int (nI r)), some (.int ((zI (-1))))]) (ll := []) rfl rfl rfl ?_
      refine G_S (pc := 0) f_237_0 rfl rfl rfl ?_
      refine G_gR (pc := 1) f_237_1 (by decide) rfl (by first | assumption | exact hK.1 _ _ rfl) (by first | assumption | exact hK.2 _ _ _ rfl | (try dsimp only) <;> (repeat (first | exact up2_s | refine up2_o (by first | decide | omega) ?_)) <;> first | assumption | exact hK.2 _ _ _ rfl) ?_
      refine G_S (pc := 4) f_237_4 rfl rfl rfl ?_
      refine G_iaN (pc := 5) f_237_5 (by first | assumption | exact hK.1 _ _ rfl) (by omega) (by omega) (by first | assumption | exact q1 _ (by omega) | exact q2 _ (by omega) | exact q3 _ (by omega) | exact q4 _ (by omega) | exact q5 _ (by omega) | exact vh _ (by omega) | exact (vr _ (by omega)).1 | exact (vr _ (by omega)).2 | exact vw _ (by omega) | exact vf _ (by omega) (by omega) | exact mI_s | ((refine mI_o (by first | decide | omega) ?_); (repeat (refine mI_o (by first | decide | omega) ?_)); first | exact mI_s | assumption | exact q1 _ (by omega) | exact q2 _ (by omega) | exact q3 _ (by omega) | exact q4 _ (by omega) | exact q5 _ (by omega) | exact vh _ (by omega) | exact (vr _ (by omega)).1 | exact (vr _ (by omega)).2 | exact vw _ (by omega) | exact vf _ (by omega) (by omega)) | rfl) ?_
      refine G_ic (v := zI (-1)) (pc := 6) f_237_6 (by decide) ?_
      refine G_jeqZ (pc := 7) f_237_7 rfl (by first | exact nI_toInt (by omega) | exact zI_toInt (by omega) (by omega) | rfl) (by first | exact nI_toInt (by omega) | exact zI_toInt (by omega) (by omega) | rfl) (fun b1 => ?_) (fun b1 => ?_)
      · refine G_S (pc := 22) f_237_22 rfl rfl rfl ?_
        refine G_gR (pc := 23) f_237_23 (by decide) rfl (by first | assumption | exact hK.1 _ _ rfl) (by first | assumption | exact hK.2 _ _ _ rfl | (try dsimp only) <;> (repeat (first | exact up2_s | refine up2_o (by first | decide | omega) ?_)) <;> first | assumption | exact hK.2 _ _ _ rfl) ?_
        refine G_S (pc := 26) f_237_26 rfl rfl rfl ?_
        refine G_S (pc := 27) f_237_27 rfl rfl rfl ?_
        refine G_isN (pc := 28) f_237_28 (by first | assumption | exact hK.1 _ _ rfl) (by omega) (by omega) ?_
        refine G_S (pc := 29) f_237_29 rfl rfl rfl ?_
        refine G_ic (v := zI (-1)) (pc := 30) f_237_30 (by decide) ?_
        refine G_jeqZ (pc := 31) f_237_31 rfl (by first | exact nI_toInt (by omega) | exact zI_toInt (by omega) (by omega) | rfl) (by first | exact nI_toInt (by omega) | exact zI_toInt (by omega) (by omega) | rfl) (fun b2 => ?_) (fun b2 => ?_)
        · refine G_rv (pc := 41) f_237_41 ?_
          refine ⟨rfl, u1 111 r _ M (by omega), ?_⟩
          rw [show sdS S r (-1) = up1 S (20 + r) (-1) by unfold sdS; rw [if_pos rfl, if_pos hs]]
          exact V.seat (by omega)
        · exact absurd rfl b2
      · exact absurd rfl b1
    · obtain ⟨c, hc⟩ : ∃ c : Nat, z = (c : Int) := ⟨z.toNat, by omega⟩
      subst hc
      rw [← nI_zI c]
      refine CG_in (mL := 3) (hl := false) (lv := [some (.ref 98), some (.int (nI r)), some (.int (nI c))]) (ll := []) rfl rfl rfl ?_
      refine G_S (pc := 0) f_237_0 rfl rfl rfl ?_
      refine G_gR (pc := 1) f_237_1 (by decide) rfl (by first | assumption | exact hK.1 _ _ rfl) (by first | assumption | exact hK.2 _ _ _ rfl | (try dsimp only) <;> (repeat (first | exact up2_s | refine up2_o (by first | decide | omega) ?_)) <;> first | assumption | exact hK.2 _ _ _ rfl) ?_
      refine G_S (pc := 4) f_237_4 rfl rfl rfl ?_
      refine G_iaN (pc := 5) f_237_5 (by first | assumption | exact hK.1 _ _ rfl) (by omega) (by omega) (by first | assumption | exact q1 _ (by omega) | exact q2 _ (by omega) | exact q3 _ (by omega) | exact q4 _ (by omega) | exact q5 _ (by omega) | exact vh _ (by omega) | exact (vr _ (by omega)).1 | exact (vr _ (by omega)).2 | exact vw _ (by omega) | exact vf _ (by omega) (by omega) | exact mI_s | ((refine mI_o (by first | decide | omega) ?_); (repeat (refine mI_o (by first | decide | omega) ?_)); first | exact mI_s | assumption | exact q1 _ (by omega) | exact q2 _ (by omega) | exact q3 _ (by omega) | exact q4 _ (by omega) | exact q5 _ (by omega) | exact vh _ (by omega) | exact (vr _ (by omega)).1 | exact (vr _ (by omega)).2 | exact vw _ (by omega) | exact vf _ (by omega) (by omega)) | rfl) ?_
      refine G_ic (v := zI (-1)) (pc := 6) f_237_6 (by decide) ?_
      refine G_jeqZ (pc := 7) f_237_7 rfl (by first | exact nI_toInt (by omega) | exact zI_toInt (by omega) (by omega) | rfl) (by first | exact nI_toInt (by omega) | exact zI_toInt (by omega) (by omega) | rfl) (fun b1 => ?_) (fun b1 => ?_)
      · refine G_S (pc := 22) f_237_22 rfl rfl rfl ?_
        refine G_gR (pc := 23) f_237_23 (by decide) rfl (by first | assumption | exact hK.1 _ _ rfl) (by first | assumption | exact hK.2 _ _ _ rfl | (try dsimp only) <;> (repeat (first | exact up2_s | refine up2_o (by first | decide | omega) ?_)) <;> first | assumption | exact hK.2 _ _ _ rfl) ?_
        refine G_S (pc := 26) f_237_26 rfl rfl rfl ?_
        refine G_S (pc := 27) f_237_27 rfl rfl rfl ?_
        refine G_isN (pc := 28) f_237_28 (by first | assumption | exact hK.1 _ _ rfl) (by omega) (by omega) ?_
        refine G_S (pc := 29) f_237_29 rfl rfl rfl ?_
        refine G_ic (v := zI (-1)) (pc := 30) f_237_30 (by decide) ?_
        refine G_jeqZ (pc := 31) f_237_31 rfl (by first | exact nI_toInt (by omega) | exact zI_toInt (by omega) (by omega) | rfl) (by first | exact nI_toInt (by omega) | exact zI_toInt (by omega) (by omega) | rfl) (fun b2 => ?_) (fun b2 => ?_)
        · exfalso; omega
        · refine G_S (pc := 34) f_237_34 rfl rfl rfl ?_
          refine G_gR (pc := 35) f_237_35 (by decide) rfl (by first | assumption | exact hK.1 _ _ rfl) (by first | assumption | exact hK.2 _ _ _ rfl | (try dsimp only) <;> (repeat (first | exact up2_s | refine up2_o (by first | decide | omega) ?_)) <;> first | assumption | exact hK.2 _ _ _ rfl) ?_
          refine G_S (pc := 38) f_237_38 rfl rfl rfl ?_
          refine G_S (pc := 39) f_237_39 rfl rfl rfl ?_
          refine G_isN (pc := 40) f_237_40 (by first | assumption | exact hK.1 _ _ rfl) (by omega) (by omega) ?_
          refine G_rv (pc := 41) f_237_41 ?_
          refine ⟨rfl, (u1 111 r _ M (by omega)).tr (u1 112 c _ _ (by omega)), ?_⟩
          rw [show sdS S r (c : Int) = up1 (up1 S (20 + r) (c : Int)) (30 + c) (r : Int) by unfold sdS; rw [if_neg hm, if_pos hs, Int.toNat_natCast]]
          rw [nI_zI c, nI_zI r]
          exact (V.seat (by omega)).sit hn2
      · exact absurd rfl b1
  · obtain ⟨e, he⟩ : ∃ e : Nat, S (20 + r) = (e : Int) := ⟨(S (20 + r)).toNat, by omega⟩
    have p2 : M.2.1 111 r = nI e := by rw [q2 r hr, he, nI_zI]
    have V1 : TV (M.1, up2 M.2.1 112 e (zI (-1)), M.2.2.1, M.2.2.2) l D (up1 S (30 + e) (-1)) b := V.sit hn2
    by_cases hm : z = -1
    · subst hm
      refine CG_in (mL := 3) (hl := false) (lv := [some (.ref 98), some (.int (nI r)), some (.int ((zI (-1))))]) (ll := []) rfl rfl rfl ?_
      refine G_S (pc := 0) f_237_0 rfl rfl rfl ?_
      refine G_gR (pc := 1) f_237_1 (by decide) rfl (by first | assumption | exact hK.1 _ _ rfl) (by first | assumption | exact hK.2 _ _ _ rfl | (try dsimp only) <;> (repeat (first | exact up2_s | refine up2_o (by first | decide | omega) ?_)) <;> first | assumption | exact hK.2 _ _ _ rfl) ?_
      refine G_S (pc := 4) f_237_4 rfl rfl rfl ?_
      refine G_iaN (pc := 5) f_237_5 (by first | assumption | exact hK.1 _ _ rfl) (by omega) (by omega) (by first | exact p2 | rfl) ?_
      refine G_ic (v := zI (-1)) (pc := 6) f_237_6 (by decide) ?_
      refine G_jeqZ (pc := 7) f_237_7 rfl (by first | exact nI_toInt (by omega) | exact zI_toInt (by omega) (by omega) | rfl) (by first | exact nI_toInt (by omega) | exact zI_toInt (by omega) (by omega) | rfl) (fun b1 => ?_) (fun b1 => ?_)
      · exfalso; omega
      · refine G_S (pc := 10) f_237_10 rfl rfl rfl ?_
        refine G_gR (pc := 11) f_237_11 (by decide) rfl (by first | assumption | exact hK.1 _ _ rfl) (by first | assumption | exact hK.2 _ _ _ rfl | (try dsimp only) <;> (repeat (first | exact up2_s | refine up2_o (by first | decide | omega) ?_)) <;> first | assumption | exact hK.2 _ _ _ rfl) ?_
        refine G_S (pc := 14) f_237_14 rfl rfl rfl ?_
        refine G_gR (pc := 15) f_237_15 (by decide) rfl (by first | assumption | exact hK.1 _ _ rfl) (by first | assumption | exact hK.2 _ _ _ rfl | (try dsimp only) <;> (repeat (first | exact up2_s | refine up2_o (by first | decide | omega) ?_)) <;> first | assumption | exact hK.2 _ _ _ rfl) ?_
        refine G_S (pc := 18) f_237_18 rfl rfl rfl ?_
        refine G_iaN (pc := 19) f_237_19 (by first | assumption | exact hK.1 _ _ rfl) (by omega) (by omega) (by first | exact p2 | rfl) ?_
        refine G_ic (v := zI (-1)) (pc := 20) f_237_20 (by decide) ?_
        refine G_isN (pc := 21) f_237_21 (by first | assumption | exact hK.1 _ _ rfl) (by omega) (by omega) ?_
        refine G_S (pc := 22) f_237_22 rfl rfl rfl ?_
        refine G_gR (pc := 23) f_237_23 (by decide) rfl (by first | assumption | exact hK.1 _ _ rfl) (by first | assumption | exact hK.2 _ _ _ rfl | (try dsimp only) <;> (repeat (first | exact up2_s | refine up2_o (by first | decide | omega) ?_)) <;> first | assumption | exact hK.2 _ _ _ rfl) ?_
        refine G_S (pc := 26) f_237_26 rfl rfl rfl ?_
        refine G_S (pc := 27) f_237_27 rfl rfl rfl ?_
        refine G_isN (pc := 28) f_237_28 (by first | assumption | exact hK.1 _ _ rfl) (by omega) (by omega) ?_
        refine G_S (pc := 29) f_237_29 rfl rfl rfl ?_
        refine G_ic (v := zI (-1)) (pc := 30) f_237_30 (by decide) ?_
        refine G_jeqZ (pc := 31) f_237_31 rfl (by first | exact nI_toInt (by omega) | exact zI_toInt (by omega) (by omega) | rfl) (by first | exact nI_toInt (by omega) | exact zI_toInt (by omega) (by omega) | rfl) (fun b2 => ?_) (fun b2 => ?_)
        · refine G_rv (pc := 41) f_237_41 ?_
          refine ⟨rfl, (u1 112 e _ M (by omega)).tr (u1 111 r _ _ (by omega)), ?_⟩
          rw [show sdS S r (-1) = up1 (up1 S (30 + e) (-1)) (20 + r) (-1) by unfold sdS; rw [if_pos rfl, if_neg hs, he, Int.toNat_natCast]]
          exact V1.seat (by omega)
        · exact absurd rfl b2
    · obtain ⟨c, hc⟩ : ∃ c : Nat, z = (c : Int) := ⟨z.toNat, by omega⟩
      subst hc
      rw [← nI_zI c]
      refine CG_in (mL := 3) (hl := false) (lv := [some (.ref 98), some (.int (nI r)), some (.int (nI c))]) (ll := []) rfl rfl rfl ?_
      refine G_S (pc := 0) f_237_0 rfl rfl rfl ?_
      refine G_gR (pc := 1) f_237_1 (by decide) rfl (by first | assumption | exact hK.1 _ _ rfl) (by first | assumption | exact hK.2 _ _ _ rfl | (try dsimp only) <;> (repeat (first | exact up2_s | refine up2_o (by first | decide | omega) ?_)) <;> first | assumption | exact hK.2 _ _ _ rfl) ?_
      refine G_S (pc := 4) f_237_4 rfl rfl rfl ?_
      refine G_iaN (pc := 5) f_237_5 (by first | assumption | exact hK.1 _ _ rfl) (by omega) (by omega) (by first | exact p2 | rfl) ?_
      refine G_ic (v := zI (-1)) (pc := 6) f_237_6 (by decide) ?_
      refine G_jeqZ (pc := 7) f_237_7 rfl (by first | exact nI_toInt (by omega) | exact zI_toInt (by omega) (by omega) | rfl) (by first | exact nI_toInt (by omega) | exact zI_toInt (by omega) (by omega) | rfl) (fun b1 => ?_) (fun b1 => ?_)
      · exfalso; omega
      · refine G_S (pc := 10) f_237_10 rfl rfl rfl ?_
        refine G_gR (pc := 11) f_237_11 (by decide) rfl (by first | assumption | exact hK.1 _ _ rfl) (by first | assumption | exact hK.2 _ _ _ rfl | (try dsimp only) <;> (repeat (first | exact up2_s | refine up2_o (by first | decide | omega) ?_)) <;> first | assumption | exact hK.2 _ _ _ rfl) ?_
        refine G_S (pc := 14) f_237_14 rfl rfl rfl ?_
        refine G_gR (pc := 15) f_237_15 (by decide) rfl (by first | assumption | exact hK.1 _ _ rfl) (by first | assumption | exact hK.2 _ _ _ rfl | (try dsimp only) <;> (repeat (first | exact up2_s | refine up2_o (by first | decide | omega) ?_)) <;> first | assumption | exact hK.2 _ _ _ rfl) ?_
        refine G_S (pc := 18) f_237_18 rfl rfl rfl ?_
        refine G_iaN (pc := 19) f_237_19 (by first | assumption | exact hK.1 _ _ rfl) (by omega) (by omega) (by first | exact p2 | rfl) ?_
        refine G_ic (v := zI (-1)) (pc := 20) f_237_20 (by decide) ?_
        refine G_isN (pc := 21) f_237_21 (by first | assumption | exact hK.1 _ _ rfl) (by omega) (by omega) ?_
        refine G_S (pc := 22) f_237_22 rfl rfl rfl ?_
        refine G_gR (pc := 23) f_237_23 (by decide) rfl (by first | assumption | exact hK.1 _ _ rfl) (by first | assumption | exact hK.2 _ _ _ rfl | (try dsimp only) <;> (repeat (first | exact up2_s | refine up2_o (by first | decide | omega) ?_)) <;> first | assumption | exact hK.2 _ _ _ rfl) ?_
        refine G_S (pc := 26) f_237_26 rfl rfl rfl ?_
        refine G_S (pc := 27) f_237_27 rfl rfl rfl ?_
        refine G_isN (pc := 28) f_237_28 (by first | assumption | exact hK.1 _ _ rfl) (by omega) (by omega) ?_
        refine G_S (pc := 29) f_237_29 rfl rfl rfl ?_
        refine G_ic (v := zI (-1)) (pc := 30) f_237_30 (by decide) ?_
        refine G_jeqZ (pc := 31) f_237_31 rfl (by first | exact nI_toInt (by omega) | exact zI_toInt (by omega) (by omega) | rfl) (by first | exact nI_toInt (by omega) | exact zI_toInt (by omega) (by omega) | rfl) (fun b2 => ?_) (fun b2 => ?_)
        · exfalso; omega
        · refine G_S (pc := 34) f_237_34 rfl rfl rfl ?_
          refine G_gR (pc := 35) f_237_35 (by decide) rfl (by first | assumption | exact hK.1 _ _ rfl) (by first | assumption | exact hK.2 _ _ _ rfl | (try dsimp only) <;> (repeat (first | exact up2_s | refine up2_o (by first | decide | omega) ?_)) <;> first | assumption | exact hK.2 _ _ _ rfl) ?_
          refine G_S (pc := 38) f_237_38 rfl rfl rfl ?_
          refine G_S (pc := 39) f_237_39 rfl rfl rfl ?_
          refine G_isN (pc := 40) f_237_40 (by first | assumption | exact hK.1 _ _ rfl) (by omega) (by omega) ?_
          refine G_rv (pc := 41) f_237_41 ?_
          refine ⟨rfl, ((u1 112 e _ M (by omega)).tr (u1 111 r _ _ (by omega))).tr (u1 112 c _ _ (by omega)), ?_⟩
          rw [show sdS S r (c : Int) = up1 (up1 (up1 S (30 + e) (-1)) (20 + r) (c : Int)) (30 + c) (r : Int) by unfold sdS; rw [if_neg hm, if_neg hs, he, Int.toNat_natCast, Int.toNat_natCast]]
          rw [nI_zI c, nI_zI r]
          exact (V1.seat (by omega)).sit hn2
theorem n_boards (W : TM M l D k S b) : CG C 238 [.ref 98, .int x, .int y] M (fun w M' => w = some (.int (b2i (bdB D S x.toInt y.toInt = true))) ∧ Fm TO TFs M M' ∧ TM M' l D k (if bdB D S x.toInt y.toInt then bdS S x.toInt y.toInt else S) b) := by
  have hO := W.2.2.2.2.2
  have hK := W.1.1
  have hH := W.1.2
  obtain ⟨⟨a0, a1, a2, a3⟩, hl8, hD, ao⟩ := W.1.2
  have hn0 : _ ≤ 8 := hD.1
  have hn1 : _ ≤ 6 := hD.2.1.2
  have hn2 : _ ≤ 8 := hD.2.2.1
  obtain ⟨⟨s0, s1, s2, s3⟩, q1, q2, q3, hO⟩ := W.2
  obtain ⟨o0, o1, o2, o3, o4, o5, o6⟩ := hO
  by_cases hx : 0 ≤ x.toInt ∧ x.toInt < (D 2 : Int)
  · obtain ⟨r, hr, rfl⟩ := i_nat hx.1 hx.2
    refine CG_in (mL := 3) (hl := false) (lv := [some (.ref 98), some (.int (nI r)), some (.int y)]) (ll := []) rfl rfl rfl ?_
    refine G_S (pc := 0) f_238_0 rfl rfl rfl ?_
    refine G_ic (v := nI 0) (pc := 1) f_238_1 (by decide) ?_
    refine G_S (pc := 2) f_238_2 rfl rfl rfl ?_
    refine G_gIv (pc := 3) f_238_3 (by decide) rfl (by decide) (by first | assumption | exact hK.1 _ _ rfl) (by first | assumption | exact mI_s | ((refine mI_o (by first | decide | omega) ?_); (repeat (refine mI_o (by first | decide | omega) ?_)); first | exact mI_s | assumption) | rfl) ?_
    refine G_ic (v := nI 1) (pc := 6) f_238_6 (by decide) ?_
    first | refine G_subN (pc := 7) f_238_7 (by omega) ?_ | refine G_subZ (pc := 7) f_238_7 (by first | rfl | exact nI_zI _) (by first | rfl | exact nI_zI _) ?_ | refine G_S (pc := 7) f_238_7 rfl rfl rfl ?_
    refine G_CS (pc := 8) f_238_8 rfl rfl (by decide) rfl rfl ⟨Nat.le_of_ble_eq_true rfl, Nat.le_of_ble_eq_true rfl⟩ ?_
    refine CG.go (m_inZ (by first | exact nI_toInt (by omega) | exact zI_toInt (by omega) (by omega) | rfl) (by first | exact nI_toInt (by omega) | exact zI_toInt (by omega) (by omega) | rfl) (by first | exact nI_toInt (by omega) | exact zI_toInt (by omega) (by omega) | rfl)) ?_
    first | refine G_bEq (pc := 11) f_238_11 rfl (fun b1 => ?_) (fun b1 => ?_) | refine G_zeqZ (pc := 11) f_238_11 rfl (by first | exact nI_toInt (by omega) | exact zI_toInt (by omega) (by omega) | rfl) (fun b1 => ?_) (fun b1 => ?_)
    · exact absurd (by omega) b1
    · refine G_S (pc := 14) f_238_14 rfl rfl rfl ?_
      refine G_S (pc := 15) f_238_15 rfl rfl rfl ?_
      refine G_CV (pc := 16) f_238_16 rfl rfl (by decide) rfl rfl (by first | assumption | exact hK.1 _ _ rfl) (by decide) ⟨Nat.le_of_ble_eq_true rfl, Nat.le_of_ble_eq_true rfl⟩ ?_
      refine CG.go (n_isAboard W hr) ?_
      first | refine G_bNe (pc := 19) f_238_19 rfl (fun b2 => ?_) (fun b2 => ?_) | refine G_zneZ (pc := 19) f_238_19 rfl (by first | exact nI_toInt (by omega) | exact zI_toInt (by omega) (by omega) | rfl) (fun b2 => ?_) (fun b2 => ?_)
      · refine G_ic (v := nI 0) (pc := 30) f_238_30 (by decide) ?_
        refine G_rz (pc := 31) f_238_31 (by first | exact Or.inl rfl | exact Or.inr rfl | exact b2i_01 _ | assumption) ?_
        first
          | (have hb : bdB D S (nI r).toInt (nI s).toInt = true := band.mpr ⟨decide_eq_true ⟨hx, by rw [nI_toInt (by omega), Int.toNat_natCast]; exact hsf⟩, decide_eq_true b3⟩
             rw [if_pos hb, b2i_1 hb]
             rw [sdS_bd hsf (by omega)] at V2
             have hO2 := hO.bd hn2 hx b3.1
             rw [nI_toInt (by omega), nI_toInt (by omega)] at hO2 ⊢
             exact ⟨rfl, hF, V2.m hO2⟩)
          | (have hb : ¬ bdB D S (nI r).toInt y.toInt = true := fun q => by
               first
                 | exact b3 (of_decide_eq_true (band.mp q).2)
                 | (have z := (of_decide_eq_true (band.mp q).1).2
                    rw [nI_toInt (by omega), Int.toNat_natCast] at z
                    exact absurd z (of_decide_eq_true b2))
             rw [if_neg hb, b2i_0 hb]
             exact ⟨rfl, Fm.rf, W⟩)
      · refine G_S (pc := 22) f_238_22 rfl rfl rfl ?_
        refine G_S (pc := 23) f_238_23 rfl rfl rfl ?_
        refine G_CV (pc := 24) f_238_24 rfl rfl (by decide) rfl rfl (by first | assumption | exact hK.1 _ _ rfl) (by decide) ⟨Nat.le_of_ble_eq_true rfl, Nat.le_of_ble_eq_true rfl⟩ ?_
        refine CG.go (n_isFree W) ?_
        first | refine G_bNe (pc := 27) f_238_27 rfl (fun b3 => ?_) (fun b3 => ?_) | refine G_zneZ (pc := 27) f_238_27 rfl (by first | exact nI_toInt (by omega) | exact zI_toInt (by omega) (by omega) | rfl) (fun b3 => ?_) (fun b3 => ?_)
        · obtain ⟨s, hs', rfl⟩ := i_nat b3.1.1 b3.1.2
          have hsf : S (20 + r) = -1 := by
            by_cases q : S (20 + r) = -1
            · exact q
            · exact absurd (decide_eq_true q) b2
          refine G_S (pc := 32) f_238_32 rfl rfl rfl ?_
          refine G_S (pc := 33) f_238_33 rfl rfl rfl ?_
          refine G_S (pc := 34) f_238_34 rfl rfl rfl ?_
          refine G_CV (pc := 35) f_238_35 rfl rfl (by decide) rfl rfl (by first | assumption | exact hK.1 _ _ rfl) (by decide) ⟨Nat.le_of_ble_eq_true rfl, Nat.le_of_ble_eq_true rfl⟩ ?_
          refine CG.mono ((by rw [nI_zI s]; exact n_sits W hr ⟨by omega, by omega⟩)) ?_
          rintro _ M2 ⟨rfl, hF, V2⟩
          refine G_ic (v := nI 1) (pc := 38) f_238_38 (by decide) ?_
          refine G_rz (pc := 39) f_238_39 (by first | exact Or.inl rfl | exact Or.inr rfl | exact b2i_01 _ | assumption) ?_
          first
            | (have hb : bdB D S (nI r).toInt (nI s).toInt = true := band.mpr ⟨decide_eq_true ⟨hx, by rw [nI_toInt (by omega), Int.toNat_natCast]; exact hsf⟩, decide_eq_true b3⟩
               rw [if_pos hb, b2i_1 hb]
               rw [sdS_bd hsf (by omega)] at V2
               have hO2 := hO.bd hn2 hx b3.1
               rw [nI_toInt (by omega), nI_toInt (by omega)] at hO2 ⊢
               exact ⟨rfl, hF, V2.m hO2⟩)
            | (have hb : ¬ bdB D S (nI r).toInt y.toInt = true := fun q => by
                 first
                   | exact b3 (of_decide_eq_true (band.mp q).2)
                   | (have z := (of_decide_eq_true (band.mp q).1).2
                      rw [nI_toInt (by omega), Int.toNat_natCast] at z
                      exact absurd z (of_decide_eq_true b2))
               rw [if_neg hb, b2i_0 hb]
               exact ⟨rfl, Fm.rf, W⟩)
        · refine G_ic (v := nI 0) (pc := 30) f_238_30 (by decide) ?_
          refine G_rz (pc := 31) f_238_31 (by first | exact Or.inl rfl | exact Or.inr rfl | exact b2i_01 _ | assumption) ?_
          first
            | (have hb : bdB D S (nI r).toInt (nI s).toInt = true := band.mpr ⟨decide_eq_true ⟨hx, by rw [nI_toInt (by omega), Int.toNat_natCast]; exact hsf⟩, decide_eq_true b3⟩
               rw [if_pos hb, b2i_1 hb]
               rw [sdS_bd hsf (by omega)] at V2
               have hO2 := hO.bd hn2 hx b3.1
               rw [nI_toInt (by omega), nI_toInt (by omega)] at hO2 ⊢
               exact ⟨rfl, hF, V2.m hO2⟩)
            | (have hb : ¬ bdB D S (nI r).toInt y.toInt = true := fun q => by
                 first
                   | exact b3 (of_decide_eq_true (band.mp q).2)
                   | (have z := (of_decide_eq_true (band.mp q).1).2
                      rw [nI_toInt (by omega), Int.toNat_natCast] at z
                      exact absurd z (of_decide_eq_true b2))
               rw [if_neg hb, b2i_0 hb]
               exact ⟨rfl, Fm.rf, W⟩)
  · have hb : ¬ bdB D S x.toInt y.toInt = true := fun q => hx (of_decide_eq_true (band.mp q).1).1
    rw [if_neg hb]
    refine CG_in (mL := 3) (hl := false) (lv := [some (.ref 98), some (.int x), some (.int y)]) (ll := []) rfl rfl rfl ?_
    refine G_S (pc := 0) f_238_0 rfl rfl rfl ?_
    refine G_ic (v := nI 0) (pc := 1) f_238_1 (by decide) ?_
    refine G_S (pc := 2) f_238_2 rfl rfl rfl ?_
    refine G_gIv (pc := 3) f_238_3 (by decide) rfl (by decide) (by first | assumption | exact hK.1 _ _ rfl) (by first | assumption | exact mI_s | ((refine mI_o (by first | decide | omega) ?_); (repeat (refine mI_o (by first | decide | omega) ?_)); first | exact mI_s | assumption) | rfl) ?_
    refine G_ic (v := nI 1) (pc := 6) f_238_6 (by decide) ?_
    first | refine G_subN (pc := 7) f_238_7 (by omega) ?_ | refine G_subZ (pc := 7) f_238_7 (by first | rfl | exact nI_zI _) (by first | rfl | exact nI_zI _) ?_ | refine G_S (pc := 7) f_238_7 rfl rfl rfl ?_
    refine G_CS (pc := 8) f_238_8 rfl rfl (by decide) rfl rfl ⟨Nat.le_of_ble_eq_true rfl, Nat.le_of_ble_eq_true rfl⟩ ?_
    refine CG.go (m_inZ (by first | exact nI_toInt (by omega) | exact zI_toInt (by omega) (by omega) | rfl) (by first | exact nI_toInt (by omega) | exact zI_toInt (by omega) (by omega) | rfl) (by first | exact nI_toInt (by omega) | exact zI_toInt (by omega) (by omega) | rfl)) ?_
    first | refine G_bEq (pc := 11) f_238_11 rfl (fun b1 => ?_) (fun b1 => ?_) | refine G_zeqZ (pc := 11) f_238_11 rfl (by first | exact nI_toInt (by omega) | exact zI_toInt (by omega) (by omega) | rfl) (fun b1 => ?_) (fun b1 => ?_)
    · refine G_ic (v := nI 0) (pc := 30) f_238_30 (by decide) ?_
      refine G_rz (pc := 31) f_238_31 (by first | exact Or.inl rfl | exact Or.inr rfl | exact b2i_01 _ | assumption) ?_
      rw [b2i_0 hb]
      exact ⟨rfl, Fm.rf, W⟩
    · exfalso; omega
theorem n_getsOff (W : TM M l D k S b) : CG C 239 [.ref 98, .int x] M (fun w M' => w = some (.int (b2i ((0 ≤ x.toInt ∧ x.toInt < (D 2 : Int)) ∧ abd S x.toInt.toNat = true))) ∧ Fm TO TFs M M' ∧ TM M' l D k (if (0 ≤ x.toInt ∧ x.toInt < (D 2 : Int)) ∧ abd S x.toInt.toNat = true then ofS S x.toInt.toNat else S) b) := by
  have hO := W.2.2.2.2.2
  have hK := W.1.1
  have hH := W.1.2
  obtain ⟨⟨a0, a1, a2, a3⟩, hl8, hD, ao⟩ := W.1.2
  have hn0 : _ ≤ 8 := hD.1
  have hn1 : _ ≤ 6 := hD.2.1.2
  have hn2 : _ ≤ 8 := hD.2.2.1
  obtain ⟨⟨s0, s1, s2, s3⟩, q1, q2, q3, hO⟩ := W.2
  obtain ⟨o0, o1, o2, o3, o4, o5, o6⟩ := hO
  by_cases hx : (0 ≤ x.toInt ∧ x.toInt < (D 2 : Int)) ∧ abd S x.toInt.toNat = true
  · rw [if_pos hx, b2i_1 hx]
    obtain ⟨r, hr, rfl⟩ := i_nat hx.1.1 hx.1.2
    have ha := hx.2
    rw [nI_toInt (by omega), Int.toNat_natCast] at ha ⊢
    refine CG_in (mL := 2) (hl := false) (lv := [some (.ref 98), some (.int (nI r))]) (ll := []) rfl rfl rfl ?_
    refine G_S (pc := 0) f_239_0 rfl rfl rfl ?_
    refine G_S (pc := 1) f_239_1 rfl rfl rfl ?_
    refine G_CV (pc := 2) f_239_2 rfl rfl (by decide) rfl rfl (by first | assumption | exact hK.1 _ _ rfl) (by decide) ⟨Nat.le_of_ble_eq_true rfl, Nat.le_of_ble_eq_true rfl⟩ ?_
    refine CG.go (n_isAboard W hr) ?_
    first | refine G_bNe (pc := 5) f_239_5 rfl (fun b1 => ?_) (fun b1 => ?_) | refine G_zneZ (pc := 5) f_239_5 rfl (by first | exact nI_toInt (by omega) | exact zI_toInt (by omega) (by omega) | rfl) (fun b1 => ?_) (fun b1 => ?_)
    · refine G_S (pc := 10) f_239_10 rfl rfl rfl ?_
      refine G_S (pc := 11) f_239_11 rfl rfl rfl ?_
      refine G_ic (v := zI (-1)) (pc := 12) f_239_12 (by decide) ?_
      refine G_CV (pc := 13) f_239_13 rfl rfl (by decide) rfl rfl (by first | assumption | exact hK.1 _ _ rfl) (by decide) ⟨Nat.le_of_ble_eq_true rfl, Nat.le_of_ble_eq_true rfl⟩ ?_
      refine CG.mono (n_sits W hr ⟨by omega, by omega⟩) ?_
      rintro _ M2 ⟨rfl, hF, V2⟩
      refine G_ic (v := nI 1) (pc := 16) f_239_16 (by decide) ?_
      refine G_rz (pc := 17) f_239_17 (by first | exact Or.inl rfl | exact Or.inr rfl | exact b2i_01 _ | assumption) ?_
      rw [sdS_of (of_decide_eq_true ha)] at V2
      exact ⟨rfl, hF, V2.m hO.of⟩
    · exact absurd ha b1
  · rw [if_neg hx, b2i_0 hx]
    refine CG_in (mL := 2) (hl := false) (lv := [some (.ref 98), some (.int x)]) (ll := []) rfl rfl rfl ?_
    refine G_S (pc := 0) f_239_0 rfl rfl rfl ?_
    refine G_S (pc := 1) f_239_1 rfl rfl rfl ?_
    refine G_CV (pc := 2) f_239_2 rfl rfl (by decide) rfl rfl (by first | assumption | exact hK.1 _ _ rfl) (by decide) ⟨Nat.le_of_ble_eq_true rfl, Nat.le_of_ble_eq_true rfl⟩ ?_
    refine CG.go (n_isAboardX W) ?_
    first | refine G_bNe (pc := 5) f_239_5 rfl (fun b1 => ?_) (fun b1 => ?_) | refine G_zneZ (pc := 5) f_239_5 rfl (by first | exact nI_toInt (by omega) | exact zI_toInt (by omega) (by omega) | rfl) (fun b1 => ?_) (fun b1 => ?_)
    · exact absurd b1 hx
    · refine G_ic (v := nI 0) (pc := 8) f_239_8 (by decide) ?_
      refine G_rz (pc := 9) f_239_9 (by first | exact Or.inl rfl | exact Or.inr rfl | exact b2i_01 _ | assumption) ?_
      exact ⟨rfl, Fm.rf, W⟩
end MTR
