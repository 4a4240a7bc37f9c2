/-! flows: the class -/
def FOK (F : Nat → Nat) : Prop := (1 ≤ F 0 ∧ F 0 ≤ 99) ∧ ∀ h, h < 24 → F (1 + h) ≤ 99
def FT_ (M : Mm) (g : Nat) : Prop := (M.1[g]? = some (2, 5) ∧ M.1[g + 1]? = some (50, 24) ∧ M.1[g + 2]? = some (50, 25) ∧ M.1[g + 3]? = some (50, 25) ∧ M.1[g + 4]? = some (50, 25)) ∧ M.2.2.2 g 1 = some (g + 1) ∧ M.2.2.2 g 2 = some (g + 2) ∧ M.2.2.2 g 3 = some (g + 3) ∧ M.2.2.2 g 4 = some (g + 4)
def FV_ (M : Mm) (g : Nat) (F : Nat → Nat) : Prop := FOK F ∧ M.2.1 g 0 = nI (F 0) ∧ ∀ h, h < 24 → M.2.1 (g + 1) h = nI (F (1 + h))
def FW (M : Mm) (g : Nat) (F : Nat → Nat) : Prop := KM M.1 M.2.2.2 ∧ FT_ M g ∧ FV_ M g F ∧ g < 1000000
def sF (F : Nat → Nat) (a : Nat) : Nat → Nat
  | 0 => 0
  | m + 1 => sF F a m + F (1 + (a + m))
theorem sF_le {F : Nat → Nat} (hF : FOK F) {a : Nat} : ∀ m, a + m ≤ 24 → sF F a m ≤ m * 99
  | 0, _ => by simp [sF]
  | m + 1, h => by
    have h1 := sF_le hF (a := a) m (by omega)
    have h2 := hF.2 (a + m) (by omega)
    rw [sF, Nat.succ_mul]
    omega
theorem sF_mono (F : Nat → Nat) (a : Nat) : ∀ {m n}, m ≤ n → sF F a m ≤ sF F a n := by
  intro m n h
  induction h with
  | refl => exact Nat.le_refl _
  | step _ ih => exact Nat.le_trans ih (Nat.le_add_right _ _)
def rsF (F : Nat → Nat) : Nat → Nat
  | 0 => 0
  | i + 1 => if F (1 + rsF F i) < F (1 + (i + 1)) then i + 1 else rsF F i
theorem rsF_le (F : Nat → Nat) : ∀ i, rsF F i ≤ i
  | 0 => Nat.le_refl _
  | i + 1 => by
    have := rsF_le F i
    rw [rsF]
    split <;> omega
def wnB (F : Nat → Nat) (m : Nat) : Nat → Bool
  | 0 => true
  | i + 1 => wnB F m i && decide (F 0 ≤ sF F i m)
theorem wnB_f {F : Nat → Nat} {m i : Nat} (h : ¬ wnB F m i = true) : ∀ {j}, i ≤ j → ¬ wnB F m j = true := by
  intro j hj
  induction hj with
  | refl => exact h
  | step _ ih => exact fun q => ih (band.mp q).1
def luF (F : Nat → Nat) : Nat → Nat × Nat
  | 0 => (0, 0)
  | h + 1 => (max (luF F h).1 (if F (1 + h) = 0 then (luF F h).2 + 1 else 0), if F (1 + h) = 0 then (luF F h).2 + 1 else 0)
theorem luF_le (F : Nat → Nat) : ∀ h, (luF F h).1 ≤ h ∧ (luF F h).2 ≤ h
  | 0 => ⟨Nat.le_refl _, Nat.le_refl _⟩
  | h + 1 => by
    have := luF_le F h
    rw [luF]
    dsimp only
    split <;> omega
def hfB (F : Nat → Nat) (h : Nat) : Bool := decide (sF F 0 24 ≤ 2 * sF F 0 (h + 1))
def flF (F : Nat → Nat) (x : Int32) : Int32 := if x.toInt = 0 then nI (F 0) else if x.toInt = 1 then nI (rsF F 23) else if x.toInt = 2 then oI (leastF (fun m => wnB F m (25 - m)) 24 1) else if x.toInt = 3 then nI (luF F 24).1 else if x.toInt = 4 then nI (sF F 0 24) else if x.toInt = 5 then oI (leastF (hfB F) 24 0) else if 10 ≤ x.toInt ∧ x.toInt < 34 then nI (F (1 + (x.toInt.toNat - 10))) else zI (-1)
theorem sw6 (x : Int32) : x = nI 0 ∨ x = nI 1 ∨ x = nI 2 ∨ x = nI 3 ∨ x = nI 4 ∨ x = nI 5 ∨ (x.toInt < 0 ∨ 5 < x.toInt) := by
  by_cases h : 0 ≤ x.toInt ∧ x.toInt < ((6 : Nat) : Int)
  · obtain ⟨c, hc, rfl⟩ := i_nat h.1 h.2
    rcases (show c = 0 ∨ c = 1 ∨ c = 2 ∨ c = 3 ∨ c = 4 ∨ c = 5 by omega) with rfl | rfl | rfl | rfl | rfl | rfl
    · exact Or.inl rfl
    · exact Or.inr (Or.inl rfl)
    · exact Or.inr (Or.inr (Or.inl rfl))
    · exact Or.inr (Or.inr (Or.inr (Or.inl rfl)))
    · exact Or.inr (Or.inr (Or.inr (Or.inr (Or.inl rfl))))
    · exact Or.inr (Or.inr (Or.inr (Or.inr (Or.inr (Or.inl rfl)))))
  · exact Or.inr (Or.inr (Or.inr (Or.inr (Or.inr (Or.inr (by omega))))))
theorem flF_d {F : Nat → Nat} {x : Int32} (h : x.toInt < 0 ∨ 5 < x.toInt) : flF F x = if 10 ≤ x.toInt ∧ x.toInt < 34 then nI (F (1 + (x.toInt.toNat - 10))) else zI (-1) := by
  unfold flF
  rw [if_neg (by omega), if_neg (by omega), if_neg (by omega), if_neg (by omega), if_neg (by omega), if_neg (by omega)]
section CFL
variable {C : Ct} {M : Mm} {g : Nat} {F : Nat → Nat} {x : Int32}
theorem f_sum {a b : Nat} (W : FW M g F) (h1 : a ≤ b) (h2 : b ≤ 24) : CG C 36 [.ref g, .int (nI a), .int (nI b)] M (fun w M' => w = some (.int (nI (sF F a (b - a)))) ∧ M' = M) := by
  have hK := W.1
  obtain ⟨⟨t0, t1, t2, t3, t4⟩, r1, r2, r3, r4⟩ := W.2.1
  obtain ⟨hFO, v0, q1⟩ := W.2.2.1
  have hg := W.2.2.2
  have hn1 := hFO.1
  have hc9 := hFO.2
  have loop : ∀ m, m ≤ b - a → G C 36 (9, [some (.ref g), some (.int (nI a)), some (.int (nI b)), some (.int (nI (sF F a m))), some (.int (nI (a + m)))], [], [], M) (fun w M' => w = some (.int (nI (sF F a (b - a)))) ∧ M' = M) := by
    refine upto (fun m hm ih => ?_)
    refine G_S (pc := 9) f_36_9 rfl rfl rfl ?_
    refine G_S (pc := 11) f_36_11 rfl rfl rfl ?_
    refine G_jgeZ (pc := 12) f_36_12 rfl (by first | exact nI_toInt (by omega) | exact zI_toInt (by omega) (by omega) | rfl) (by first | exact nI_toInt (by omega) | exact zI_toInt (by omega) (by omega) | rfl) (fun b1 => ?_) (fun b1 => ?_)
    · refine G_S (pc := 38) f_36_38 rfl rfl rfl ?_
      refine G_ri (pc := 39) f_36_39 ?_
      rw [show m = b - a by omega]
      exact ⟨rfl, rfl⟩
    · refine G_S (pc := 15) f_36_15 rfl rfl rfl ?_
      refine G_bi (v := nI 24) (pc := 17) f_36_17 (by decide) ?_
      refine G_jgeZ (pc := 19) f_36_19 rfl (by first | exact nI_toInt (by omega) | exact zI_toInt (by omega) (by omega) | rfl) (by first | exact nI_toInt (by omega) | exact zI_toInt (by omega) (by omega) | rfl) (fun b2 => ?_) (fun b2 => ?_)
      · exfalso; omega
      · refine G_S (pc := 22) f_36_22 rfl rfl rfl ?_
        refine G_S (pc := 23) f_36_23 rfl rfl rfl ?_
        refine G_gR (pc := 24) f_36_24 (by decide) rfl (by first | assumption | exact hK.1 _ _ rfl) (by first | assumption | exact hK.2 _ _ _ rfl | (try dsimp only) <;> (repeat (first | exact up2_s | refine up2_o (by first | decide | omega) ?_)) <;> first | assumption | exact hK.2 _ _ _ rfl) ?_
        refine G_S (pc := 27) f_36_27 rfl rfl rfl ?_
        refine G_iaN (pc := 29) f_36_29 (by first | assumption | exact hK.1 _ _ rfl) (by omega) (by omega) (by first | assumption | exact q1 _ (by omega) | exact q2 _ (by omega) | exact q3 _ (by omega) | exact q4 _ (by omega) | exact q5 _ (by omega) | exact vh _ (by omega) | exact (vr _ (by omega)).1 | exact (vr _ (by omega)).2 | exact vw _ (by omega) | exact vf _ (by omega) (by omega) | rfl) ?_
        first | refine G_addN (pc := 30) f_36_30 ?_ | refine G_addZ (pc := 30) f_36_30 (by first | rfl | exact nI_zI _) (by first | rfl | exact nI_zI _) ?_ | refine G_S (pc := 30) f_36_30 rfl rfl rfl ?_
        refine G_S (pc := 31) f_36_31 rfl rfl rfl ?_
        first | refine G_inc1 (pc := 32) f_36_32 rfl ?_ | refine G_S (pc := 32) f_36_32 rfl rfl rfl ?_
        refine G_S (pc := 35) f_36_35 rfl rfl rfl ?_
        exact ih (by omega)
  refine CG_in (mL := 5) (hl := false) (lv := [some (.ref g), some (.int (nI a)), some (.int (nI b)), none, none]) (ll := []) rfl rfl rfl ?_
  refine G_ic (v := nI 0) (pc := 0) f_36_0 (by decide) ?_
  refine G_S (pc := 1) f_36_1 rfl rfl rfl ?_
  refine G_ic (v := nI 0) (pc := 2) f_36_2 (by decide) ?_
  refine G_S (pc := 3) f_36_3 rfl rfl rfl ?_
  first | refine G_maxN (pc := 4) f_36_4 rfl rfl (by omega) (by omega) ?_ | refine G_maxZ (pc := 4) f_36_4 rfl rfl (by first | exact nI_toInt (by omega) | exact zI_toInt (by omega) (by omega) | rfl) (by first | exact nI_toInt (by omega) | exact zI_toInt (by omega) (by omega) | rfl) ?_
  refine G_S (pc := 7) f_36_7 rfl rfl rfl ?_
  rw [show max 0 a = a by omega]
  exact loop 0 (Nat.zero_le _)
theorem f_rush (W : FW M g F) : CG C 37 [.ref g] M (fun w M' => w = some (.int (nI (rsF F 23))) ∧ M' = M) := by
  have hK := W.1
  obtain ⟨⟨t0, t1, t2, t3, t4⟩, r1, r2, r3, r4⟩ := W.2.1
  obtain ⟨hFO, v0, q1⟩ := W.2.2.1
  have hg := W.2.2.2
  have hn1 := hFO.1
  have hc9 := hFO.2
  have loop : ∀ i, i ≤ 23 → G C 37 (4, [some (.ref g), some (.int (nI (rsF F i))), some (.int (nI (i + 1)))], [], [], M) (fun w M' => w = some (.int (nI (rsF F 23))) ∧ M' = M) := by
    refine upto (fun i hi ih => ?_)
    have hr := rsF_le F i
    have h1 := hc9 (rsF F i) (by omega)
    have h2 : i < 23 → F (1 + (i + 1)) ≤ 99 := fun q => hc9 (i + 1) (by omega)
    refine G_S (pc := 4) f_37_4 rfl rfl rfl ?_
    refine G_bi (v := nI 24) (pc := 5) f_37_5 (by decide) ?_
    refine G_jgeZ (pc := 7) f_37_7 rfl (by first | exact nI_toInt (by omega) | exact zI_toInt (by omega) (by omega) | rfl) (by first | exact nI_toInt (by omega) | exact zI_toInt (by omega) (by omega) | rfl) (fun b1 => ?_) (fun b1 => ?_)
    · refine G_S (pc := 33) f_37_33 rfl rfl rfl ?_
      refine G_ri (pc := 34) f_37_34 ?_
      rw [show i = 23 by omega]
      exact ⟨rfl, rfl⟩
    · have h2 := h2 (by omega)
      refine G_S (pc := 10) f_37_10 rfl rfl rfl ?_
      refine G_gR (pc := 11) f_37_11 (by decide) rfl (by first | assumption | exact hK.1 _ _ rfl) (by first | assumption | exact hK.2 _ _ _ rfl | (try dsimp only) <;> (repeat (first | exact up2_s | refine up2_o (by first | decide | omega) ?_)) <;> first | assumption | exact hK.2 _ _ _ rfl) ?_
      refine G_S (pc := 14) f_37_14 rfl rfl rfl ?_
      refine G_iaN (pc := 15) f_37_15 (by first | assumption | exact hK.1 _ _ rfl) (by omega) (by omega) (by first | assumption | exact q1 _ (by omega) | exact q2 _ (by omega) | exact q3 _ (by omega) | exact q4 _ (by omega) | exact q5 _ (by omega) | exact vh _ (by omega) | exact (vr _ (by omega)).1 | exact (vr _ (by omega)).2 | exact vw _ (by omega) | exact vf _ (by omega) (by omega) | rfl) ?_
      refine G_S (pc := 16) f_37_16 rfl rfl rfl ?_
      refine G_gR (pc := 17) f_37_17 (by decide) rfl (by first | assumption | exact hK.1 _ _ rfl) (by first | assumption | exact hK.2 _ _ _ rfl | (try dsimp only) <;> (repeat (first | exact up2_s | refine up2_o (by first | decide | omega) ?_)) <;> first | assumption | exact hK.2 _ _ _ rfl) ?_
      refine G_S (pc := 20) f_37_20 rfl rfl rfl ?_
      refine G_iaN (pc := 21) f_37_21 (by first | assumption | exact hK.1 _ _ rfl) (by omega) (by omega) (by first | assumption | exact q1 _ (by omega) | exact q2 _ (by omega) | exact q3 _ (by omega) | exact q4 _ (by omega) | exact q5 _ (by omega) | exact vh _ (by omega) | exact (vr _ (by omega)).1 | exact (vr _ (by omega)).2 | exact vw _ (by omega) | exact vf _ (by omega) (by omega) | rfl) ?_
      refine G_jleZ (pc := 22) f_37_22 rfl (by first | exact nI_toInt (by omega) | exact zI_toInt (by omega) (by omega) | rfl) (by first | exact nI_toInt (by omega) | exact zI_toInt (by omega) (by omega) | rfl) (fun b2 => ?_) (fun b2 => ?_)
      · first | refine G_inc1 (pc := 27) f_37_27 rfl ?_ | refine G_S (pc := 27) f_37_27 rfl rfl rfl ?_
        refine G_S (pc := 30) f_37_30 rfl rfl rfl ?_
        have e := ih (by omega)
        first
          | (rw [rsF, if_pos (by omega)] at e; exact e)
          | (rw [rsF, if_neg (by omega)] at e; exact e)
      · refine G_S (pc := 25) f_37_25 rfl rfl rfl ?_
        refine G_S (pc := 26) f_37_26 rfl rfl rfl ?_
        first | refine G_inc1 (pc := 27) f_37_27 rfl ?_ | refine G_S (pc := 27) f_37_27 rfl rfl rfl ?_
        refine G_S (pc := 30) f_37_30 rfl rfl rfl ?_
        have e := ih (by omega)
        first
          | (rw [rsF, if_pos (by omega)] at e; exact e)
          | (rw [rsF, if_neg (by omega)] at e; exact e)
  refine CG_in (mL := 3) (hl := false) (lv := [some (.ref g), none, none]) (ll := []) rfl rfl rfl ?_
  refine G_ic (v := nI 0) (pc := 0) f_37_0 (by decide) ?_
  refine G_S (pc := 1) f_37_1 rfl rfl rfl ?_
  refine G_ic (v := nI 1) (pc := 2) f_37_2 (by decide) ?_
  refine G_S (pc := 3) f_37_3 rfl rfl rfl ?_
  exact loop 0 (Nat.zero_le _)
theorem f_isSteady {m : Nat} (W : FW M g F) (h1 : 1 ≤ m) (h2 : m ≤ 24) : CG C 39 [.ref g, .int (nI m)] M (fun w M' => w = some (.int (b2i (wnB F m (25 - m) = true))) ∧ M' = M) := by
  have hK := W.1
  obtain ⟨⟨t0, t1, t2, t3, t4⟩, r1, r2, r3, r4⟩ := W.2.1
  obtain ⟨hFO, v0, q1⟩ := W.2.2.1
  have hg := W.2.2.2
  have hn1 := hFO.1
  have hc9 := hFO.2
  have loop : ∀ i, i ≤ 25 - m → wnB F m i = true → G C 39 (2, [some (.ref g), some (.int (nI m)), some (.int (nI i))], [], [], M) (fun w M' => w = some (.int (b2i (wnB F m (25 - m) = true))) ∧ M' = M) := by
    refine upto (fun i hi ih hw => ?_)
    have hs : i + m ≤ 24 → sF F i m ≤ m * 99 := fun q => sF_le hFO m q
    have em : i + m - i = m := by omega
    refine G_S (pc := 2) f_39_2 rfl rfl rfl ?_
    refine G_bi (v := nI 24) (pc := 3) f_39_3 (by decide) ?_
    refine G_S (pc := 5) f_39_5 rfl rfl rfl ?_
    first | refine G_subN (pc := 6) f_39_6 (by omega) ?_ | refine G_subZ (pc := 6) f_39_6 (by first | rfl | exact nI_zI _) (by first | rfl | exact nI_zI _) ?_ | refine G_S (pc := 6) f_39_6 rfl rfl rfl ?_
    refine G_jgtZ (pc := 7) f_39_7 rfl (by first | exact nI_toInt (by omega) | exact zI_toInt (by omega) (by omega) | rfl) (by first | exact nI_toInt (by omega) | exact zI_toInt (by omega) (by omega) | rfl) (fun b1 => ?_) (fun b1 => ?_)
    · refine G_ic (v := nI 1) (pc := 33) f_39_33 (by decide) ?_
      refine G_rz (pc := 34) f_39_34 (by first | exact Or.inl rfl | exact Or.inr rfl | exact b2i_01 _ | assumption) ?_
      refine ⟨?_, rfl⟩
      congr 2
      first
        | (rw [show i = 25 - m by omega] at hw
           exact (b2i_1 hw).symm)
        | exact (b2i_0 (wnB_f (i := i + 1) (fun q => by have := of_decide_eq_true (band.mp q).2; omega) (by omega))).symm
    · have hs := hs (by omega)
      refine G_S (pc := 10) f_39_10 rfl rfl rfl ?_
      refine G_S (pc := 11) f_39_11 rfl rfl rfl ?_
      refine G_S (pc := 12) f_39_12 rfl rfl rfl ?_
      refine G_S (pc := 13) f_39_13 rfl rfl rfl ?_
      first | refine G_addN (pc := 14) f_39_14 ?_ | refine G_addZ (pc := 14) f_39_14 (by first | rfl | exact nI_zI _) (by first | rfl | exact nI_zI _) ?_ | refine G_S (pc := 14) f_39_14 rfl rfl rfl ?_
      refine G_CV (pc := 15) f_39_15 rfl rfl (by decide) rfl rfl (by first | assumption | exact hK.1 _ _ rfl) (by decide) ⟨Nat.le_of_ble_eq_true rfl, Nat.le_of_ble_eq_true rfl⟩ ?_
      refine CG.go ((by rw [show sF F i m = sF F i (i + m - i) by rw [em]] at *; exact f_sum W (by omega) (by omega))) ?_
      refine G_S (pc := 18) f_39_18 rfl rfl rfl ?_
      refine G_gIv (pc := 19) f_39_19 (by decide) rfl (by decide) (by first | assumption | exact hK.1 _ _ rfl) (by first | assumption | (try dsimp only) <;> (repeat (first | exact up2_s | refine up2_o (by first | decide | omega) ?_)) <;> first | assumption | rfl) ?_
      rw [em]
      refine G_jgeZ (pc := 22) f_39_22 rfl (by first | exact nI_toInt (by omega) | exact zI_toInt (by omega) (by omega) | rfl) (by first | exact nI_toInt (by omega) | exact zI_toInt (by omega) (by omega) | rfl) (fun b2 => ?_) (fun b2 => ?_)
      · first | refine G_inc1 (pc := 27) f_39_27 rfl ?_ | refine G_S (pc := 27) f_39_27 rfl rfl rfl ?_
        refine G_S (pc := 30) f_39_30 rfl rfl rfl ?_
        exact ih (by omega) (band.mpr ⟨hw, decide_eq_true (by omega)⟩)
      · refine G_ic (v := nI 0) (pc := 25) f_39_25 (by decide) ?_
        refine G_rz (pc := 26) f_39_26 (by first | exact Or.inl rfl | exact Or.inr rfl | exact b2i_01 _ | assumption) ?_
        refine ⟨?_, rfl⟩
        congr 2
        first
          | (rw [show i = 25 - m by omega] at hw
             exact (b2i_1 hw).symm)
          | exact (b2i_0 (wnB_f (i := i + 1) (fun q => by have := of_decide_eq_true (band.mp q).2; omega) (by omega))).symm
  refine CG_in (mL := 3) (hl := false) (lv := [some (.ref g), some (.int (nI m)), none]) (ll := []) rfl rfl rfl ?_
  refine G_ic (v := nI 0) (pc := 0) f_39_0 (by decide) ?_
  refine G_S (pc := 1) f_39_1 rfl rfl rfl ?_
  exact loop 0 (Nat.zero_le _) rfl
theorem f_steady (W : FW M g F) : CG C 38 [.ref g] M (fun w M' => w = some (.int (oI (leastF (fun m => wnB F m (25 - m)) 24 1))) ∧ M' = M) := by
  have hK := W.1
  obtain ⟨⟨t0, t1, t2, t3, t4⟩, r1, r2, r3, r4⟩ := W.2.1
  obtain ⟨hFO, v0, q1⟩ := W.2.2.1
  have hg := W.2.2.2
  have hn1 := hFO.1
  have hc9 := hFO.2
  have loop : ∀ d m, m + d = 25 → 1 ≤ m → G C 38 (2, [some (.ref g), some (.int (nI m))], [], [], M) (fun w M' => w = some (.int (oI (leastF (fun m => wnB F m (25 - m)) d m))) ∧ M' = M) := by
    intro d
    induction d with
    | zero =>
      intro m hm h1
      refine G_S (pc := 2) f_38_2 rfl rfl rfl ?_
      refine G_bi (v := nI 24) (pc := 3) f_38_3 (by decide) ?_
      refine G_jgtZ (pc := 5) f_38_5 rfl (by first | exact nI_toInt (by omega) | exact zI_toInt (by omega) (by omega) | rfl) (by first | exact nI_toInt (by omega) | exact zI_toInt (by omega) (by omega) | rfl) (fun b1 => ?_) (fun b1 => ?_)
      · refine G_ic (v := zI (-1)) (pc := 24) f_38_24 (by decide) ?_
        refine G_ri (pc := 25) f_38_25 ?_
        exact ⟨rfl, rfl⟩
      · exfalso; omega
    | succ d ih =>
      intro m hm h1
      refine G_S (pc := 2) f_38_2 rfl rfl rfl ?_
      refine G_bi (v := nI 24) (pc := 3) f_38_3 (by decide) ?_
      refine G_jgtZ (pc := 5) f_38_5 rfl (by first | exact nI_toInt (by omega) | exact zI_toInt (by omega) (by omega) | rfl) (by first | exact nI_toInt (by omega) | exact zI_toInt (by omega) (by omega) | rfl) (fun b1 => ?_) (fun b1 => ?_)
      · exfalso; omega
      · refine G_S (pc := 8) f_38_8 rfl rfl rfl ?_
        refine G_S (pc := 9) f_38_9 rfl rfl rfl ?_
        refine G_CV (pc := 10) f_38_10 rfl rfl (by decide) rfl rfl (by first | assumption | exact hK.1 _ _ rfl) (by decide) ⟨Nat.le_of_ble_eq_true rfl, Nat.le_of_ble_eq_true rfl⟩ ?_
        refine CG.go (f_isSteady W (by omega) (by omega)) ?_
        first | refine G_bEq (pc := 13) f_38_13 rfl (fun b2 => ?_) (fun b2 => ?_) | refine G_zeqZ (pc := 13) f_38_13 rfl (by first | exact nI_toInt (by omega) | exact zI_toInt (by omega) (by omega) | rfl) (fun b2 => ?_) (fun b2 => ?_)
        · first | refine G_inc1 (pc := 18) f_38_18 rfl ?_ | refine G_S (pc := 18) f_38_18 rfl rfl rfl ?_
          refine G_S (pc := 21) f_38_21 rfl rfl rfl ?_
          have e := ih (m + 1) (by omega) (by omega)
          rw [leastF, if_neg b2]
          exact e
        · refine G_S (pc := 16) f_38_16 rfl rfl rfl ?_
          refine G_ri (pc := 17) f_38_17 ?_
          rw [leastF, if_pos b2]
          exact ⟨rfl, rfl⟩
  refine CG_in (mL := 2) (hl := false) (lv := [some (.ref g), none]) (ll := []) rfl rfl rfl ?_
  refine G_ic (v := nI 1) (pc := 0) f_38_0 (by decide) ?_
  refine G_S (pc := 1) f_38_1 rfl rfl rfl ?_
  exact loop 24 1 rfl (by omega)
theorem f_lull (W : FW M g F) : CG C 40 [.ref g] M (fun w M' => w = some (.int (nI (luF F 24).1)) ∧ M' = M) := by
  have hK := W.1
  obtain ⟨⟨t0, t1, t2, t3, t4⟩, r1, r2, r3, r4⟩ := W.2.1
  obtain ⟨hFO, v0, q1⟩ := W.2.2.1
  have hg := W.2.2.2
  have hn1 := hFO.1
  have hc9 := hFO.2
  have loop : ∀ i, i ≤ 24 → G C 40 (6, [some (.ref g), some (.int (nI (((luF F i).1)))), some (.int (nI (((luF F i).2)))), some (.int (nI i))], [], [], M) (fun w M' => w = some (.int (nI (luF F 24).1)) ∧ M' = M) := by
    refine upto (fun i hi ih => ?_)
    have hl := luF_le F i
    have h2 : i < 24 → F (1 + i) ≤ 99 := fun q => hc9 i q
    refine G_S (pc := 6) f_40_6 rfl rfl rfl ?_
    refine G_bi (v := nI 24) (pc := 7) f_40_7 (by decide) ?_
    refine G_jgeZ (pc := 9) f_40_9 rfl (by first | exact nI_toInt (by omega) | exact zI_toInt (by omega) (by omega) | rfl) (by first | exact nI_toInt (by omega) | exact zI_toInt (by omega) (by omega) | rfl) (fun b1 => ?_) (fun b1 => ?_)
    · refine G_S (pc := 41) f_40_41 rfl rfl rfl ?_
      refine G_ri (pc := 42) f_40_42 ?_
      rw [show i = 24 by omega]
      exact ⟨rfl, rfl⟩
    · have h2 := h2 (by omega)
      refine G_S (pc := 12) f_40_12 rfl rfl rfl ?_
      refine G_gR (pc := 13) f_40_13 (by decide) rfl (by first | assumption | exact hK.1 _ _ rfl) (by first | assumption | exact hK.2 _ _ _ rfl | (try dsimp only) <;> (repeat (first | exact up2_s | refine up2_o (by first | decide | omega) ?_)) <;> first | assumption | exact hK.2 _ _ _ rfl) ?_
      refine G_S (pc := 16) f_40_16 rfl rfl rfl ?_
      refine G_iaN (pc := 17) f_40_17 (by first | assumption | exact hK.1 _ _ rfl) (by omega) (by omega) (by first | assumption | exact q1 _ (by omega) | exact q2 _ (by omega) | exact q3 _ (by omega) | exact q4 _ (by omega) | exact q5 _ (by omega) | exact vh _ (by omega) | exact (vr _ (by omega)).1 | exact (vr _ (by omega)).2 | exact vw _ (by omega) | exact vf _ (by omega) (by omega) | rfl) ?_
      first | refine G_bNe (pc := 18) f_40_18 rfl (fun b2 => ?_) (fun b2 => ?_) | refine G_zneZ (pc := 18) f_40_18 rfl (by first | exact nI_toInt (by omega) | exact zI_toInt (by omega) (by omega) | rfl) (fun b2 => ?_) (fun b2 => ?_)
      · refine G_ic (v := nI 0) (pc := 27) f_40_27 (by decide) ?_
        refine G_S (pc := 28) f_40_28 rfl rfl rfl ?_
        refine G_S (pc := 29) f_40_29 rfl rfl rfl ?_
        refine G_S (pc := 30) f_40_30 rfl rfl rfl ?_
        first | refine G_maxN (pc := 31) f_40_31 rfl rfl (by omega) (by omega) ?_ | refine G_maxZ (pc := 31) f_40_31 rfl rfl (by first | exact nI_toInt (by omega) | exact zI_toInt (by omega) (by omega) | rfl) (by first | exact nI_toInt (by omega) | exact zI_toInt (by omega) (by omega) | rfl) ?_
        refine G_S (pc := 34) f_40_34 rfl rfl rfl ?_
        first | refine G_inc1 (pc := 35) f_40_35 rfl ?_ | refine G_S (pc := 35) f_40_35 rfl rfl rfl ?_
        refine G_S (pc := 38) f_40_38 rfl rfl rfl ?_
        have e := ih (by omega)
        first
          | (rw [luF, if_pos (by omega)] at e; exact e)
          | (rw [luF, if_neg (by omega)] at e; exact e)
      · refine G_S (pc := 21) f_40_21 rfl rfl rfl ?_
        refine G_ic (v := nI 1) (pc := 22) f_40_22 (by decide) ?_
        first | refine G_addN (pc := 23) f_40_23 ?_ | refine G_addZ (pc := 23) f_40_23 (by first | rfl | exact nI_zI _) (by first | rfl | exact nI_zI _) ?_ | refine G_S (pc := 23) f_40_23 rfl rfl rfl ?_
        refine G_S (pc := 24) f_40_24 rfl rfl rfl ?_
        refine G_S (pc := 28) f_40_28 rfl rfl rfl ?_
        refine G_S (pc := 29) f_40_29 rfl rfl rfl ?_
        refine G_S (pc := 30) f_40_30 rfl rfl rfl ?_
        first | refine G_maxN (pc := 31) f_40_31 rfl rfl (by omega) (by omega) ?_ | refine G_maxZ (pc := 31) f_40_31 rfl rfl (by first | exact nI_toInt (by omega) | exact zI_toInt (by omega) (by omega) | rfl) (by first | exact nI_toInt (by omega) | exact zI_toInt (by omega) (by omega) | rfl) ?_
        refine G_S (pc := 34) f_40_34 rfl rfl rfl ?_
        first | refine G_inc1 (pc := 35) f_40_35 rfl ?_ | refine G_S (pc := 35) f_40_35 rfl rfl rfl ?_
        refine G_S (pc := 38) f_40_38 rfl rfl rfl ?_
        have e := ih (by omega)
        first
          | (rw [luF, if_pos (by omega)] at e; exact e)
          | (rw [luF, if_neg (by omega)] at e; exact e)
  refine CG_in (mL := 4) (hl := false) (lv := [some (.ref g), none, none, none]) (ll := []) rfl rfl rfl ?_
  refine G_ic (v := nI 0) (pc := 0) f_40_0 (by decide) ?_
  refine G_S (pc := 1) f_40_1 rfl rfl rfl ?_
  refine G_ic (v := nI 0) (pc := 2) f_40_2 (by decide) ?_
  refine G_S (pc := 3) f_40_3 rfl rfl rfl ?_
  refine G_ic (v := nI 0) (pc := 4) f_40_4 (by decide) ?_
  refine G_S (pc := 5) f_40_5 rfl rfl rfl ?_
  exact loop 0 (Nat.zero_le _)
theorem f_half (W : FW M g F) : CG C 41 [.ref g] M (fun w M' => w = some (.int (oI (leastF (hfB F) 24 0))) ∧ M' = M) := by
  have hK := W.1
  obtain ⟨⟨t0, t1, t2, t3, t4⟩, r1, r2, r3, r4⟩ := W.2.1
  obtain ⟨hFO, v0, q1⟩ := W.2.2.1
  have hg := W.2.2.2
  have hn1 := hFO.1
  have hc9 := hFO.2
  have hday := sF_le hFO (a := 0) 24 (by omega)
  have loop : ∀ d m, m + d = 24 → G C 41 (10, [some (.ref g), some (.int (nI (sF F 0 24))), some (.int (nI m))], [], [], M) (fun w M' => w = some (.int (oI (leastF (hfB F) d m))) ∧ M' = M) := by
    intro d
    induction d with
    | zero =>
      intro m hm
      refine G_S (pc := 10) f_41_10 rfl rfl rfl ?_
      refine G_bi (v := nI 24) (pc := 11) f_41_11 (by decide) ?_
      refine G_jgeZ (pc := 13) f_41_13 rfl (by first | exact nI_toInt (by omega) | exact zI_toInt (by omega) (by omega) | rfl) (by first | exact nI_toInt (by omega) | exact zI_toInt (by omega) (by omega) | rfl) (fun b1 => ?_) (fun b1 => ?_)
      · refine G_ic (v := zI (-1)) (pc := 38) f_41_38 (by decide) ?_
        refine G_ri (pc := 39) f_41_39 ?_
        exact ⟨rfl, rfl⟩
      · exfalso; omega
    | succ d ih =>
      intro m hm
      have hs := sF_le hFO (a := 0) (m + 1) (by omega)
      refine G_S (pc := 10) f_41_10 rfl rfl rfl ?_
      refine G_bi (v := nI 24) (pc := 11) f_41_11 (by decide) ?_
      refine G_jgeZ (pc := 13) f_41_13 rfl (by first | exact nI_toInt (by omega) | exact zI_toInt (by omega) (by omega) | rfl) (by first | exact nI_toInt (by omega) | exact zI_toInt (by omega) (by omega) | rfl) (fun b1 => ?_) (fun b1 => ?_)
      · exfalso; omega
      · refine G_ic (v := nI 2) (pc := 16) f_41_16 (by decide) ?_
        refine G_S (pc := 17) f_41_17 rfl rfl rfl ?_
        refine G_ic (v := nI 0) (pc := 18) f_41_18 (by decide) ?_
        refine G_S (pc := 19) f_41_19 rfl rfl rfl ?_
        refine G_ic (v := nI 1) (pc := 20) f_41_20 (by decide) ?_
        first | refine G_addN (pc := 21) f_41_21 ?_ | refine G_addZ (pc := 21) f_41_21 (by first | rfl | exact nI_zI _) (by first | rfl | exact nI_zI _) ?_ | refine G_S (pc := 21) f_41_21 rfl rfl rfl ?_
        refine G_CV (pc := 22) f_41_22 rfl rfl (by decide) rfl rfl (by first | assumption | exact hK.1 _ _ rfl) (by decide) ⟨Nat.le_of_ble_eq_true rfl, Nat.le_of_ble_eq_true rfl⟩ ?_
        refine CG.go (f_sum (a := 0) (b := m + 1) W (by omega) (by omega)) ?_
        first | refine G_mulN (pc := 25) f_41_25 ?_ | refine G_mulZ (pc := 25) f_41_25 (by first | rfl | exact nI_zI _) (by first | rfl | exact nI_zI _) ?_ | refine G_S (pc := 25) f_41_25 rfl rfl rfl ?_
        refine G_S (pc := 26) f_41_26 rfl rfl rfl ?_
        rw [Nat.sub_zero]
        refine G_jltZ (pc := 27) f_41_27 rfl (by first | exact nI_toInt (by omega) | exact zI_toInt (by omega) (by omega) | rfl) (by first | exact nI_toInt (by omega) | exact zI_toInt (by omega) (by omega) | rfl) (fun b2 => ?_) (fun b2 => ?_)
        · first | refine G_inc1 (pc := 32) f_41_32 rfl ?_ | refine G_S (pc := 32) f_41_32 rfl rfl rfl ?_
          refine G_S (pc := 35) f_41_35 rfl rfl rfl ?_
          have e := ih (m + 1) (by omega)
          rw [leastF, if_neg (show ¬ hfB F m = true from fun q => by have := of_decide_eq_true q; omega)]
          exact e
        · refine G_S (pc := 30) f_41_30 rfl rfl rfl ?_
          refine G_ri (pc := 31) f_41_31 ?_
          rw [leastF, if_pos (show hfB F m = true from decide_eq_true (by omega))]
          exact ⟨rfl, rfl⟩
  refine CG_in (mL := 3) (hl := false) (lv := [some (.ref g), none, none]) (ll := []) rfl rfl rfl ?_
  refine G_S (pc := 0) f_41_0 rfl rfl rfl ?_
  refine G_ic (v := nI 0) (pc := 1) f_41_1 (by decide) ?_
  refine G_bi (v := nI 24) (pc := 2) f_41_2 (by decide) ?_
  refine G_CV (pc := 4) f_41_4 rfl rfl (by decide) rfl rfl (by first | assumption | exact hK.1 _ _ rfl) (by decide) ⟨Nat.le_of_ble_eq_true rfl, Nat.le_of_ble_eq_true rfl⟩ ?_
  refine CG.go (f_sum (a := 0) (b := 24) W (by omega) (by omega)) ?_
  refine G_S (pc := 7) f_41_7 rfl rfl rfl ?_
  refine G_ic (v := nI 0) (pc := 8) f_41_8 (by decide) ?_
  refine G_S (pc := 9) f_41_9 rfl rfl rfl ?_
  exact loop 24 0 rfl
theorem f_answer (W : FW M g F) : CG C 35 [.ref g, .int x] M (fun w M' => w = some (.int (flF F x)) ∧ M' = M) := by
  have hK := W.1
  obtain ⟨⟨t0, t1, t2, t3, t4⟩, r1, r2, r3, r4⟩ := W.2.1
  obtain ⟨hFO, v0, q1⟩ := W.2.2.1
  have hg := W.2.2.2
  have hn1 := hFO.1
  have hc9 := hFO.2
  refine CG_in (mL := 2) (hl := false) (lv := [some (.ref g), some (.int x)]) (ll := []) rfl rfl rfl ?_
  refine G_S (pc := 0) f_35_0 rfl rfl rfl ?_
  rcases sw6 x with rfl | rfl | rfl | rfl | rfl | rfl | hw
  · refine G_S (pc := 1) f_35_1 rfl rfl rfl ?_
    refine G_S (pc := 40) f_35_40 rfl rfl rfl ?_
    refine G_gIv (pc := 41) f_35_41 (by decide) rfl (by decide) (by first | assumption | exact hK.1 _ _ rfl) (by first | assumption | (try dsimp only) <;> (repeat (first | exact up2_s | refine up2_o (by first | decide | omega) ?_)) <;> first | assumption | rfl) ?_
    refine G_ri (pc := 44) f_35_44 ?_
    first
      | exact ⟨rfl, rfl⟩
      | (rw [flF_d hw]
         first
           | exact ⟨by rw [if_neg (by omega)], rfl⟩
           | exact ⟨by rw [nI_toInt (by omega), Int.toNat_natCast, if_pos (by omega)], rfl⟩)
  · refine G_S (pc := 1) f_35_1 rfl rfl rfl ?_
    refine G_S (pc := 45) f_35_45 rfl rfl rfl ?_
    refine G_CV (pc := 46) f_35_46 rfl rfl (by decide) rfl rfl (by first | assumption | exact hK.1 _ _ rfl) (by decide) ⟨Nat.le_of_ble_eq_true rfl, Nat.le_of_ble_eq_true rfl⟩ ?_
    refine CG.go (f_rush W) ?_
    refine G_ri (pc := 49) f_35_49 ?_
    first
      | exact ⟨rfl, rfl⟩
      | (rw [flF_d hw]
         first
           | exact ⟨by rw [if_neg (by omega)], rfl⟩
           | exact ⟨by rw [nI_toInt (by omega), Int.toNat_natCast, if_pos (by omega)], rfl⟩)
  · refine G_S (pc := 1) f_35_1 rfl rfl rfl ?_
    refine G_S (pc := 50) f_35_50 rfl rfl rfl ?_
    refine G_CV (pc := 51) f_35_51 rfl rfl (by decide) rfl rfl (by first | assumption | exact hK.1 _ _ rfl) (by decide) ⟨Nat.le_of_ble_eq_true rfl, Nat.le_of_ble_eq_true rfl⟩ ?_
    refine CG.go (f_steady W) ?_
    refine G_ri (pc := 54) f_35_54 ?_
    first
      | exact ⟨rfl, rfl⟩
      | (rw [flF_d hw]
         first
           | exact ⟨by rw [if_neg (by omega)], rfl⟩
           | exact ⟨by rw [nI_toInt (by omega), Int.toNat_natCast, if_pos (by omega)], rfl⟩)
  · refine G_S (pc := 1) f_35_1 rfl rfl rfl ?_
    refine G_S (pc := 55) f_35_55 rfl rfl rfl ?_
    refine G_CV (pc := 56) f_35_56 rfl rfl (by decide) rfl rfl (by first | assumption | exact hK.1 _ _ rfl) (by decide) ⟨Nat.le_of_ble_eq_true rfl, Nat.le_of_ble_eq_true rfl⟩ ?_
    refine CG.go (f_lull W) ?_
    refine G_ri (pc := 59) f_35_59 ?_
    first
      | exact ⟨rfl, rfl⟩
      | (rw [flF_d hw]
         first
           | exact ⟨by rw [if_neg (by omega)], rfl⟩
           | exact ⟨by rw [nI_toInt (by omega), Int.toNat_natCast, if_pos (by omega)], rfl⟩)
  · refine G_S (pc := 1) f_35_1 rfl rfl rfl ?_
    refine G_S (pc := 60) f_35_60 rfl rfl rfl ?_
    refine G_ic (v := nI 0) (pc := 61) f_35_61 (by decide) ?_
    refine G_bi (v := nI 24) (pc := 62) f_35_62 (by decide) ?_
    refine G_CV (pc := 64) f_35_64 rfl rfl (by decide) rfl rfl (by first | assumption | exact hK.1 _ _ rfl) (by decide) ⟨Nat.le_of_ble_eq_true rfl, Nat.le_of_ble_eq_true rfl⟩ ?_
    refine CG.go (f_sum (a := 0) (b := 24) W (by omega) (by omega)) ?_
    refine G_ri (pc := 67) f_35_67 ?_
    first
      | exact ⟨rfl, rfl⟩
      | (rw [flF_d hw]
         first
           | exact ⟨by rw [if_neg (by omega)], rfl⟩
           | exact ⟨by rw [nI_toInt (by omega), Int.toNat_natCast, if_pos (by omega)], rfl⟩)
  · refine G_S (pc := 1) f_35_1 rfl rfl rfl ?_
    refine G_S (pc := 68) f_35_68 rfl rfl rfl ?_
    refine G_CV (pc := 69) f_35_69 rfl rfl (by decide) rfl rfl (by first | assumption | exact hK.1 _ _ rfl) (by decide) ⟨Nat.le_of_ble_eq_true rfl, Nat.le_of_ble_eq_true rfl⟩ ?_
    refine CG.go (f_half W) ?_
    refine G_ri (pc := 72) f_35_72 ?_
    first
      | exact ⟨rfl, rfl⟩
      | (rw [flF_d hw]
         first
           | exact ⟨by rw [if_neg (by omega)], rfl⟩
           | exact ⟨by rw [nI_toInt (by omega), Int.toNat_natCast, if_pos (by omega)], rfl⟩)
  · refine G_tsO (pc := 1) f_35_1 rfl (hw) ?_
    refine G_S (pc := 73) f_35_73 rfl rfl rfl ?_
    refine G_bi (v := nI 10) (pc := 74) f_35_74 (by decide) ?_
    refine G_jltZ (pc := 76) f_35_76 rfl (by first | exact nI_toInt (by omega) | exact zI_toInt (by omega) (by omega) | rfl) (by first | exact nI_toInt (by omega) | exact zI_toInt (by omega) (by omega) | rfl) (fun b1 => ?_) (fun b1 => ?_)
    · refine G_ic (v := zI (-1)) (pc := 97) f_35_97 (by decide) ?_
      refine G_ri (pc := 98) f_35_98 ?_
      first
        | exact ⟨rfl, rfl⟩
        | (rw [flF_d hw]
           first
             | exact ⟨by rw [if_neg (by omega)], rfl⟩
             | exact ⟨by rw [nI_toInt (by omega), Int.toNat_natCast, if_pos (by omega)], rfl⟩)
    · refine G_S (pc := 79) f_35_79 rfl rfl rfl ?_
      refine G_bi (v := nI 34) (pc := 80) f_35_80 (by decide) ?_
      refine G_jgeZ (pc := 82) f_35_82 rfl (by first | exact nI_toInt (by omega) | exact zI_toInt (by omega) (by omega) | rfl) (by first | exact nI_toInt (by omega) | exact zI_toInt (by omega) (by omega) | rfl) (fun b2 => ?_) (fun b2 => ?_)
      · refine G_ic (v := zI (-1)) (pc := 97) f_35_97 (by decide) ?_
        refine G_ri (pc := 98) f_35_98 ?_
        first
          | exact ⟨rfl, rfl⟩
          | (rw [flF_d hw]
             first
               | exact ⟨by rw [if_neg (by omega)], rfl⟩
               | exact ⟨by rw [nI_toInt (by omega), Int.toNat_natCast, if_pos (by omega)], rfl⟩)
      · obtain ⟨c, hc, rfl⟩ := i_nat (x := x) (n := 34) (by omega) (by omega)
        rw [nI_toInt (by omega)] at b1
        refine G_S (pc := 85) f_35_85 rfl rfl rfl ?_
        refine G_gR (pc := 86) f_35_86 (by decide) rfl (by first | assumption | exact hK.1 _ _ rfl) (by first | assumption | exact hK.2 _ _ _ rfl | (try dsimp only) <;> (repeat (first | exact up2_s | refine up2_o (by first | decide | omega) ?_)) <;> first | assumption | exact hK.2 _ _ _ rfl) ?_
        refine G_S (pc := 89) f_35_89 rfl rfl rfl ?_
        refine G_bi (v := nI 10) (pc := 90) f_35_90 (by decide) ?_
        first | refine G_subN (pc := 92) f_35_92 (by omega) ?_ | refine G_subZ (pc := 92) f_35_92 (by first | rfl | exact nI_zI _) (by first | rfl | exact nI_zI _) ?_ | refine G_S (pc := 92) f_35_92 rfl rfl rfl ?_
        refine G_iaN (pc := 93) f_35_93 (by first | assumption | exact hK.1 _ _ rfl) (by omega) (by omega) (by first | assumption | exact q1 _ (by omega) | exact q2 _ (by omega) | exact q3 _ (by omega) | exact q4 _ (by omega) | exact q5 _ (by omega) | exact vh _ (by omega) | exact (vr _ (by omega)).1 | exact (vr _ (by omega)).2 | exact vw _ (by omega) | exact vf _ (by omega) (by omega) | rfl) ?_
        refine G_S (pc := 94) f_35_94 rfl rfl rfl ?_
        refine G_ri (pc := 98) f_35_98 ?_
        first
          | exact ⟨rfl, rfl⟩
          | (rw [flF_d hw]
             first
               | exact ⟨by rw [if_neg (by omega)], rfl⟩
               | exact ⟨by rw [nI_toInt (by omega), Int.toNat_natCast, if_pos (by omega)], rfl⟩)
end CFL
