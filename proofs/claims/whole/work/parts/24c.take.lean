/-! the class takes what was read -/
def EO0 (E : Nat → Int) : Prop := (0 ≤ E 0 ∧ E 0 ≤ 8) ∧ (1 ≤ E 1 ∧ E 1 ≤ 6) ∧ (0 ≤ E 2 ∧ E 2 ≤ 8) ∧ (∀ k, k < 8 → 0 ≤ E (3 + k) ∧ E (3 + k) ≤ 99) ∧ (∀ r, r < 8 → 0 ≤ E (11 + r) ∧ E (11 + r) ≤ 3) ∧ (∀ r, r < 8 → 0 ≤ E (19 + r) ∧ E (19 + r) ≤ 60) ∧ (∀ k, k < 4 → 0 ≤ E (27 + k) ∧ E (27 + k) ≤ 9) ∧ ∀ k, k < 8 → 0 ≤ E (31 + k) ∧ E (31 + k) ≤ 99
def EO2 (E : Nat → Int) : Prop := (1 ≤ E 0 ∧ E 0 ≤ 99) ∧ ∀ h, h < 24 → 0 ≤ E (1 + h) ∧ E (1 + h) ≤ 99
def EO3 (E : Nat → Int) : Prop := (1 ≤ E 0 ∧ E 0 ≤ 4) ∧ (0 ≤ E 1 ∧ E 1 ≤ 10) ∧ ∀ k : Nat, (k : Int) < E 1 → (0 ≤ E (2 + 3 * k) ∧ E (2 + 3 * k) ≤ 1) ∧ (1 ≤ E (3 + 3 * k) ∧ E (3 + 3 * k) ≤ 15) ∧ (1 ≤ E (4 + 3 * k) ∧ E (4 + 3 * k) ≤ 36)
def CD0 (M : Mm) (E : Nat → Int) : Prop := (M.2.1 54 1 = zI (E 0) ∧ M.2.1 54 2 = zI (E 1) ∧ M.2.1 54 5 = zI (E 2)) ∧ (∀ k : Nat, (k : Int) < E 0 → M.2.1 55 k = zI (E (3 + k))) ∧ (∀ r : Nat, (r : Int) < E 2 → M.2.1 56 r = zI (E (11 + r))) ∧ (∀ r : Nat, (r : Int) < E 2 → M.2.1 57 r = zI (E (19 + r))) ∧ (∀ k, k < 4 → M.2.1 58 k = zI (E (27 + k))) ∧ ∀ m, 1 ≤ m → m ≤ 8 → M.2.1 59 m = zI (E (30 + m))
def CD1 (M : Mm) (E : Nat → Int) : Prop := M.2.1 61 3 = zI (E 0) ∧ (∀ k : Nat, (k : Int) < E 0 → M.2.1 62 k = zI (E (1 + 3 * k))) ∧ (∀ k : Nat, (k : Int) < E 0 → M.2.1 63 k = zI (E (2 + 3 * k))) ∧ ∀ k : Nat, (k : Int) < E 0 → M.2.1 64 k = zI (E (3 + 3 * k))
def CD2 (M : Mm) (E : Nat → Int) : Prop := M.2.1 65 0 = zI (E 0) ∧ ∀ h, h < 24 → M.2.1 66 h = zI (E (1 + h))
def CD3 (M : Mm) (E : Nat → Int) : Prop := (M.2.1 70 0 = zI (E 0) ∧ M.2.1 70 1 = zI (E 1) ∧ M.2.1 70 5 = nI 0) ∧ (∀ k : Nat, (k : Int) < E 1 → M.2.1 71 k = zI (E (2 + 3 * k))) ∧ (∀ k : Nat, (k : Int) < E 1 → M.2.1 72 k = zI (E (3 + 3 * k))) ∧ ∀ k : Nat, (k : Int) < E 1 → M.2.1 73 k = zI (E (4 + 3 * k))
def RDo : List Nat := [54, 55, 56, 57, 58, 59, 61, 62, 63, 64, 65, 66, 70, 71, 72, 73]
theorem zn' {z : Int} {m : Nat} (h : z = (m : Int)) : nI m = zI z := by rw [h, nI_zI]
section CTK
variable {C : Ct} {M : Mm} {E : Nat → Int} {c g kd : Nat} {x y z : Int32}
theorem c_addHill (hK : KM M.1 M.2.2.2) (hc : M.2.1 54 1 = nI c) (h8 : c < 8) : CG C 56 [.ref 54, .int x] M (fun w M' => w = none ∧ M' = (M.1, up2 (up2 M.2.1 55 c x) 54 1 (nI (c + 1)), M.2.2.1, M.2.2.2)) := by
  refine CG_in (mL := 2) (hl := false) (lv := [some (.ref 54), some (.int x)]) (ll := []) rfl rfl rfl ?_
  refine G_S (pc := 0) f_56_0 rfl rfl rfl ?_
  refine G_gIv (pc := 1) f_56_1 (by decide) rfl (by decide) (by first | assumption | exact hK.1 _ _ rfl) (by first | assumption | exact mI_s | ((refine mI_o (by first | decide | omega) ?_); (repeat (refine mI_o (by first | decide | omega) ?_)); first | exact mI_s | assumption) | rfl) ?_
  refine G_bi (v := nI 8) (pc := 4) f_56_4 (by decide) ?_
  refine G_jgeZ (pc := 6) f_56_6 rfl (by first | exact nI_toInt (by omega) | exact zI_toInt (by omega) (by omega) | rfl) (by first | exact nI_toInt (by omega) | exact zI_toInt (by omega) (by omega) | rfl) (fun b1 => ?_) (fun b1 => ?_)
  · exfalso; omega
  · refine G_S (pc := 9) f_56_9 rfl rfl rfl ?_
    refine G_gR (pc := 10) f_56_10 (by decide) rfl (by first | assumption | exact hK.1 _ _ rfl) (by first | assumption | exact hK.2 _ _ _ rfl | (try dsimp only) <;> (repeat (first | exact up2_s | refine up2_o (by first | decide | omega) ?_)) <;> first | assumption | exact hK.2 _ _ _ rfl) ?_
    refine G_S (pc := 13) f_56_13 rfl rfl rfl ?_
    refine G_gIv (pc := 14) f_56_14 (by decide) rfl (by decide) (by first | assumption | exact hK.1 _ _ rfl) (by first | assumption | exact mI_s | ((refine mI_o (by first | decide | omega) ?_); (repeat (refine mI_o (by first | decide | omega) ?_)); first | exact mI_s | assumption) | rfl) ?_
    refine G_S (pc := 17) f_56_17 rfl rfl rfl ?_
    refine G_isN (pc := 18) f_56_18 (by first | assumption | exact hK.1 _ _ rfl) (by omega) (by omega) ?_
    refine G_S (pc := 19) f_56_19 rfl rfl rfl ?_
    refine G_S (pc := 20) f_56_20 rfl rfl rfl ?_
    refine G_gIv (pc := 21) f_56_21 (by decide) rfl (by decide) (by first | assumption | exact hK.1 _ _ rfl) (by first | assumption | exact mI_s | ((refine mI_o (by first | decide | omega) ?_); (repeat (refine mI_o (by first | decide | omega) ?_)); first | exact mI_s | assumption) | rfl) ?_
    refine G_ic (v := nI 1) (pc := 24) f_56_24 (by decide) ?_
    first | refine G_addN (pc := 25) f_56_25 ?_ | refine G_addZ (pc := 25) f_56_25 (by first | rfl | exact nI_zI _) (by first | rfl | exact nI_zI _) ?_ | refine G_S (pc := 25) f_56_25 rfl rfl rfl ?_
    refine G_pI (pc := 26) f_56_26 rfl (by first | assumption | exact hK.1 _ _ rfl) ?_
    refine G_rv (pc := 29) f_56_29 ?_
    exact ⟨rfl, rfl⟩
theorem c_addRider (hK : KM M.1 M.2.2.2) (hc : M.2.1 54 5 = nI c) (h8 : c < 8) : CG C 57 [.ref 54, .int x, .int y] M (fun w M' => w = none ∧ M' = (M.1, up2 (up2 (up2 M.2.1 56 c x) 57 c y) 54 5 (nI (c + 1)), M.2.2.1, M.2.2.2)) := by
  refine CG_in (mL := 3) (hl := false) (lv := [some (.ref 54), some (.int x), some (.int y)]) (ll := []) rfl rfl rfl ?_
  refine G_S (pc := 0) f_57_0 rfl rfl rfl ?_
  refine G_gIv (pc := 1) f_57_1 (by decide) rfl (by decide) (by first | assumption | exact hK.1 _ _ rfl) (by first | assumption | exact mI_s | ((refine mI_o (by first | decide | omega) ?_); (repeat (refine mI_o (by first | decide | omega) ?_)); first | exact mI_s | assumption) | rfl) ?_
  refine G_bi (v := nI 8) (pc := 4) f_57_4 (by decide) ?_
  refine G_jgeZ (pc := 6) f_57_6 rfl (by first | exact nI_toInt (by omega) | exact zI_toInt (by omega) (by omega) | rfl) (by first | exact nI_toInt (by omega) | exact zI_toInt (by omega) (by omega) | rfl) (fun b1 => ?_) (fun b1 => ?_)
  · exfalso; omega
  · refine G_S (pc := 9) f_57_9 rfl rfl rfl ?_
    refine G_gR (pc := 10) f_57_10 (by decide) rfl (by first | assumption | exact hK.1 _ _ rfl) (by first | assumption | exact hK.2 _ _ _ rfl | (try dsimp only) <;> (repeat (first | exact up2_s | refine up2_o (by first | decide | omega) ?_)) <;> first | assumption | exact hK.2 _ _ _ rfl) ?_
    refine G_S (pc := 13) f_57_13 rfl rfl rfl ?_
    refine G_gIv (pc := 14) f_57_14 (by decide) rfl (by decide) (by first | assumption | exact hK.1 _ _ rfl) (by first | assumption | exact mI_s | ((refine mI_o (by first | decide | omega) ?_); (repeat (refine mI_o (by first | decide | omega) ?_)); first | exact mI_s | assumption) | rfl) ?_
    refine G_S (pc := 17) f_57_17 rfl rfl rfl ?_
    refine G_isN (pc := 18) f_57_18 (by first | assumption | exact hK.1 _ _ rfl) (by omega) (by omega) ?_
    refine G_S (pc := 19) f_57_19 rfl rfl rfl ?_
    refine G_gR (pc := 20) f_57_20 (by decide) rfl (by first | assumption | exact hK.1 _ _ rfl) (by first | assumption | exact hK.2 _ _ _ rfl | (try dsimp only) <;> (repeat (first | exact up2_s | refine up2_o (by first | decide | omega) ?_)) <;> first | assumption | exact hK.2 _ _ _ rfl) ?_
    refine G_S (pc := 23) f_57_23 rfl rfl rfl ?_
    refine G_gIv (pc := 24) f_57_24 (by decide) rfl (by decide) (by first | assumption | exact hK.1 _ _ rfl) (by first | assumption | exact mI_s | ((refine mI_o (by first | decide | omega) ?_); (repeat (refine mI_o (by first | decide | omega) ?_)); first | exact mI_s | assumption) | rfl) ?_
    refine G_S (pc := 27) f_57_27 rfl rfl rfl ?_
    refine G_isN (pc := 28) f_57_28 (by first | assumption | exact hK.1 _ _ rfl) (by omega) (by omega) ?_
    refine G_S (pc := 29) f_57_29 rfl rfl rfl ?_
    refine G_S (pc := 30) f_57_30 rfl rfl rfl ?_
    refine G_gIv (pc := 31) f_57_31 (by decide) rfl (by decide) (by first | assumption | exact hK.1 _ _ rfl) (by first | assumption | exact mI_s | ((refine mI_o (by first | decide | omega) ?_); (repeat (refine mI_o (by first | decide | omega) ?_)); first | exact mI_s | assumption) | rfl) ?_
    refine G_ic (v := nI 1) (pc := 34) f_57_34 (by decide) ?_
    first | refine G_addN (pc := 35) f_57_35 ?_ | refine G_addZ (pc := 35) f_57_35 (by first | rfl | exact nI_zI _) (by first | rfl | exact nI_zI _) ?_ | refine G_S (pc := 35) f_57_35 rfl rfl rfl ?_
    refine G_pI (pc := 36) f_57_36 rfl (by first | assumption | exact hK.1 _ _ rfl) ?_
    refine G_rv (pc := 39) f_57_39 ?_
    exact ⟨rfl, rfl⟩
theorem c_addDeed (hK : KM M.1 M.2.2.2) (hc : M.2.1 61 3 = nI c) (h8 : c < 40) : CG C 91 [.ref 61, .int x, .int y, .int z] M (fun w M' => w = none ∧ M' = (M.1, up2 (up2 (up2 (up2 M.2.1 62 c x) 63 c y) 64 c z) 61 3 (nI (c + 1)), M.2.2.1, M.2.2.2)) := by
  refine CG_in (mL := 4) (hl := false) (lv := [some (.ref 61), some (.int x), some (.int y), some (.int z)]) (ll := []) rfl rfl rfl ?_
  refine G_S (pc := 0) f_91_0 rfl rfl rfl ?_
  refine G_gIv (pc := 1) f_91_1 (by decide) rfl (by decide) (by first | assumption | exact hK.1 _ _ rfl) (by first | assumption | exact mI_s | ((refine mI_o (by first | decide | omega) ?_); (repeat (refine mI_o (by first | decide | omega) ?_)); first | exact mI_s | assumption) | rfl) ?_
  refine G_bi (v := nI 40) (pc := 4) f_91_4 (by decide) ?_
  refine G_jgeZ (pc := 6) f_91_6 rfl (by first | exact nI_toInt (by omega) | exact zI_toInt (by omega) (by omega) | rfl) (by first | exact nI_toInt (by omega) | exact zI_toInt (by omega) (by omega) | rfl) (fun b1 => ?_) (fun b1 => ?_)
  · exfalso; omega
  · refine G_S (pc := 9) f_91_9 rfl rfl rfl ?_
    refine G_gR (pc := 10) f_91_10 (by decide) rfl (by first | assumption | exact hK.1 _ _ rfl) (by first | assumption | exact hK.2 _ _ _ rfl | (try dsimp only) <;> (repeat (first | exact up2_s | refine up2_o (by first | decide | omega) ?_)) <;> first | assumption | exact hK.2 _ _ _ rfl) ?_
    refine G_S (pc := 13) f_91_13 rfl rfl rfl ?_
    refine G_gIv (pc := 14) f_91_14 (by decide) rfl (by decide) (by first | assumption | exact hK.1 _ _ rfl) (by first | assumption | exact mI_s | ((refine mI_o (by first | decide | omega) ?_); (repeat (refine mI_o (by first | decide | omega) ?_)); first | exact mI_s | assumption) | rfl) ?_
    refine G_S (pc := 17) f_91_17 rfl rfl rfl ?_
    refine G_isN (pc := 18) f_91_18 (by first | assumption | exact hK.1 _ _ rfl) (by omega) (by omega) ?_
    refine G_S (pc := 19) f_91_19 rfl rfl rfl ?_
    refine G_gR (pc := 20) f_91_20 (by decide) rfl (by first | assumption | exact hK.1 _ _ rfl) (by first | assumption | exact hK.2 _ _ _ rfl | (try dsimp only) <;> (repeat (first | exact up2_s | refine up2_o (by first | decide | omega) ?_)) <;> first | assumption | exact hK.2 _ _ _ rfl) ?_
    refine G_S (pc := 23) f_91_23 rfl rfl rfl ?_
    refine G_gIv (pc := 24) f_91_24 (by decide) rfl (by decide) (by first | assumption | exact hK.1 _ _ rfl) (by first | assumption | exact mI_s | ((refine mI_o (by first | decide | omega) ?_); (repeat (refine mI_o (by first | decide | omega) ?_)); first | exact mI_s | assumption) | rfl) ?_
    refine G_S (pc := 27) f_91_27 rfl rfl rfl ?_
    refine G_isN (pc := 28) f_91_28 (by first | assumption | exact hK.1 _ _ rfl) (by omega) (by omega) ?_
    refine G_S (pc := 29) f_91_29 rfl rfl rfl ?_
    refine G_gR (pc := 30) f_91_30 (by decide) rfl (by first | assumption | exact hK.1 _ _ rfl) (by first | assumption | exact hK.2 _ _ _ rfl | (try dsimp only) <;> (repeat (first | exact up2_s | refine up2_o (by first | decide | omega) ?_)) <;> first | assumption | exact hK.2 _ _ _ rfl) ?_
    refine G_S (pc := 33) f_91_33 rfl rfl rfl ?_
    refine G_gIv (pc := 34) f_91_34 (by decide) rfl (by decide) (by first | assumption | exact hK.1 _ _ rfl) (by first | assumption | exact mI_s | ((refine mI_o (by first | decide | omega) ?_); (repeat (refine mI_o (by first | decide | omega) ?_)); first | exact mI_s | assumption) | rfl) ?_
    refine G_S (pc := 37) f_91_37 rfl rfl rfl ?_
    refine G_isN (pc := 38) f_91_38 (by first | assumption | exact hK.1 _ _ rfl) (by omega) (by omega) ?_
    refine G_S (pc := 39) f_91_39 rfl rfl rfl ?_
    refine G_S (pc := 40) f_91_40 rfl rfl rfl ?_
    refine G_gIv (pc := 41) f_91_41 (by decide) rfl (by decide) (by first | assumption | exact hK.1 _ _ rfl) (by first | assumption | exact mI_s | ((refine mI_o (by first | decide | omega) ?_); (repeat (refine mI_o (by first | decide | omega) ?_)); first | exact mI_s | assumption) | rfl) ?_
    refine G_ic (v := nI 1) (pc := 44) f_91_44 (by decide) ?_
    first | refine G_addN (pc := 45) f_91_45 ?_ | refine G_addZ (pc := 45) f_91_45 (by first | rfl | exact nI_zI _) (by first | rfl | exact nI_zI _) ?_ | refine G_S (pc := 45) f_91_45 rfl rfl rfl ?_
    refine G_pI (pc := 46) f_91_46 rfl (by first | assumption | exact hK.1 _ _ rfl) ?_
    refine G_rv (pc := 49) f_91_49 ?_
    exact ⟨rfl, rfl⟩
theorem c_addFact (hK : KM M.1 M.2.2.2) (hc : M.2.1 70 1 = nI c) (h8 : c < 10) : CG C 96 [.ref 70, .int x, .int y, .int z] M (fun w M' => w = none ∧ M' = (M.1, up2 (up2 (up2 (up2 M.2.1 71 c x) 72 c y) 73 c z) 70 1 (nI (c + 1)), M.2.2.1, M.2.2.2)) := by
  refine CG_in (mL := 4) (hl := false) (lv := [some (.ref 70), some (.int x), some (.int y), some (.int z)]) (ll := []) rfl rfl rfl ?_
  refine G_S (pc := 0) f_96_0 rfl rfl rfl ?_
  refine G_gIv (pc := 1) f_96_1 (by decide) rfl (by decide) (by first | assumption | exact hK.1 _ _ rfl) (by first | assumption | exact mI_s | ((refine mI_o (by first | decide | omega) ?_); (repeat (refine mI_o (by first | decide | omega) ?_)); first | exact mI_s | assumption) | rfl) ?_
  refine G_bi (v := nI 10) (pc := 4) f_96_4 (by decide) ?_
  refine G_jgeZ (pc := 6) f_96_6 rfl (by first | exact nI_toInt (by omega) | exact zI_toInt (by omega) (by omega) | rfl) (by first | exact nI_toInt (by omega) | exact zI_toInt (by omega) (by omega) | rfl) (fun b1 => ?_) (fun b1 => ?_)
  · exfalso; omega
  · refine G_S (pc := 9) f_96_9 rfl rfl rfl ?_
    refine G_gR (pc := 10) f_96_10 (by decide) rfl (by first | assumption | exact hK.1 _ _ rfl) (by first | assumption | exact hK.2 _ _ _ rfl | (try dsimp only) <;> (repeat (first | exact up2_s | refine up2_o (by first | decide | omega) ?_)) <;> first | assumption | exact hK.2 _ _ _ rfl) ?_
    refine G_S (pc := 13) f_96_13 rfl rfl rfl ?_
    refine G_gIv (pc := 14) f_96_14 (by decide) rfl (by decide) (by first | assumption | exact hK.1 _ _ rfl) (by first | assumption | exact mI_s | ((refine mI_o (by first | decide | omega) ?_); (repeat (refine mI_o (by first | decide | omega) ?_)); first | exact mI_s | assumption) | rfl) ?_
    refine G_S (pc := 17) f_96_17 rfl rfl rfl ?_
    refine G_isN (pc := 18) f_96_18 (by first | assumption | exact hK.1 _ _ rfl) (by omega) (by omega) ?_
    refine G_S (pc := 19) f_96_19 rfl rfl rfl ?_
    refine G_gR (pc := 20) f_96_20 (by decide) rfl (by first | assumption | exact hK.1 _ _ rfl) (by first | assumption | exact hK.2 _ _ _ rfl | (try dsimp only) <;> (repeat (first | exact up2_s | refine up2_o (by first | decide | omega) ?_)) <;> first | assumption | exact hK.2 _ _ _ rfl) ?_
    refine G_S (pc := 23) f_96_23 rfl rfl rfl ?_
    refine G_gIv (pc := 24) f_96_24 (by decide) rfl (by decide) (by first | assumption | exact hK.1 _ _ rfl) (by first | assumption | exact mI_s | ((refine mI_o (by first | decide | omega) ?_); (repeat (refine mI_o (by first | decide | omega) ?_)); first | exact mI_s | assumption) | rfl) ?_
    refine G_S (pc := 27) f_96_27 rfl rfl rfl ?_
    refine G_isN (pc := 28) f_96_28 (by first | assumption | exact hK.1 _ _ rfl) (by omega) (by omega) ?_
    refine G_S (pc := 29) f_96_29 rfl rfl rfl ?_
    refine G_gR (pc := 30) f_96_30 (by decide) rfl (by first | assumption | exact hK.1 _ _ rfl) (by first | assumption | exact hK.2 _ _ _ rfl | (try dsimp only) <;> (repeat (first | exact up2_s | refine up2_o (by first | decide | omega) ?_)) <;> first | assumption | exact hK.2 _ _ _ rfl) ?_
    refine G_S (pc := 33) f_96_33 rfl rfl rfl ?_
    refine G_gIv (pc := 34) f_96_34 (by decide) rfl (by decide) (by first | assumption | exact hK.1 _ _ rfl) (by first | assumption | exact mI_s | ((refine mI_o (by first | decide | omega) ?_); (repeat (refine mI_o (by first | decide | omega) ?_)); first | exact mI_s | assumption) | rfl) ?_
    refine G_S (pc := 37) f_96_37 rfl rfl rfl ?_
    refine G_isN (pc := 38) f_96_38 (by first | assumption | exact hK.1 _ _ rfl) (by omega) (by omega) ?_
    refine G_S (pc := 39) f_96_39 rfl rfl rfl ?_
    refine G_S (pc := 40) f_96_40 rfl rfl rfl ?_
    refine G_gIv (pc := 41) f_96_41 (by decide) rfl (by decide) (by first | assumption | exact hK.1 _ _ rfl) (by first | assumption | exact mI_s | ((refine mI_o (by first | decide | omega) ?_); (repeat (refine mI_o (by first | decide | omega) ?_)); first | exact mI_s | assumption) | rfl) ?_
    refine G_ic (v := nI 1) (pc := 44) f_96_44 (by decide) ?_
    first | refine G_addN (pc := 45) f_96_45 ?_ | refine G_addZ (pc := 45) f_96_45 (by first | rfl | exact nI_zI _) (by first | rfl | exact nI_zI _) ?_ | refine G_S (pc := 45) f_96_45 rfl rfl rfl ?_
    refine G_pI (pc := 46) f_96_46 rfl (by first | assumption | exact hK.1 _ _ rfl) ?_
    refine G_rv (pc := 49) f_96_49 ?_
    exact ⟨rfl, rfl⟩
theorem c_take0 {v1 v2 : Nat} (hK : KM M.1 M.2.2.2) (hD : CD0 M E) (hE : EO0 E) (hg : g < 5) (h1 : M.2.1 77 0 = nI v1) (h2 : g = 4 → M.2.1 77 1 = nI v2) (hk : g = 2 ∨ g = 3 → M.2.1 53 12 = nI kd) (hk4 : kd < 4) (hful : fulB g E = false) (hb1 : badB g 0 v1 = false) (hb2 : g = 4 → badB g 1 v2 = false) : CG C 77 [.ref 53, .int (nI g)] M (fun w M' => w = none ∧ Fp 53 RDo [] M M' ∧ CD0 M' (tkE g kd (v1 : Int) (v2 : Int) true E) ∧ EO0 (tkE g kd (v1 : Int) (v2 : Int) true E)) := by
  obtain ⟨⟨a0, a1, a2⟩, d1, d2, d3, d4, d5⟩ := hD
  have hE' := hE
  obtain ⟨e0, e1, e2, e3, e4, e5, e6, e7⟩ := hE
  have hb1' := of_decide_eq_false hb1
  rcases (show g = 0 ∨ g = 1 ∨ g = 2 ∨ g = 3 ∨ g = 4 by omega) with rfl | rfl | rfl | rfl | rfl
  · have hlt : E 0 < 8 := by
      have := of_decide_eq_false hful
      omega
    have hr : 0 ≤ v1 ∧ v1 ≤ 99 := by
      have e : fmN 0 3 = 99 := by decide
      rw [show 3 + 2 * 0 = 3 from rfl, e] at hb1'
      omega
    obtain ⟨c, hc⟩ : ∃ c : Nat, E 0 = (c : Int) := ⟨(E 0).toNat, by omega⟩
    have a0' : M.2.1 54 1 = nI c := by rw [a0, hc, nI_zI]
    have hE1 : tkE 0 kd (v1 : Int) (v2 : Int) true E = up1 (up1 E (3 + c) (v1 : Int)) 0 (E 0 + 1) := by
      unfold tkE
      rw [if_pos rfl, if_pos hlt, hc, Int.toNat_natCast]
    have ev : ∀ j, j ≠ 0 → j ≠ 3 + c → up1 (up1 E (3 + c) (v1 : Int)) 0 (E 0 + 1) j = E j := fun j q1 q2 => up1_o q1 (up1_o q2 rfl)
    have ev0 : up1 (up1 E (3 + c) (v1 : Int)) 0 (E 0 + 1) 0 = E 0 + 1 := up1_s
    have evc : up1 (up1 E (3 + c) (v1 : Int)) 0 (E 0 + 1) (3 + c) = (v1 : Int) := up1_o (by omega) up1_s
    rw [hE1]
    refine CG_in (mL := 4) (hl := false) (lv := [some (.ref 53), some (.int (nI 0)), none, none]) (ll := []) rfl rfl rfl ?_
    refine G_S (pc := 0) f_77_0 rfl rfl rfl ?_
    refine G_gR (pc := 1) f_77_1 (by decide) rfl (by first | assumption | exact hK.1 _ _ rfl) (by first | assumption | exact hK.2 _ _ _ rfl | (try dsimp only) <;> (repeat (first | exact up2_s | refine up2_o (by first | decide | omega) ?_)) <;> first | assumption | exact hK.2 _ _ _ rfl) ?_
    refine G_ic (v := nI 0) (pc := 4) f_77_4 (by decide) ?_
    refine G_iaN (pc := 5) f_77_5 (by first | assumption | exact hK.1 _ _ rfl) (by omega) (by omega) (by first | exact h1 | rfl) ?_
    refine G_S (pc := 6) f_77_6 rfl rfl rfl ?_
    refine G_S (pc := 7) f_77_7 rfl rfl rfl ?_
    refine G_gR (pc := 8) f_77_8 (by decide) rfl (by first | assumption | exact hK.1 _ _ rfl) (by first | assumption | exact hK.2 _ _ _ rfl | (try dsimp only) <;> (repeat (first | exact up2_s | refine up2_o (by first | decide | omega) ?_)) <;> first | assumption | exact hK.2 _ _ _ rfl) ?_
    refine G_ic (v := nI 1) (pc := 11) f_77_11 (by decide) ?_
    refine G_ia (pc := 12) f_77_12 (by first | assumption | exact hK.1 _ _ rfl) (inn_nI (by decide) (by decide)) ?_
    refine G_S (pc := 13) f_77_13 rfl rfl rfl ?_
    refine G_S (pc := 14) f_77_14 rfl rfl rfl ?_
    skip
    · refine G_S (pc := 15) f_77_15 rfl rfl rfl ?_
      refine G_S (pc := 100) f_77_100 rfl rfl rfl ?_
      refine G_gR (pc := 101) f_77_101 (by decide) rfl (by first | assumption | exact hK.1 _ _ rfl) (by first | assumption | exact hK.2 _ _ _ rfl | (try dsimp only) <;> (repeat (first | exact up2_s | refine up2_o (by first | decide | omega) ?_)) <;> first | assumption | exact hK.2 _ _ _ rfl) ?_
      refine G_S (pc := 104) f_77_104 rfl rfl rfl ?_
      refine G_CV (pc := 105) f_77_105 rfl rfl (by decide) rfl rfl (by first | assumption | exact hK.1 _ _ rfl) (by decide) ⟨Nat.le_of_ble_eq_true rfl, Nat.le_of_ble_eq_true rfl⟩ ?_
      refine CG.mono (c_addHill hK a0' (by omega)) ?_
      rintro _ M2 ⟨rfl, rfl⟩
      refine G_S (pc := 108) f_77_108 rfl rfl rfl ?_
      refine G_rv (pc := 239) f_77_239 ?_
      refine ⟨rfl, (Fp.up (i := 55) (k := c) (x := nI v1) (by decide) (by decide)).tr (Fp.up (i := 54) (k := 1) (x := nI (c + 1)) (by decide) (by decide)), ⟨⟨?_, ?_, ?_⟩, fun k hk => ?_, fun r hr => ?_, fun r hr => ?_, fun k hk => ?_, fun m q1 q2 => ?_⟩, ?_⟩
      · rw [ev0, ← zn' (m := c + 1) (by omega)]
        exact (by (try dsimp only); exact up2_s)
      · rw [ev 1 (by omega) (by omega)]
        exact (by (try dsimp only); exact up2_o (by omega) (by (try dsimp only); exact up2_o (by omega) a1))
      · rw [ev 2 (by omega) (by omega)]
        exact (by (try dsimp only); exact up2_o (by omega) (by (try dsimp only); exact up2_o (by omega) a2))
      · rw [ev0] at hk
        by_cases q : k = c
        · subst q
          rw [evc, ← nI_zI]
          exact (by (try dsimp only); exact up2_o (by omega) (by (try dsimp only); exact up2_s))
        · rw [ev _ (by omega) (by omega)]
          exact (by (try dsimp only); exact up2_o (by omega) (by (try dsimp only); exact up2_o (by omega) (d1 k (by omega))))
      · rw [ev 2 (by omega) (by omega)] at hr
        rw [ev _ (by omega) (by omega)]
        exact (by (try dsimp only); exact up2_o (by omega) (by (try dsimp only); exact up2_o (by omega) (d2 r hr)))
      · rw [ev 2 (by omega) (by omega)] at hr
        rw [ev _ (by omega) (by omega)]
        exact (by (try dsimp only); exact up2_o (by omega) (by (try dsimp only); exact up2_o (by omega) (d3 r hr)))
      · rw [ev _ (by omega) (by omega)]
        exact (by (try dsimp only); exact up2_o (by omega) (by (try dsimp only); exact up2_o (by omega) (d4 k hk)))
      · rw [ev _ (by omega) (by omega)]
        exact (by (try dsimp only); exact up2_o (by omega) (by (try dsimp only); exact up2_o (by omega) (d5 m q1 q2)))
      · refine ⟨by rw [ev0]; omega, by rw [ev 1 (by omega) (by omega)]; exact e1, by rw [ev 2 (by omega) (by omega)]; exact e2, fun k hk => ?_, fun r hr => by rw [ev _ (by omega) (by omega)]; exact e4 r hr, fun r hr => by rw [ev _ (by omega) (by omega)]; exact e5 r hr, fun r hr => by rw [ev _ (by omega) (by omega)]; exact e6 r hr, fun r hr => by rw [ev _ (by omega) (by omega)]; exact e7 r hr⟩
        by_cases q : k = c
        · subst q
          rw [evc]
          omega
        · rw [ev _ (by omega) (by omega)]
          exact e3 k hk
  · have hr : 1 ≤ v1 ∧ v1 ≤ 6 := by
      have e : fmN 1 3 = 6 ∧ fmN 1 2 = 1 := by decide
      rw [show 3 + 2 * 0 = 3 from rfl, show 2 + 2 * 0 = 2 from rfl, e.1, e.2] at hb1'
      omega
    have hE1 : tkE 1 kd (v1 : Int) (v2 : Int) true E = up1 E 1 (v1 : Int) := rfl
    have ev : ∀ j, j ≠ 1 → up1 E 1 (v1 : Int) j = E j := fun j q1 => up1_o q1 rfl
    have ev1 : up1 E 1 (v1 : Int) 1 = (v1 : Int) := up1_s
    rw [hE1]
    refine CG_in (mL := 4) (hl := false) (lv := [some (.ref 53), some (.int (nI 1)), none, none]) (ll := []) rfl rfl rfl ?_
    refine G_S (pc := 0) f_77_0 rfl rfl rfl ?_
    refine G_gR (pc := 1) f_77_1 (by decide) rfl (by first | assumption | exact hK.1 _ _ rfl) (by first | assumption | exact hK.2 _ _ _ rfl | (try dsimp only) <;> (repeat (first | exact up2_s | refine up2_o (by first | decide | omega) ?_)) <;> first | assumption | exact hK.2 _ _ _ rfl) ?_
    refine G_ic (v := nI 0) (pc := 4) f_77_4 (by decide) ?_
    refine G_iaN (pc := 5) f_77_5 (by first | assumption | exact hK.1 _ _ rfl) (by omega) (by omega) (by first | exact h1 | rfl) ?_
    refine G_S (pc := 6) f_77_6 rfl rfl rfl ?_
    refine G_S (pc := 7) f_77_7 rfl rfl rfl ?_
    refine G_gR (pc := 8) f_77_8 (by decide) rfl (by first | assumption | exact hK.1 _ _ rfl) (by first | assumption | exact hK.2 _ _ _ rfl | (try dsimp only) <;> (repeat (first | exact up2_s | refine up2_o (by first | decide | omega) ?_)) <;> first | assumption | exact hK.2 _ _ _ rfl) ?_
    refine G_ic (v := nI 1) (pc := 11) f_77_11 (by decide) ?_
    refine G_ia (pc := 12) f_77_12 (by first | assumption | exact hK.1 _ _ rfl) (inn_nI (by decide) (by decide)) ?_
    refine G_S (pc := 13) f_77_13 rfl rfl rfl ?_
    refine G_S (pc := 14) f_77_14 rfl rfl rfl ?_
    skip
    · refine G_S (pc := 15) f_77_15 rfl rfl rfl ?_
      refine G_S (pc := 111) f_77_111 rfl rfl rfl ?_
      refine G_gR (pc := 112) f_77_112 (by decide) rfl (by first | assumption | exact hK.1 _ _ rfl) (by first | assumption | exact hK.2 _ _ _ rfl | (try dsimp only) <;> (repeat (first | exact up2_s | refine up2_o (by first | decide | omega) ?_)) <;> first | assumption | exact hK.2 _ _ _ rfl) ?_
      refine G_S (pc := 115) f_77_115 rfl rfl rfl ?_
      refine G_pI (pc := 116) f_77_116 rfl (by first | assumption | exact hK.1 _ _ rfl) ?_
      refine G_S (pc := 119) f_77_119 rfl rfl rfl ?_
      refine G_rv (pc := 239) f_77_239 ?_
      refine ⟨rfl, Fp.up (i := 54) (k := 2) (x := nI v1) (by decide) (by decide), ⟨⟨?_, ?_, ?_⟩, fun k hk => ?_, fun r hr => ?_, fun r hr => ?_, fun k hk => ?_, fun m q1 q2 => ?_⟩, ?_⟩
      · rw [ev 0 (by omega)]
        exact (by (try dsimp only); exact up2_o (by omega) a0)
      · rw [ev1, ← nI_zI]
        exact (by (try dsimp only); exact up2_s)
      · rw [ev 2 (by omega)]
        exact (by (try dsimp only); exact up2_o (by omega) a2)
      · rw [ev 0 (by omega)] at hk
        rw [ev _ (by omega)]
        exact (by (try dsimp only); exact up2_o (by omega) (d1 k hk))
      · rw [ev 2 (by omega)] at hr
        rw [ev _ (by omega)]
        exact (by (try dsimp only); exact up2_o (by omega) (d2 r hr))
      · rw [ev 2 (by omega)] at hr
        rw [ev _ (by omega)]
        exact (by (try dsimp only); exact up2_o (by omega) (d3 r hr))
      · rw [ev _ (by omega)]
        exact (by (try dsimp only); exact up2_o (by omega) (d4 k hk))
      · rw [ev _ (by omega)]
        exact (by (try dsimp only); exact up2_o (by omega) (d5 m q1 q2))
      · exact ⟨by rw [ev 0 (by omega)]; exact e0, by rw [ev1]; omega, by rw [ev 2 (by omega)]; exact e2, fun k hk => by rw [ev _ (by omega)]; exact e3 k hk, fun r hr => by rw [ev _ (by omega)]; exact e4 r hr, fun r hr => by rw [ev _ (by omega)]; exact e5 r hr, fun r hr => by rw [ev _ (by omega)]; exact e6 r hr, fun r hr => by rw [ev _ (by omega)]; exact e7 r hr⟩
  · have hlt : E 2 < 8 := by
      have := of_decide_eq_false hful
      omega
    have hk := hk (Or.inl rfl)
    have hr : v1 ≤ 60 := by
      have e : fmN 2 3 = 60 := by decide
      rw [show 3 + 2 * 0 = 3 from rfl, e] at hb1'
      omega
    obtain ⟨c, hc⟩ : ∃ c : Nat, E 2 = (c : Int) := ⟨(E 2).toNat, by omega⟩
    have a2' : M.2.1 54 5 = nI c := by rw [a2, hc, nI_zI]
    have hE1 : tkE 2 kd (v1 : Int) (v2 : Int) true E = up1 (up1 (up1 E (11 + c) (kd : Int)) (19 + c) (v1 : Int)) 2 (E 2 + 1) := by
      unfold tkE
      rw [if_neg (by decide), if_neg (by decide), if_pos rfl, if_pos hlt, hc, Int.toNat_natCast]
    have ev : ∀ j, j ≠ 2 → j ≠ 11 + c → j ≠ 19 + c → up1 (up1 (up1 E (11 + c) (kd : Int)) (19 + c) (v1 : Int)) 2 (E 2 + 1) j = E j := fun j q1 q2 q3 => up1_o q1 (up1_o q3 (up1_o q2 rfl))
    have ev2 : up1 (up1 (up1 E (11 + c) (kd : Int)) (19 + c) (v1 : Int)) 2 (E 2 + 1) 2 = E 2 + 1 := up1_s
    have evk : up1 (up1 (up1 E (11 + c) (kd : Int)) (19 + c) (v1 : Int)) 2 (E 2 + 1) (11 + c) = (kd : Int) := up1_o (by omega) (up1_o (by omega) up1_s)
    have evo : up1 (up1 (up1 E (11 + c) (kd : Int)) (19 + c) (v1 : Int)) 2 (E 2 + 1) (19 + c) = (v1 : Int) := up1_o (by omega) up1_s
    rw [hE1]
    refine CG_in (mL := 4) (hl := false) (lv := [some (.ref 53), some (.int (nI 2)), none, none]) (ll := []) rfl rfl rfl ?_
    refine G_S (pc := 0) f_77_0 rfl rfl rfl ?_
    refine G_gR (pc := 1) f_77_1 (by decide) rfl (by first | assumption | exact hK.1 _ _ rfl) (by first | assumption | exact hK.2 _ _ _ rfl | (try dsimp only) <;> (repeat (first | exact up2_s | refine up2_o (by first | decide | omega) ?_)) <;> first | assumption | exact hK.2 _ _ _ rfl) ?_
    refine G_ic (v := nI 0) (pc := 4) f_77_4 (by decide) ?_
    refine G_iaN (pc := 5) f_77_5 (by first | assumption | exact hK.1 _ _ rfl) (by omega) (by omega) (by first | exact h1 | rfl) ?_
    refine G_S (pc := 6) f_77_6 rfl rfl rfl ?_
    refine G_S (pc := 7) f_77_7 rfl rfl rfl ?_
    refine G_gR (pc := 8) f_77_8 (by decide) rfl (by first | assumption | exact hK.1 _ _ rfl) (by first | assumption | exact hK.2 _ _ _ rfl | (try dsimp only) <;> (repeat (first | exact up2_s | refine up2_o (by first | decide | omega) ?_)) <;> first | assumption | exact hK.2 _ _ _ rfl) ?_
    refine G_ic (v := nI 1) (pc := 11) f_77_11 (by decide) ?_
    refine G_ia (pc := 12) f_77_12 (by first | assumption | exact hK.1 _ _ rfl) (inn_nI (by decide) (by decide)) ?_
    refine G_S (pc := 13) f_77_13 rfl rfl rfl ?_
    refine G_S (pc := 14) f_77_14 rfl rfl rfl ?_
    skip
    · refine G_S (pc := 15) f_77_15 rfl rfl rfl ?_
      refine G_S (pc := 122) f_77_122 rfl rfl rfl ?_
      refine G_gR (pc := 123) f_77_123 (by decide) rfl (by first | assumption | exact hK.1 _ _ rfl) (by first | assumption | exact hK.2 _ _ _ rfl | (try dsimp only) <;> (repeat (first | exact up2_s | refine up2_o (by first | decide | omega) ?_)) <;> first | assumption | exact hK.2 _ _ _ rfl) ?_
      refine G_S (pc := 126) f_77_126 rfl rfl rfl ?_
      refine G_gIv (pc := 127) f_77_127 (by decide) rfl (by decide) (by first | assumption | exact hK.1 _ _ rfl) (by first | assumption | exact mI_s | ((refine mI_o (by first | decide | omega) ?_); (repeat (refine mI_o (by first | decide | omega) ?_)); first | exact mI_s | assumption) | rfl) ?_
      refine G_S (pc := 130) f_77_130 rfl rfl rfl ?_
      refine G_CV (pc := 131) f_77_131 rfl rfl (by decide) rfl rfl (by first | assumption | exact hK.1 _ _ rfl) (by decide) ⟨Nat.le_of_ble_eq_true rfl, Nat.le_of_ble_eq_true rfl⟩ ?_
      refine CG.mono (c_addRider hK a2' (by omega)) ?_
      rintro _ M2 ⟨rfl, rfl⟩
      refine G_S (pc := 134) f_77_134 rfl rfl rfl ?_
      refine G_rv (pc := 239) f_77_239 ?_
      refine ⟨rfl, ((Fp.up (i := 56) (k := c) (x := nI kd) (by decide) (by decide)).tr (Fp.up (i := 57) (k := c) (x := nI v1) (by decide) (by decide))).tr (Fp.up (i := 54) (k := 5) (x := nI (c + 1)) (by decide) (by decide)), ⟨⟨?_, ?_, ?_⟩, fun k hk => ?_, fun r hr => ?_, fun r hr => ?_, fun k hk => ?_, fun m q1 q2 => ?_⟩, ?_⟩
      · rw [ev 0 (by omega) (by omega) (by omega)]
        exact (by (try dsimp only); exact up2_o (by omega) (by (try dsimp only); exact up2_o (by omega) (by (try dsimp only); exact up2_o (by omega) a0)))
      · rw [ev 1 (by omega) (by omega) (by omega)]
        exact (by (try dsimp only); exact up2_o (by omega) (by (try dsimp only); exact up2_o (by omega) (by (try dsimp only); exact up2_o (by omega) a1)))
      · rw [ev2, ← zn' (m := c + 1) (by omega)]
        exact (by (try dsimp only); exact up2_s)
      · rw [ev 0 (by omega) (by omega) (by omega)] at hk
        rw [ev _ (by omega) (by omega) (by omega)]
        exact (by (try dsimp only); exact up2_o (by omega) (by (try dsimp only); exact up2_o (by omega) (by (try dsimp only); exact up2_o (by omega) (d1 k hk))))
      · rw [ev2] at hr
        by_cases q : r = c
        · subst q
          rw [evk, ← nI_zI]
          exact (by (try dsimp only); exact up2_o (by omega) (by (try dsimp only); exact up2_o (by omega) (by (try dsimp only); exact up2_s)))
        · rw [ev _ (by omega) (by omega) (by omega)]
          exact (by (try dsimp only); exact up2_o (by omega) (by (try dsimp only); exact up2_o (by omega) (by (try dsimp only); exact up2_o (by omega) (d2 r (by omega)))))
      · rw [ev2] at hr
        by_cases q : r = c
        · subst q
          rw [evo, ← nI_zI]
          exact (by (try dsimp only); exact up2_o (by omega) (by (try dsimp only); exact up2_s))
        · rw [ev _ (by omega) (by omega) (by omega)]
          exact (by (try dsimp only); exact up2_o (by omega) (by (try dsimp only); exact up2_o (by omega) (by (try dsimp only); exact up2_o (by omega) (d3 r (by omega)))))
      · rw [ev _ (by omega) (by omega) (by omega)]
        exact (by (try dsimp only); exact up2_o (by omega) (by (try dsimp only); exact up2_o (by omega) (by (try dsimp only); exact up2_o (by omega) (d4 k hk))))
      · rw [ev _ (by omega) (by omega) (by omega)]
        exact (by (try dsimp only); exact up2_o (by omega) (by (try dsimp only); exact up2_o (by omega) (by (try dsimp only); exact up2_o (by omega) (d5 m q1 q2))))
      · refine ⟨by rw [ev 0 (by omega) (by omega) (by omega)]; exact e0, by rw [ev 1 (by omega) (by omega) (by omega)]; exact e1, by rw [ev2]; omega, fun k hk => by rw [ev _ (by omega) (by omega) (by omega)]; exact e3 k hk, fun r hr => ?_, fun r hr => ?_, fun r hr => by rw [ev _ (by omega) (by omega) (by omega)]; exact e6 r hr, fun r hr => by rw [ev _ (by omega) (by omega) (by omega)]; exact e7 r hr⟩
        · by_cases q : r = c
          · subst q
            rw [evk]
            omega
          · rw [ev _ (by omega) (by omega) (by omega)]
            exact e4 r hr
        · by_cases q : r = c
          · subst q
            rw [evo]
            omega
          · rw [ev _ (by omega) (by omega) (by omega)]
            exact e5 r hr
  · have hk := hk (Or.inr rfl)
    have hr : v1 ≤ 9 := by
      have e : fmN 3 3 = 9 := by decide
      rw [show 3 + 2 * 0 = 3 from rfl, e] at hb1'
      omega
    have hE1 : tkE 3 kd (v1 : Int) (v2 : Int) true E = up1 E (27 + kd) (v1 : Int) := rfl
    have ev : ∀ j, j ≠ 27 + kd → up1 E (27 + kd) (v1 : Int) j = E j := fun j q1 => up1_o q1 rfl
    have evk : up1 E (27 + kd) (v1 : Int) (27 + kd) = (v1 : Int) := up1_s
    rw [hE1]
    refine CG_in (mL := 4) (hl := false) (lv := [some (.ref 53), some (.int (nI 3)), none, none]) (ll := []) rfl rfl rfl ?_
    refine G_S (pc := 0) f_77_0 rfl rfl rfl ?_
    refine G_gR (pc := 1) f_77_1 (by decide) rfl (by first | assumption | exact hK.1 _ _ rfl) (by first | assumption | exact hK.2 _ _ _ rfl | (try dsimp only) <;> (repeat (first | exact up2_s | refine up2_o (by first | decide | omega) ?_)) <;> first | assumption | exact hK.2 _ _ _ rfl) ?_
    refine G_ic (v := nI 0) (pc := 4) f_77_4 (by decide) ?_
    refine G_iaN (pc := 5) f_77_5 (by first | assumption | exact hK.1 _ _ rfl) (by omega) (by omega) (by first | exact h1 | rfl) ?_
    refine G_S (pc := 6) f_77_6 rfl rfl rfl ?_
    refine G_S (pc := 7) f_77_7 rfl rfl rfl ?_
    refine G_gR (pc := 8) f_77_8 (by decide) rfl (by first | assumption | exact hK.1 _ _ rfl) (by first | assumption | exact hK.2 _ _ _ rfl | (try dsimp only) <;> (repeat (first | exact up2_s | refine up2_o (by first | decide | omega) ?_)) <;> first | assumption | exact hK.2 _ _ _ rfl) ?_
    refine G_ic (v := nI 1) (pc := 11) f_77_11 (by decide) ?_
    refine G_ia (pc := 12) f_77_12 (by first | assumption | exact hK.1 _ _ rfl) (inn_nI (by decide) (by decide)) ?_
    refine G_S (pc := 13) f_77_13 rfl rfl rfl ?_
    refine G_S (pc := 14) f_77_14 rfl rfl rfl ?_
    skip
    · refine G_S (pc := 15) f_77_15 rfl rfl rfl ?_
      refine G_S (pc := 137) f_77_137 rfl rfl rfl ?_
      refine G_gR (pc := 138) f_77_138 (by decide) rfl (by first | assumption | exact hK.1 _ _ rfl) (by first | assumption | exact hK.2 _ _ _ rfl | (try dsimp only) <;> (repeat (first | exact up2_s | refine up2_o (by first | decide | omega) ?_)) <;> first | assumption | exact hK.2 _ _ _ rfl) ?_
      refine G_gR (pc := 141) f_77_141 (by decide) rfl (by first | assumption | exact hK.1 _ _ rfl) (by first | assumption | exact hK.2 _ _ _ rfl | (try dsimp only) <;> (repeat (first | exact up2_s | refine up2_o (by first | decide | omega) ?_)) <;> first | assumption | exact hK.2 _ _ _ rfl) ?_
      refine G_S (pc := 144) f_77_144 rfl rfl rfl ?_
      refine G_gIv (pc := 145) f_77_145 (by decide) rfl (by decide) (by first | assumption | exact hK.1 _ _ rfl) (by first | assumption | exact mI_s | ((refine mI_o (by first | decide | omega) ?_); (repeat (refine mI_o (by first | decide | omega) ?_)); first | exact mI_s | assumption) | rfl) ?_
      refine G_S (pc := 148) f_77_148 rfl rfl rfl ?_
      refine G_isN (pc := 149) f_77_149 (by first | assumption | exact hK.1 _ _ rfl) (by omega) (by omega) ?_
      refine G_S (pc := 150) f_77_150 rfl rfl rfl ?_
      refine G_rv (pc := 239) f_77_239 ?_
      refine ⟨rfl, Fp.up (i := 58) (k := kd) (x := nI v1) (by decide) (by decide), ⟨⟨?_, ?_, ?_⟩, fun k hk => ?_, fun r hr => ?_, fun r hr => ?_, fun k hk => ?_, fun m q1 q2 => ?_⟩, ?_⟩
      · rw [ev 0 (by omega)]
        exact (by (try dsimp only); exact up2_o (by omega) a0)
      · rw [ev 1 (by omega)]
        exact (by (try dsimp only); exact up2_o (by omega) a1)
      · rw [ev 2 (by omega)]
        exact (by (try dsimp only); exact up2_o (by omega) a2)
      · rw [ev 0 (by omega)] at hk
        rw [ev _ (by omega)]
        exact (by (try dsimp only); exact up2_o (by omega) (d1 k hk))
      · rw [ev 2 (by omega)] at hr
        rw [ev _ (by omega)]
        exact (by (try dsimp only); exact up2_o (by omega) (d2 r hr))
      · rw [ev 2 (by omega)] at hr
        rw [ev _ (by omega)]
        exact (by (try dsimp only); exact up2_o (by omega) (d3 r hr))
      · by_cases q : k = kd
        · subst q
          rw [evk, ← nI_zI]
          exact (by (try dsimp only); exact up2_s)
        · rw [ev _ (by omega)]
          exact (by (try dsimp only); exact up2_o (by omega) (d4 k hk))
      · rw [ev _ (by omega)]
        exact (by (try dsimp only); exact up2_o (by omega) (d5 m q1 q2))
      · refine ⟨by rw [ev 0 (by omega)]; exact e0, by rw [ev 1 (by omega)]; exact e1, by rw [ev 2 (by omega)]; exact e2, fun k hk => by rw [ev _ (by omega)]; exact e3 k hk, fun r hr => by rw [ev _ (by omega)]; exact e4 r hr, fun r hr => by rw [ev _ (by omega)]; exact e5 r hr, fun k hk => ?_, fun r hr => by rw [ev _ (by omega)]; exact e7 r hr⟩
        by_cases q : k = kd
        · subst q
          rw [evk]
          omega
        · rw [ev _ (by omega)]
          exact e6 k hk
  · have h2 := h2 rfl
    have hb2' := of_decide_eq_false (hb2 rfl)
    have hr : (1 ≤ v1 ∧ v1 ≤ 8) ∧ v2 ≤ 99 := by
      have e : fmN 4 3 = 8 ∧ fmN 4 2 = 1 ∧ fmN 4 5 = 99 := by decide
      rw [show 3 + 2 * 0 = 3 from rfl, show 2 + 2 * 0 = 2 from rfl, e.1, e.2.1] at hb1'
      rw [show 3 + 2 * 1 = 5 from rfl, e.2.2] at hb2'
      omega
    have hE1 : tkE 4 kd (v1 : Int) (v2 : Int) true E = up1 E (30 + v1) (v2 : Int) := rfl
    have ev : ∀ j, j ≠ 30 + v1 → up1 E (30 + v1) (v2 : Int) j = E j := fun j q1 => up1_o q1 rfl
    have evk : up1 E (30 + v1) (v2 : Int) (30 + v1) = (v2 : Int) := up1_s
    rw [hE1]
    refine CG_in (mL := 4) (hl := false) (lv := [some (.ref 53), some (.int (nI 4)), none, none]) (ll := []) rfl rfl rfl ?_
    refine G_S (pc := 0) f_77_0 rfl rfl rfl ?_
    refine G_gR (pc := 1) f_77_1 (by decide) rfl (by first | assumption | exact hK.1 _ _ rfl) (by first | assumption | exact hK.2 _ _ _ rfl | (try dsimp only) <;> (repeat (first | exact up2_s | refine up2_o (by first | decide | omega) ?_)) <;> first | assumption | exact hK.2 _ _ _ rfl) ?_
    refine G_ic (v := nI 0) (pc := 4) f_77_4 (by decide) ?_
    refine G_iaN (pc := 5) f_77_5 (by first | assumption | exact hK.1 _ _ rfl) (by omega) (by omega) (by first | exact h1 | rfl) ?_
    refine G_S (pc := 6) f_77_6 rfl rfl rfl ?_
    refine G_S (pc := 7) f_77_7 rfl rfl rfl ?_
    refine G_gR (pc := 8) f_77_8 (by decide) rfl (by first | assumption | exact hK.1 _ _ rfl) (by first | assumption | exact hK.2 _ _ _ rfl | (try dsimp only) <;> (repeat (first | exact up2_s | refine up2_o (by first | decide | omega) ?_)) <;> first | assumption | exact hK.2 _ _ _ rfl) ?_
    refine G_ic (v := nI 1) (pc := 11) f_77_11 (by decide) ?_
    refine G_iaN (pc := 12) f_77_12 (by first | assumption | exact hK.1 _ _ rfl) (by omega) (by omega) (by first | exact h2 | rfl) ?_
    refine G_S (pc := 13) f_77_13 rfl rfl rfl ?_
    refine G_S (pc := 14) f_77_14 rfl rfl rfl ?_
    skip
    · refine G_S (pc := 15) f_77_15 rfl rfl rfl ?_
      refine G_S (pc := 153) f_77_153 rfl rfl rfl ?_
      refine G_gR (pc := 154) f_77_154 (by decide) rfl (by first | assumption | exact hK.1 _ _ rfl) (by first | assumption | exact hK.2 _ _ _ rfl | (try dsimp only) <;> (repeat (first | exact up2_s | refine up2_o (by first | decide | omega) ?_)) <;> first | assumption | exact hK.2 _ _ _ rfl) ?_
      refine G_gR (pc := 157) f_77_157 (by decide) rfl (by first | assumption | exact hK.1 _ _ rfl) (by first | assumption | exact hK.2 _ _ _ rfl | (try dsimp only) <;> (repeat (first | exact up2_s | refine up2_o (by first | decide | omega) ?_)) <;> first | assumption | exact hK.2 _ _ _ rfl) ?_
      refine G_S (pc := 160) f_77_160 rfl rfl rfl ?_
      refine G_S (pc := 161) f_77_161 rfl rfl rfl ?_
      refine G_isN (pc := 162) f_77_162 (by first | assumption | exact hK.1 _ _ rfl) (by omega) (by omega) ?_
      refine G_S (pc := 163) f_77_163 rfl rfl rfl ?_
      refine G_rv (pc := 239) f_77_239 ?_
      refine ⟨rfl, Fp.up (i := 59) (k := v1) (x := nI v2) (by decide) (by decide), ⟨⟨?_, ?_, ?_⟩, fun k hk => ?_, fun r hr => ?_, fun r hr => ?_, fun k hk => ?_, fun m q1 q2 => ?_⟩, ?_⟩
      · rw [ev 0 (by omega)]
        exact (by (try dsimp only); exact up2_o (by omega) a0)
      · rw [ev 1 (by omega)]
        exact (by (try dsimp only); exact up2_o (by omega) a1)
      · rw [ev 2 (by omega)]
        exact (by (try dsimp only); exact up2_o (by omega) a2)
      · rw [ev 0 (by omega)] at hk
        rw [ev _ (by omega)]
        exact (by (try dsimp only); exact up2_o (by omega) (d1 k hk))
      · rw [ev 2 (by omega)] at hr
        rw [ev _ (by omega)]
        exact (by (try dsimp only); exact up2_o (by omega) (d2 r hr))
      · rw [ev 2 (by omega)] at hr
        rw [ev _ (by omega)]
        exact (by (try dsimp only); exact up2_o (by omega) (d3 r hr))
      · rw [ev _ (by omega)]
        exact (by (try dsimp only); exact up2_o (by omega) (d4 k hk))
      · by_cases q : m = v1
        · subst q
          rw [evk, ← nI_zI]
          exact (by (try dsimp only); exact up2_s)
        · rw [ev _ (by omega)]
          exact (by (try dsimp only); exact up2_o (by omega) (d5 m q1 q2))
      · refine ⟨by rw [ev 0 (by omega)]; exact e0, by rw [ev 1 (by omega)]; exact e1, by rw [ev 2 (by omega)]; exact e2, fun k hk => by rw [ev _ (by omega)]; exact e3 k hk, fun r hr => by rw [ev _ (by omega)]; exact e4 r hr, fun r hr => by rw [ev _ (by omega)]; exact e5 r hr, fun k hk => by rw [ev _ (by omega)]; exact e6 k hk, fun k hk => ?_⟩
        by_cases q : 31 + k = 30 + v1
        · rw [q, evk]
          omega
        · rw [ev _ (by omega)]
          exact e7 k hk
end CTK
