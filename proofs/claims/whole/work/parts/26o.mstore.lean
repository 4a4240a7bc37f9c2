/-! the reference: store -/
section MST
variable {C : Ct} {M : Mm} {o n N a : Nat}
theorem m_store (hK : KM M.1 M.2.2.2) (T : M.1[o]? = some (50, N)) (ho : o ≠ 108) (hn : n ≤ 121) (ha : a < 2) (hN : 2 * n ≤ N) (hN2 : N < 2000) : CG C 221 [.ref 98, .ref o, .int (nI n), .int (nI a)] M (fun w M' => w = none ∧ ∃ X, M' = (M.1, X, M.2.2.1, M.2.2.2) ∧ (∀ i, i ≠ o → X i = M.2.1 i) ∧ (∀ j, j < n → X o (n * a + j) = M.2.1 108 j) ∧ ∀ j, j < n * a ∨ n * a + n ≤ j → X o j = M.2.1 o j) := by
  have ma : n * a ≤ n * 1 := Nat.mul_le_mul_left n (by omega)
  have loop : ∀ i, i ≤ n → ∀ X, (∀ i, i ≠ o → X i = M.2.1 i) → (∀ j, j < i → X o (n * a + j) = M.2.1 108 j) → (∀ j, j < n * a ∨ n * a + i ≤ j → X o j = M.2.1 o j) → G C 221 (3, [some (.ref 98), some (.ref o), some (.int (nI n)), some (.int (nI a)), some (.int (nI i))], [], [], (M.1, X, M.2.2.1, M.2.2.2)) (fun w M' => w = none ∧ ∃ X, M' = (M.1, X, M.2.2.1, M.2.2.2) ∧ (∀ i, i ≠ o → X i = M.2.1 i) ∧ (∀ j, j < n → X o (n * a + j) = M.2.1 108 j) ∧ ∀ j, j < n * a ∨ n * a + n ≤ j → X o j = M.2.1 o j) := by
    refine upto (fun i hi ih X h1 h2 h3 => ?_)
    by_cases hin : i < n
    · have hv : X 108 i = M.2.1 108 i := by rw [h1 108 (by omega)]
      refine G_S (pc := 3) f_221_3 rfl rfl rfl ?_
      refine G_S (pc := 5) f_221_5 rfl rfl rfl ?_
      refine G_jgeZ (pc := 6) f_221_6 rfl (by first | exact nI_toInt (by omega) | exact zI_toInt (by omega) (by omega) | rfl) (by first | exact nI_toInt (by omega) | exact zI_toInt (by omega) (by omega) | rfl) (fun b1 => ?_) (fun b1 => ?_)
      · exfalso; omega
      · refine G_S (pc := 9) f_221_9 rfl rfl rfl ?_
        refine G_S (pc := 10) f_221_10 rfl rfl rfl ?_
        refine G_S (pc := 11) f_221_11 rfl rfl rfl ?_
        first | refine G_mulN (pc := 12) f_221_12 ?_ | refine G_mulZ (pc := 12) f_221_12 (by first | rfl | exact nI_zI _) (by first | rfl | exact nI_zI _) ?_ | refine G_S (pc := 12) f_221_12 rfl rfl rfl ?_
        refine G_S (pc := 13) f_221_13 rfl rfl rfl ?_
        first | refine G_addN (pc := 15) f_221_15 ?_ | refine G_addZ (pc := 15) f_221_15 (by first | rfl | exact nI_zI _) (by first | rfl | exact nI_zI _) ?_ | refine G_S (pc := 15) f_221_15 rfl rfl rfl ?_
        refine G_S (pc := 16) f_221_16 rfl rfl rfl ?_
        refine G_gR (pc := 17) f_221_17 (by decide) rfl (by first | assumption | exact hK.1 _ _ rfl) (by first | assumption | exact hK.2 _ _ _ rfl | (try dsimp only) <;> (repeat (first | exact up2_s | refine up2_o (by first | decide | omega) ?_)) <;> first | assumption | exact hK.2 _ _ _ rfl) ?_
        refine G_S (pc := 20) f_221_20 rfl rfl rfl ?_
        refine G_iaN (pc := 22) f_221_22 (by first | assumption | exact hK.1 _ _ rfl) (by omega) (by omega) (by first | exact hv | rfl) ?_
        refine G_isN (pc := 23) f_221_23 (by first | assumption | exact hK.1 _ _ rfl) (by omega) (by omega) ?_
        first | refine G_inc1 (pc := 24) f_221_24 rfl ?_ | refine G_S (pc := 24) f_221_24 rfl rfl rfl ?_
        refine G_S (pc := 27) f_221_27 rfl rfl rfl ?_
        refine ih hin _ (fun j hj => ?_) (fun j hj => ?_) (fun j hj => ?_)
        · exact (up2_ne hj).trans (h1 j hj)
        · by_cases q : j = i
          · subst q
            exact up2_s
          · exact up2_o (by omega) (h2 j (by omega))
        · exact up2_o (by omega) (h3 j (by omega))
    · refine G_S (pc := 3) f_221_3 rfl rfl rfl ?_
      refine G_S (pc := 5) f_221_5 rfl rfl rfl ?_
      refine G_jgeZ (pc := 6) f_221_6 rfl (by first | exact nI_toInt (by omega) | exact zI_toInt (by omega) (by omega) | rfl) (by first | exact nI_toInt (by omega) | exact zI_toInt (by omega) (by omega) | rfl) (fun b1 => ?_) (fun b1 => ?_)
      · refine G_rv (pc := 30) f_221_30 ?_
        obtain rfl : i = n := by omega
        exact ⟨rfl, X, rfl, h1, h2, h3⟩
      · exfalso; omega
  refine CG_in (mL := 5) (hl := false) (lv := [some (.ref 98), some (.ref o), some (.int (nI n)), some (.int (nI a)), none]) (ll := []) rfl rfl rfl ?_
  refine G_ic (v := nI 0) (pc := 0) f_221_0 (by decide) ?_
  refine G_S (pc := 1) f_221_1 rfl rfl rfl ?_
  exact loop 0 (Nat.zero_le _) _ (fun _ _ => rfl) (fun j hj => absurd hj (Nat.not_lt_zero j)) (fun j hj => rfl)
def wdN (so : Nat) : Nat := if so = 0 then 39 else if so = 1 then 121 else if so = 2 then 25 else 32
def SAq (so a : Nat) (M : Mm) (w : Option Value) (M' : Mm) : Prop := w = none ∧ ∃ X, M' = (M.1, X, M.2.2.1, M.2.2.2) ∧ (∀ i, i ≠ 104 + so → X i = M.2.1 i) ∧ (∀ j, j < wdN so → X (104 + so) (wdN so * a + j) = M.2.1 108 j) ∧ ∀ j, j < wdN so * a ∨ wdN so * a + wdN so ≤ j → X (104 + so) j = M.2.1 (104 + so) j
theorem m_storeAll {so : Nat} (hK : KM M.1 M.2.2.2) (hso : so < 4) (ha : a < 2) : CG C 222 [.ref 98, .int (nI so), .int (nI a)] M (SAq so a M) := by
  rcases (show so = 0 ∨ so = 1 ∨ so = 2 ∨ so = 3 by omega) with rfl | rfl | rfl | rfl
  · refine CG_in (mL := 3) (hl := false) (lv := [some (.ref 98), some (.int (nI 0)), some (.int (nI a))]) (ll := []) rfl rfl rfl ?_
    refine G_S (pc := 0) f_222_0 rfl rfl rfl ?_
    skip
    · refine G_S (pc := 1) f_222_1 rfl rfl rfl ?_
      refine G_S (pc := 28) f_222_28 rfl rfl rfl ?_
      refine G_S (pc := 29) f_222_29 rfl rfl rfl ?_
      refine G_gR (pc := 30) f_222_30 (by decide) rfl (by first | assumption | exact hK.1 _ _ rfl) (by first | assumption | exact hK.2 _ _ _ rfl | (try dsimp only) <;> (repeat (first | exact up2_s | refine up2_o (by first | decide | omega) ?_)) <;> first | assumption | exact hK.2 _ _ _ rfl) ?_
      refine G_bi (v := nI 39) (pc := 33) f_222_33 (by decide) ?_
      refine G_S (pc := 35) f_222_35 rfl rfl rfl ?_
      refine G_CV (pc := 36) f_222_36 rfl rfl (by decide) rfl rfl (by first | assumption | exact hK.1 _ _ rfl) (by decide) ⟨Nat.le_of_ble_eq_true rfl, Nat.le_of_ble_eq_true rfl⟩ ?_
      refine CG.mono (m_store (o := 104) (n := 39) hK (hK.1 104 _ rfl) (by decide) (by decide) ha (by decide) (by decide)) ?_
      rintro _ M1 ⟨rfl, X, rfl, p1, p2, p3⟩
      refine G_rv (pc := 39) f_222_39 ?_
      exact ⟨rfl, X, rfl, p1, p2, p3⟩
  · refine CG_in (mL := 3) (hl := false) (lv := [some (.ref 98), some (.int (nI 1)), some (.int (nI a))]) (ll := []) rfl rfl rfl ?_
    refine G_S (pc := 0) f_222_0 rfl rfl rfl ?_
    skip
    · refine G_S (pc := 1) f_222_1 rfl rfl rfl ?_
      refine G_S (pc := 40) f_222_40 rfl rfl rfl ?_
      refine G_S (pc := 41) f_222_41 rfl rfl rfl ?_
      refine G_gR (pc := 42) f_222_42 (by decide) rfl (by first | assumption | exact hK.1 _ _ rfl) (by first | assumption | exact hK.2 _ _ _ rfl | (try dsimp only) <;> (repeat (first | exact up2_s | refine up2_o (by first | decide | omega) ?_)) <;> first | assumption | exact hK.2 _ _ _ rfl) ?_
      refine G_bi (v := nI 121) (pc := 45) f_222_45 (by decide) ?_
      refine G_S (pc := 47) f_222_47 rfl rfl rfl ?_
      refine G_CV (pc := 48) f_222_48 rfl rfl (by decide) rfl rfl (by first | assumption | exact hK.1 _ _ rfl) (by decide) ⟨Nat.le_of_ble_eq_true rfl, Nat.le_of_ble_eq_true rfl⟩ ?_
      refine CG.mono (m_store (o := 105) (n := 121) hK (hK.1 105 _ rfl) (by decide) (by decide) ha (by decide) (by decide)) ?_
      rintro _ M1 ⟨rfl, X, rfl, p1, p2, p3⟩
      refine G_rv (pc := 51) f_222_51 ?_
      exact ⟨rfl, X, rfl, p1, p2, p3⟩
  · refine CG_in (mL := 3) (hl := false) (lv := [some (.ref 98), some (.int (nI 2)), some (.int (nI a))]) (ll := []) rfl rfl rfl ?_
    refine G_S (pc := 0) f_222_0 rfl rfl rfl ?_
    skip
    · refine G_S (pc := 1) f_222_1 rfl rfl rfl ?_
      refine G_S (pc := 52) f_222_52 rfl rfl rfl ?_
      refine G_S (pc := 53) f_222_53 rfl rfl rfl ?_
      refine G_gR (pc := 54) f_222_54 (by decide) rfl (by first | assumption | exact hK.1 _ _ rfl) (by first | assumption | exact hK.2 _ _ _ rfl | (try dsimp only) <;> (repeat (first | exact up2_s | refine up2_o (by first | decide | omega) ?_)) <;> first | assumption | exact hK.2 _ _ _ rfl) ?_
      refine G_bi (v := nI 25) (pc := 57) f_222_57 (by decide) ?_
      refine G_S (pc := 59) f_222_59 rfl rfl rfl ?_
      refine G_CV (pc := 60) f_222_60 rfl rfl (by decide) rfl rfl (by first | assumption | exact hK.1 _ _ rfl) (by decide) ⟨Nat.le_of_ble_eq_true rfl, Nat.le_of_ble_eq_true rfl⟩ ?_
      refine CG.mono (m_store (o := 106) (n := 25) hK (hK.1 106 _ rfl) (by decide) (by decide) ha (by decide) (by decide)) ?_
      rintro _ M1 ⟨rfl, X, rfl, p1, p2, p3⟩
      refine G_rv (pc := 63) f_222_63 ?_
      exact ⟨rfl, X, rfl, p1, p2, p3⟩
  · refine CG_in (mL := 3) (hl := false) (lv := [some (.ref 98), some (.int (nI 3)), some (.int (nI a))]) (ll := []) rfl rfl rfl ?_
    refine G_S (pc := 0) f_222_0 rfl rfl rfl ?_
    skip
    · refine G_tsO (pc := 1) f_222_1 rfl ((by decide)) ?_
      refine G_S (pc := 64) f_222_64 rfl rfl rfl ?_
      refine G_S (pc := 65) f_222_65 rfl rfl rfl ?_
      refine G_gR (pc := 66) f_222_66 (by decide) rfl (by first | assumption | exact hK.1 _ _ rfl) (by first | assumption | exact hK.2 _ _ _ rfl | (try dsimp only) <;> (repeat (first | exact up2_s | refine up2_o (by first | decide | omega) ?_)) <;> first | assumption | exact hK.2 _ _ _ rfl) ?_
      refine G_bi (v := nI 32) (pc := 69) f_222_69 (by decide) ?_
      refine G_S (pc := 71) f_222_71 rfl rfl rfl ?_
      refine G_CV (pc := 72) f_222_72 rfl rfl (by decide) rfl rfl (by first | assumption | exact hK.1 _ _ rfl) (by decide) ⟨Nat.le_of_ble_eq_true rfl, Nat.le_of_ble_eq_true rfl⟩ ?_
      refine CG.mono (m_store (o := 107) (n := 32) hK (hK.1 107 _ rfl) (by decide) (by decide) ha (by decide) (by decide)) ?_
      rintro _ M1 ⟨rfl, X, rfl, p1, p2, p3⟩
      refine G_rv (pc := 75) f_222_75 ?_
      exact ⟨rfl, X, rfl, p1, p2, p3⟩
end MST
