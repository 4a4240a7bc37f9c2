/-! flows: by their numbers, and the reference -/
def CFs (M : Mm) (n : Nat) (L : Nat → Nat → Nat) : Prop := KM M.1 M.2.2.2 ∧ M.2.1 3 2 = nI n ∧ n ≤ 2 ∧ ∀ l, l < n → FW M (19 + 22 * l) (L l)
def MFs (M : Mm) (n : Nat) (L : Nat → Nat → Nat) : Prop := KM M.1 M.2.2.2 ∧ M.2.1 103 2 = nI n ∧ n ≤ 2 ∧ ∀ l, l < n → FOK (L l) ∧ ∀ j, j < 25 → M.2.1 106 (25 * l + j) = nI (L l j)
def mFl (M : Mm) (g : Nat) (F : Nat → Nat) : Prop := KM M.1 M.2.2.2 ∧ M.2.1 98 42 = nI g ∧ g < 8 ∧ FOK F ∧ ∀ j, j < 25 → M.2.1 106 (25 * g + j) = nI (F j)
theorem MFs.q {M M' : Mm} {n : Nat} {L : Nat → Nat → Nat} (W : MFs M n L) (h : mQ M M') : MFs M' n L := by
  refine ⟨h.K W.1, by rw [(h.2 103 (by decide)).1]; exact W.2.1, W.2.2.1, ?_⟩
  rw [(h.2 106 (by decide)).1]
  exact W.2.2.2
theorem mFl.fo {M M' : Mm} {g : Nat} {F : Nat → Nat} {os : List Nat} (W : mFl M g F) (h : Fo os M M') (h1 : 98 ∉ os) (h2 : 106 ∉ os) : mFl M' g F := by
  refine ⟨h.K W.1, by rw [(h.2 98 h1).1]; exact W.2.1, W.2.2.1, W.2.2.2.1, ?_⟩
  rw [(h.2 106 h2).1]
  exact W.2.2.2.2
section WFL
variable {C : Ct} {M : Mm} {n g : Nat} {L : Nat → Nat → Nat} {k x : Int32} {F : Nat → Nat}
theorem m_isT {so : Nat} (hK : KM M.1 M.2.2.2) (hs : so < 4) (hn : M.2.1 103 so = nI n) (hn2 : n ≤ 2) : CG C 196 [.ref 98, .int (nI so), .int k] M (fun w M' => w = some (.int (b2i (0 ≤ k.toInt ∧ k.toInt < (n : Int)))) ∧ M' = M) := by
  refine CG.mono (m_is hK hs) ?_
  rintro w M' ⟨rfl, rfl⟩
  refine ⟨?_, rfl⟩
  congr 2
  refine b2i_congr ?_
  rw [Int32.le_iff_toInt_le, Int32.le_iff_toInt_le, hn, show (1 : Int32) = nI 1 from rfl, pk_sub_toInt (by omega) (by omega), Int32.toInt_zero]
  omega
theorem c_flowAtS (W : CFs M n L) (hl : lin n L k = some F) : CG C 181 [.ref 0, .int k] M (fun w M' => (∃ l : Nat, l < 2 ∧ w = some (.ref (19 + 22 * l)) ∧ FW M (19 + 22 * l) F) ∧ M' = M) := by
  obtain ⟨hK, hn, hn2, hW⟩ := W
  obtain ⟨l, h1, rfl, rfl⟩ := lin_some hl
  have hr : M.2.2.2 6 l = some (19 + 22 * l) := by
    rcases (show l = 0 ∨ l = 1 by omega) with rfl | rfl
    · exact hK.2 6 0 19 rfl
    · exact hK.2 6 1 41 rfl
  refine CG_in (mL := 2) (hl := false) (lv := [some (.ref 0), some (.int (nI l))]) (ll := []) rfl rfl rfl ?_
  refine G_S (pc := 0) f_181_0 rfl rfl rfl ?_
  refine G_zltZ (pc := 1) f_181_1 rfl (by first | exact nI_toInt (by omega) | exact zI_toInt (by omega) (by omega) | rfl) (fun b1 => ?_) (fun b1 => ?_)
  · exfalso; omega
  · refine G_S (pc := 4) f_181_4 rfl rfl rfl ?_
    refine G_S (pc := 5) f_181_5 rfl rfl rfl ?_
    refine G_gR (pc := 6) f_181_6 (by decide) rfl (by first | assumption | exact hK.1 _ _ rfl) (by first | assumption | exact hK.2 _ _ _ rfl | (try dsimp only) <;> (repeat (first | exact up2_s | refine up2_o (by first | decide | omega) ?_)) <;> first | assumption | exact hK.2 _ _ _ rfl) ?_
    refine G_gR (pc := 9) f_181_9 (by decide) rfl (by first | assumption | exact hK.1 _ _ rfl) (by first | assumption | exact hK.2 _ _ _ rfl | (try dsimp only) <;> (repeat (first | exact up2_s | refine up2_o (by first | decide | omega) ?_)) <;> first | assumption | exact hK.2 _ _ _ rfl) ?_
    refine G_ic (v := nI 2) (pc := 12) f_181_12 (by decide) ?_
    refine G_iaN (pc := 13) f_181_13 (by first | assumption | exact hK.1 _ _ rfl) (by omega) (by omega) (by first | assumption | exact q1 _ (by omega) | exact q2 _ (by omega) | exact q3 _ (by omega) | exact q4 _ (by omega) | exact q5 _ (by omega) | exact vh _ (by omega) | exact (vr _ (by omega)).1 | exact (vr _ (by omega)).2 | exact vw _ (by omega) | exact vf _ (by omega) (by omega) | rfl) ?_
    refine G_jgeZ (pc := 14) f_181_14 rfl (by first | exact nI_toInt (by omega) | exact zI_toInt (by omega) (by omega) | rfl) (by first | exact nI_toInt (by omega) | exact zI_toInt (by omega) (by omega) | rfl) (fun b2 => ?_) (fun b2 => ?_)
    · exfalso; omega
    · refine G_S (pc := 17) f_181_17 rfl rfl rfl ?_
      refine G_gR (pc := 18) f_181_18 (by decide) rfl (by first | assumption | exact hK.1 _ _ rfl) (by first | assumption | exact hK.2 _ _ _ rfl | (try dsimp only) <;> (repeat (first | exact up2_s | refine up2_o (by first | decide | omega) ?_)) <;> first | assumption | exact hK.2 _ _ _ rfl) ?_
      refine G_gR (pc := 21) f_181_21 (by decide) rfl (by first | assumption | exact hK.1 _ _ rfl) (by first | assumption | exact hK.2 _ _ _ rfl | (try dsimp only) <;> (repeat (first | exact up2_s | refine up2_o (by first | decide | omega) ?_)) <;> first | assumption | exact hK.2 _ _ _ rfl) ?_
      refine G_S (pc := 24) f_181_24 rfl rfl rfl ?_
      refine G_aaN2 (pc := 25) f_181_25 (by first | assumption | exact hK.1 _ _ rfl) (by decide) (by omega) (by omega) (by first | exact hr | assumption) ?_
      refine G_S (pc := 26) f_181_26 rfl rfl rfl ?_
      first | refine G_ra (pc := 30) f_181_30 ?_ | refine G_rnl (pc := 30) f_181_30 ?_
      exact ⟨⟨l, by omega, rfl, hW l h1⟩, rfl⟩
theorem c_flowAtN (W : CFs M n L) (hl : lin n L k = none) : CG C 181 [.ref 0, .int k] M (fun w M' => w = some .null ∧ M' = M) := by
  obtain ⟨hK, hn, hn2, hW⟩ := W
  have hk := lin_none hl
  refine CG_in (mL := 2) (hl := false) (lv := [some (.ref 0), some (.int k)]) (ll := []) rfl rfl rfl ?_
  refine G_S (pc := 0) f_181_0 rfl rfl rfl ?_
  refine G_zltZ (pc := 1) f_181_1 rfl (by first | exact nI_toInt (by omega) | exact zI_toInt (by omega) (by omega) | rfl) (fun b1 => ?_) (fun b1 => ?_)
  · refine G_S (pc := 29) f_181_29 rfl rfl rfl ?_
    first | refine G_ra (pc := 30) f_181_30 ?_ | refine G_rnl (pc := 30) f_181_30 ?_
    exact ⟨rfl, rfl⟩
  · refine G_S (pc := 4) f_181_4 rfl rfl rfl ?_
    refine G_S (pc := 5) f_181_5 rfl rfl rfl ?_
    refine G_gR (pc := 6) f_181_6 (by decide) rfl (by first | assumption | exact hK.1 _ _ rfl) (by first | assumption | exact hK.2 _ _ _ rfl | (try dsimp only) <;> (repeat (first | exact up2_s | refine up2_o (by first | decide | omega) ?_)) <;> first | assumption | exact hK.2 _ _ _ rfl) ?_
    refine G_gR (pc := 9) f_181_9 (by decide) rfl (by first | assumption | exact hK.1 _ _ rfl) (by first | assumption | exact hK.2 _ _ _ rfl | (try dsimp only) <;> (repeat (first | exact up2_s | refine up2_o (by first | decide | omega) ?_)) <;> first | assumption | exact hK.2 _ _ _ rfl) ?_
    refine G_ic (v := nI 2) (pc := 12) f_181_12 (by decide) ?_
    refine G_iaN (pc := 13) f_181_13 (by first | assumption | exact hK.1 _ _ rfl) (by omega) (by omega) (by first | assumption | exact q1 _ (by omega) | exact q2 _ (by omega) | exact q3 _ (by omega) | exact q4 _ (by omega) | exact q5 _ (by omega) | exact vh _ (by omega) | exact (vr _ (by omega)).1 | exact (vr _ (by omega)).2 | exact vw _ (by omega) | exact vf _ (by omega) (by omega) | rfl) ?_
    refine G_jgeZ (pc := 14) f_181_14 rfl (by first | exact nI_toInt (by omega) | exact zI_toInt (by omega) (by omega) | rfl) (by first | exact nI_toInt (by omega) | exact zI_toInt (by omega) (by omega) | rfl) (fun b2 => ?_) (fun b2 => ?_)
    · refine G_S (pc := 29) f_181_29 rfl rfl rfl ?_
      first | refine G_ra (pc := 30) f_181_30 ?_ | refine G_rnl (pc := 30) f_181_30 ?_
      exact ⟨rfl, rfl⟩
    · exfalso; omega
theorem c_flow (W : CFs M n L) : CG C 174 [.ref 0, .int k, .int x] M (fun w M' => w = some (.int (aLin (lin n L k) (zI (-1)) (fun F => flF F x))) ∧ Fc CS M M') := by
  have hK := W.1
  cases hl : lin n L k with
  | none =>
    refine CG_in (mL := 4) (hl := false) (lv := [some (.ref 0), some (.int k), some (.int x), none]) (ll := []) rfl rfl rfl ?_
    refine G_S (pc := 0) f_174_0 rfl rfl rfl ?_
    refine G_S (pc := 1) f_174_1 rfl rfl rfl ?_
    refine G_CV (pc := 2) f_174_2 rfl rfl (by decide) rfl rfl (by first | assumption | exact hK.1 _ _ rfl) (by decide) ⟨Nat.le_of_ble_eq_true rfl, Nat.le_of_ble_eq_true rfl⟩ ?_
    refine CG.go (c_flowAtN W hl) ?_
    refine G_S (pc := 5) f_174_5 rfl rfl rfl ?_
    refine G_S (pc := 6) f_174_6 rfl rfl rfl ?_
    refine G_S (pc := 7) f_174_7 rfl rfl rfl ?_
    refine G_ic (v := zI (-1)) (pc := 10) f_174_10 (by decide) ?_
    refine G_S (pc := 11) f_174_11 rfl rfl rfl ?_
    refine G_ri (pc := 19) f_174_19 ?_
    exact ⟨rfl, Fc.rf⟩
  | some F =>
    refine CG_in (mL := 4) (hl := false) (lv := [some (.ref 0), some (.int k), some (.int x), none]) (ll := []) rfl rfl rfl ?_
    refine G_S (pc := 0) f_174_0 rfl rfl rfl ?_
    refine G_S (pc := 1) f_174_1 rfl rfl rfl ?_
    refine G_CV (pc := 2) f_174_2 rfl rfl (by decide) rfl rfl (by first | assumption | exact hK.1 _ _ rfl) (by decide) ⟨Nat.le_of_ble_eq_true rfl, Nat.le_of_ble_eq_true rfl⟩ ?_
    refine CG.mono (c_flowAtS W hl) ?_
    rintro _ M1 ⟨⟨l, hl2, rfl, W1⟩, rfl⟩
    have hK := W1.1
    obtain ⟨⟨t0, t1, t2, t3, t4⟩, r1, r2, r3, r4⟩ := W1.2.1
    obtain ⟨hFO, v0, q1⟩ := W1.2.2.1
    have hg := W1.2.2.2
    have hn1 := hFO.1
    have hc9 := hFO.2
    refine G_S (pc := 5) f_174_5 rfl rfl rfl ?_
    refine G_S (pc := 6) f_174_6 rfl rfl rfl ?_
    refine G_S (pc := 7) f_174_7 rfl rfl (if_pos (by first | assumption | omega)) ?_
    refine G_S (pc := 14) f_174_14 rfl rfl rfl ?_
    refine G_S (pc := 15) f_174_15 rfl rfl rfl ?_
    refine G_CV (pc := 16) f_174_16 rfl rfl (by decide) rfl rfl (by first | assumption | exact hK.1 _ _ rfl) (by decide) ⟨Nat.le_of_ble_eq_true rfl, Nat.le_of_ble_eq_true rfl⟩ ?_
    refine CG.go (f_answer W1) ?_
    refine G_ri (pc := 19) f_174_19 ?_
    exact ⟨rfl, Fc.rf⟩
theorem h_hasS (W : MFs M n L) (hl : lin n L k = some F) : CG C 278 [.ref 98, .int k] M (fun w M' => w = some (.int (b2i (True))) ∧ mQ M M' ∧ ∃ g, mFl M' g F) := by
  obtain ⟨hK, hn, hn2, hW⟩ := W
  obtain ⟨l, h1, rfl, rfl⟩ := lin_some hl
  refine CG_in (mL := 2) (hl := false) (lv := [some (.ref 98), some (.int (nI l))]) (ll := []) rfl rfl rfl ?_
  refine G_S (pc := 0) f_278_0 rfl rfl rfl ?_
  refine G_S (pc := 1) f_278_1 rfl rfl rfl ?_
  refine G_pI (pc := 2) f_278_2 rfl (by first | assumption | exact hK.1 _ _ rfl) ?_
  refine G_S (pc := 5) f_278_5 rfl rfl rfl ?_
  refine G_ic (v := nI 2) (pc := 6) f_278_6 (by decide) ?_
  refine G_S (pc := 7) f_278_7 rfl rfl rfl ?_
  refine G_CV (pc := 8) f_278_8 rfl rfl (by decide) rfl rfl (by first | assumption | exact hK.1 _ _ rfl) (by decide) ⟨Nat.le_of_ble_eq_true rfl, Nat.le_of_ble_eq_true rfl⟩ ?_
  refine CG.go (m_isT (n := n) hK (by decide) (by (try dsimp only); exact up2_o (by omega) hn) hn2) ?_
  refine G_rz (pc := 11) f_278_11 (by first | exact Or.inl rfl | exact Or.inr rfl | exact b2i_01 _ | assumption) ?_
  refine ⟨?_, mQ.cod, l, hK, (by (try dsimp only); exact up2_s), by omega, (hW l h1).1, fun j hj => ?_⟩
  · rw [b2i_pos (by rw [nI_toInt (by omega)]; omega)]
    rfl
  · exact (by (try dsimp only); exact up2_o (by omega) ((hW l h1).2 j hj))
theorem h_hasN (W : MFs M n L) (hl : lin n L k = none) : CG C 278 [.ref 98, .int k] M (fun w M' => w = some (.int (b2i (False))) ∧ mQ M M') := by
  obtain ⟨hK, hn, hn2, hW⟩ := W
  have hk := lin_none hl
  refine CG_in (mL := 2) (hl := false) (lv := [some (.ref 98), some (.int k)]) (ll := []) rfl rfl rfl ?_
  refine G_S (pc := 0) f_278_0 rfl rfl rfl ?_
  refine G_S (pc := 1) f_278_1 rfl rfl rfl ?_
  refine G_pI (pc := 2) f_278_2 rfl (by first | assumption | exact hK.1 _ _ rfl) ?_
  refine G_S (pc := 5) f_278_5 rfl rfl rfl ?_
  refine G_ic (v := nI 2) (pc := 6) f_278_6 (by decide) ?_
  refine G_S (pc := 7) f_278_7 rfl rfl rfl ?_
  refine G_CV (pc := 8) f_278_8 rfl rfl (by decide) rfl rfl (by first | assumption | exact hK.1 _ _ rfl) (by decide) ⟨Nat.le_of_ble_eq_true rfl, Nat.le_of_ble_eq_true rfl⟩ ?_
  refine CG.go (m_isT (n := n) hK (by decide) (by (try dsimp only); exact up2_o (by omega) hn) hn2) ?_
  refine G_rz (pc := 11) f_278_11 (by first | exact Or.inl rfl | exact Or.inr rfl | exact b2i_01 _ | assumption) ?_
  refine ⟨?_, mQ.cod⟩
  rw [b2i_neg hk]
  rfl
theorem h_need (W : mFl M g F) : CG C 276 [.ref 98] M (fun w M' => w = some (.int (nI (F 0))) ∧ M' = M) := by
  have hK := W.1
  obtain ⟨v0, hg8, hFO, ao⟩ := W.2
  have hn1 := hFO.1
  have hc9 := hFO.2
  have q1 : M.2.1 106 (25 * g) = nI (F 0) := ao 0 (by omega)
  refine CG_in (mL := 1) (hl := false) (lv := [some (.ref 98)]) (ll := []) rfl rfl rfl ?_
  refine G_S (pc := 0) f_276_0 rfl rfl rfl ?_
  refine G_gR (pc := 1) f_276_1 (by decide) rfl (by first | assumption | exact hK.1 _ _ rfl) (by first | assumption | exact hK.2 _ _ _ rfl | (try dsimp only) <;> (repeat (first | exact up2_s | refine up2_o (by first | decide | omega) ?_)) <;> first | assumption | exact hK.2 _ _ _ rfl) ?_
  refine G_bi (v := nI 25) (pc := 4) f_276_4 (by decide) ?_
  refine G_S (pc := 6) f_276_6 rfl rfl rfl ?_
  refine G_gIv (pc := 7) f_276_7 (by decide) rfl (by decide) (by first | assumption | exact hK.1 _ _ rfl) (by first | assumption | (try dsimp only) <;> (repeat (first | exact up2_s | refine up2_o (by first | decide | omega) ?_)) <;> first | assumption | rfl) ?_
  first | refine G_mulN (pc := 10) f_276_10 ?_ | refine G_mulZ (pc := 10) f_276_10 (by first | rfl | exact nI_zI _) (by first | rfl | exact nI_zI _) ?_ | refine G_S (pc := 10) f_276_10 rfl rfl rfl ?_
  refine G_iaN (pc := 11) f_276_11 (by first | assumption | exact hK.1 _ _ rfl) (by omega) (by omega) (by first | assumption | exact q1 _ (by omega) | exact q2 _ (by omega) | exact q3 _ (by omega) | exact q4 _ (by omega) | exact q5 _ (by omega) | exact vh _ (by omega) | exact (vr _ (by omega)).1 | exact (vr _ (by omega)).2 | exact vw _ (by omega) | exact vf _ (by omega) (by omega) | rfl) ?_
  refine G_ri (pc := 12) f_276_12 ?_
  exact ⟨rfl, rfl⟩
theorem h_come {h : Nat} (W : mFl M g F) (hh : h < 24) : CG C 277 [.ref 98, .int (nI h)] M (fun w M' => w = some (.int (nI (F (1 + h)))) ∧ M' = M) := by
  have hK := W.1
  obtain ⟨v0, hg8, hFO, ao⟩ := W.2
  have hn1 := hFO.1
  have hc9 := hFO.2
  have q1 : M.2.1 106 (25 * g + 1 + h) = nI (F (1 + h)) := by
    rw [Nat.add_assoc]
    exact ao _ (by omega)
  refine CG_in (mL := 2) (hl := false) (lv := [some (.ref 98), some (.int (nI h))]) (ll := []) rfl rfl rfl ?_
  refine G_S (pc := 0) f_277_0 rfl rfl rfl ?_
  refine G_gR (pc := 1) f_277_1 (by decide) rfl (by first | assumption | exact hK.1 _ _ rfl) (by first | assumption | exact hK.2 _ _ _ rfl | (try dsimp only) <;> (repeat (first | exact up2_s | refine up2_o (by first | decide | omega) ?_)) <;> first | assumption | exact hK.2 _ _ _ rfl) ?_
  refine G_bi (v := nI 25) (pc := 4) f_277_4 (by decide) ?_
  refine G_S (pc := 6) f_277_6 rfl rfl rfl ?_
  refine G_gIv (pc := 7) f_277_7 (by decide) rfl (by decide) (by first | assumption | exact hK.1 _ _ rfl) (by first | assumption | (try dsimp only) <;> (repeat (first | exact up2_s | refine up2_o (by first | decide | omega) ?_)) <;> first | assumption | rfl) ?_
  first | refine G_mulN (pc := 10) f_277_10 ?_ | refine G_mulZ (pc := 10) f_277_10 (by first | rfl | exact nI_zI _) (by first | rfl | exact nI_zI _) ?_ | refine G_S (pc := 10) f_277_10 rfl rfl rfl ?_
  refine G_ic (v := nI 1) (pc := 11) f_277_11 (by decide) ?_
  first | refine G_addN (pc := 12) f_277_12 ?_ | refine G_addZ (pc := 12) f_277_12 (by first | rfl | exact nI_zI _) (by first | rfl | exact nI_zI _) ?_ | refine G_S (pc := 12) f_277_12 rfl rfl rfl ?_
  refine G_S (pc := 13) f_277_13 rfl rfl rfl ?_
  first | refine G_addN (pc := 14) f_277_14 ?_ | refine G_addZ (pc := 14) f_277_14 (by first | rfl | exact nI_zI _) (by first | rfl | exact nI_zI _) ?_ | refine G_S (pc := 14) f_277_14 rfl rfl rfl ?_
  refine G_iaN (pc := 15) f_277_15 (by first | assumption | exact hK.1 _ _ rfl) (by omega) (by omega) (by first | assumption | exact q1 _ (by omega) | exact q2 _ (by omega) | exact q3 _ (by omega) | exact q4 _ (by omega) | exact q5 _ (by omega) | exact vh _ (by omega) | exact (vr _ (by omega)).1 | exact (vr _ (by omega)).2 | exact vw _ (by omega) | exact vf _ (by omega) (by omega) | rfl) ?_
  refine G_ri (pc := 16) f_277_16 ?_
  exact ⟨rfl, rfl⟩
theorem h_between {a b : Nat} (W : mFl M g F) (h1 : a ≤ b + 1) (h2 : b < 24) : CG C 279 [.ref 98, .int (nI a), .int (nI b)] M (fun w M' => w = some (.int (nI (sF F a (b + 1 - a)))) ∧ M' = M) := by
  have hK := W.1
  obtain ⟨v0, hg8, hFO, ao⟩ := W.2
  have hn1 := hFO.1
  have hc9 := hFO.2
  have loop : ∀ m, m ≤ b + 1 - a → G C 279 (5, [some (.ref 98), some (.int (nI a)), some (.int (nI b)), some (.int (nI (sF F a m))), some (.int (nI (a + m)))], [], [], M) (fun w M' => w = some (.int (nI (sF F a (b + 1 - a)))) ∧ M' = M) := by
    refine upto (fun m hm ih => ?_)
    refine G_S (pc := 5) f_279_5 rfl rfl rfl ?_
    refine G_S (pc := 7) f_279_7 rfl rfl rfl ?_
    refine G_jgtZ (pc := 8) f_279_8 rfl (by first | exact nI_toInt (by omega) | exact zI_toInt (by omega) (by omega) | rfl) (by first | exact nI_toInt (by omega) | exact zI_toInt (by omega) (by omega) | rfl) (fun b1 => ?_) (fun b1 => ?_)
    · refine G_S (pc := 26) f_279_26 rfl rfl rfl ?_
      refine G_ri (pc := 27) f_279_27 ?_
      rw [show m = b + 1 - a by omega]
      exact ⟨rfl, rfl⟩
    · refine G_S (pc := 11) f_279_11 rfl rfl rfl ?_
      refine G_S (pc := 12) f_279_12 rfl rfl rfl ?_
      refine G_S (pc := 13) f_279_13 rfl rfl rfl ?_
      refine G_CV (pc := 15) f_279_15 rfl rfl (by decide) rfl rfl (by first | assumption | exact hK.1 _ _ rfl) (by decide) ⟨Nat.le_of_ble_eq_true rfl, Nat.le_of_ble_eq_true rfl⟩ ?_
      refine CG.go (h_come W (by omega)) ?_
      first | refine G_addN (pc := 18) f_279_18 ?_ | refine G_addZ (pc := 18) f_279_18 (by first | rfl | exact nI_zI _) (by first | rfl | exact nI_zI _) ?_ | refine G_S (pc := 18) f_279_18 rfl rfl rfl ?_
      refine G_S (pc := 19) f_279_19 rfl rfl rfl ?_
      first | refine G_inc1 (pc := 20) f_279_20 rfl ?_ | refine G_S (pc := 20) f_279_20 rfl rfl rfl ?_
      refine G_S (pc := 23) f_279_23 rfl rfl rfl ?_
      exact ih (by omega)
  refine CG_in (mL := 5) (hl := false) (lv := [some (.ref 98), some (.int (nI a)), some (.int (nI b)), none, none]) (ll := []) rfl rfl rfl ?_
  refine G_ic (v := nI 0) (pc := 0) f_279_0 (by decide) ?_
  refine G_S (pc := 1) f_279_1 rfl rfl rfl ?_
  refine G_S (pc := 2) f_279_2 rfl rfl rfl ?_
  refine G_S (pc := 3) f_279_3 rfl rfl rfl ?_
  exact loop 0 (Nat.zero_le _)
theorem h_rush (W : mFl M g F) : CG C 280 [.ref 98] M (fun w M' => w = some (.int (nI (rsF F 23))) ∧ M' = M) := by
  have hK := W.1
  obtain ⟨v0, hg8, hFO, ao⟩ := W.2
  have hn1 := hFO.1
  have hc9 := hFO.2
  have loop : ∀ i, i ≤ 23 → G C 280 (4, [some (.ref 98), some (.int (nI (rsF F i))), some (.int (nI (i + 1)))], [], [], M) (fun w M' => w = some (.int (nI (rsF F 23))) ∧ M' = M) := by
    refine upto (fun i hi ih => ?_)
    have hr := rsF_le F i
    have h1 := hc9 (rsF F i) (by omega)
    have h2 : i < 23 → F (1 + (i + 1)) ≤ 99 := fun q => hc9 (i + 1) (by omega)
    refine G_S (pc := 4) f_280_4 rfl rfl rfl ?_
    refine G_bi (v := nI 24) (pc := 5) f_280_5 (by decide) ?_
    refine G_jgeZ (pc := 7) f_280_7 rfl (by first | exact nI_toInt (by omega) | exact zI_toInt (by omega) (by omega) | rfl) (by first | exact nI_toInt (by omega) | exact zI_toInt (by omega) (by omega) | rfl) (fun b1 => ?_) (fun b1 => ?_)
    · refine G_S (pc := 35) f_280_35 rfl rfl rfl ?_
      refine G_ri (pc := 36) f_280_36 ?_
      rw [show i = 23 by omega]
      exact ⟨rfl, rfl⟩
    · have h2 := h2 (by omega)
      refine G_S (pc := 10) f_280_10 rfl rfl rfl ?_
      refine G_S (pc := 11) f_280_11 rfl rfl rfl ?_
      refine G_CV (pc := 12) f_280_12 rfl rfl (by decide) rfl rfl (by first | assumption | exact hK.1 _ _ rfl) (by decide) ⟨Nat.le_of_ble_eq_true rfl, Nat.le_of_ble_eq_true rfl⟩ ?_
      refine CG.go (h_come W (by omega)) ?_
      refine G_S (pc := 15) f_280_15 rfl rfl rfl ?_
      refine G_S (pc := 16) f_280_16 rfl rfl rfl ?_
      refine G_CV (pc := 17) f_280_17 rfl rfl (by decide) rfl rfl (by first | assumption | exact hK.1 _ _ rfl) (by decide) ⟨Nat.le_of_ble_eq_true rfl, Nat.le_of_ble_eq_true rfl⟩ ?_
      refine CG.go (h_come W (by omega)) ?_
      refine G_jleZ (pc := 20) f_280_20 rfl (by first | exact nI_toInt (by omega) | exact zI_toInt (by omega) (by omega) | rfl) (by first | exact nI_toInt (by omega) | exact zI_toInt (by omega) (by omega) | rfl) (fun b2 => ?_) (fun b2 => ?_)
      · refine G_S (pc := 27) f_280_27 rfl rfl rfl ?_
        refine G_S (pc := 28) f_280_28 rfl rfl rfl ?_
        first | refine G_inc1 (pc := 29) f_280_29 rfl ?_ | refine G_S (pc := 29) f_280_29 rfl rfl rfl ?_
        refine G_S (pc := 32) f_280_32 rfl rfl rfl ?_
        have e := ih (by omega)
        first
          | (rw [rsF, if_pos (by omega)] at e; exact e)
          | (rw [rsF, if_neg (by omega)] at e; exact e)
      · refine G_S (pc := 23) f_280_23 rfl rfl rfl ?_
        refine G_S (pc := 24) f_280_24 rfl rfl rfl ?_
        refine G_S (pc := 28) f_280_28 rfl rfl rfl ?_
        first | refine G_inc1 (pc := 29) f_280_29 rfl ?_ | refine G_S (pc := 29) f_280_29 rfl rfl rfl ?_
        refine G_S (pc := 32) f_280_32 rfl rfl rfl ?_
        have e := ih (by omega)
        first
          | (rw [rsF, if_pos (by omega)] at e; exact e)
          | (rw [rsF, if_neg (by omega)] at e; exact e)
  refine CG_in (mL := 3) (hl := false) (lv := [some (.ref 98), none, none]) (ll := []) rfl rfl rfl ?_
  refine G_ic (v := nI 0) (pc := 0) f_280_0 (by decide) ?_
  refine G_S (pc := 1) f_280_1 rfl rfl rfl ?_
  refine G_ic (v := nI 1) (pc := 2) f_280_2 (by decide) ?_
  refine G_S (pc := 3) f_280_3 rfl rfl rfl ?_
  exact loop 0 (Nat.zero_le _)
theorem h_lull (W : mFl M g F) : CG C 281 [.ref 98] M (fun w M' => w = some (.int (nI (luF F 24).1)) ∧ M' = M) := by
  have hK := W.1
  obtain ⟨v0, hg8, hFO, ao⟩ := W.2
  have hn1 := hFO.1
  have hc9 := hFO.2
  have loop : ∀ i, i ≤ 24 → G C 281 (6, [some (.ref 98), some (.int (nI (((luF F i).1)))), some (.int (nI (((luF F i).2)))), some (.int (nI i))], [], [], M) (fun w M' => w = some (.int (nI (luF F 24).1)) ∧ M' = M) := by
    refine upto (fun i hi ih => ?_)
    have hl := luF_le F i
    have h2 : i < 24 → F (1 + i) ≤ 99 := fun q => hc9 i q
    refine G_S (pc := 6) f_281_6 rfl rfl rfl ?_
    refine G_bi (v := nI 24) (pc := 7) f_281_7 (by decide) ?_
    refine G_jgeZ (pc := 9) f_281_9 rfl (by first | exact nI_toInt (by omega) | exact zI_toInt (by omega) (by omega) | rfl) (by first | exact nI_toInt (by omega) | exact zI_toInt (by omega) (by omega) | rfl) (fun b1 => ?_) (fun b1 => ?_)
    · refine G_S (pc := 40) f_281_40 rfl rfl rfl ?_
      refine G_ri (pc := 41) f_281_41 ?_
      rw [show i = 24 by omega]
      exact ⟨rfl, rfl⟩
    · have h2 := h2 (by omega)
      refine G_S (pc := 12) f_281_12 rfl rfl rfl ?_
      refine G_S (pc := 13) f_281_13 rfl rfl rfl ?_
      refine G_CV (pc := 14) f_281_14 rfl rfl (by decide) rfl rfl (by first | assumption | exact hK.1 _ _ rfl) (by decide) ⟨Nat.le_of_ble_eq_true rfl, Nat.le_of_ble_eq_true rfl⟩ ?_
      refine CG.go (h_come W (by omega)) ?_
      first | refine G_bNe (pc := 17) f_281_17 rfl (fun b2 => ?_) (fun b2 => ?_) | refine G_zneZ (pc := 17) f_281_17 rfl (by first | exact nI_toInt (by omega) | exact zI_toInt (by omega) (by omega) | rfl) (fun b2 => ?_) (fun b2 => ?_)
      · refine G_ic (v := nI 0) (pc := 26) f_281_26 (by decide) ?_
        refine G_S (pc := 27) f_281_27 rfl rfl rfl ?_
        refine G_S (pc := 28) f_281_28 rfl rfl rfl ?_
        refine G_S (pc := 29) f_281_29 rfl rfl rfl ?_
        refine G_CS (pc := 30) f_281_30 rfl rfl (by decide) rfl rfl ⟨Nat.le_of_ble_eq_true rfl, Nat.le_of_ble_eq_true rfl⟩ ?_
        refine CG.go (by first | exact m_greaterN (by omega) (by omega) | exact m_greaterZ (by first | exact nI_toInt (by omega) | exact zI_toInt (by omega) (by omega) | rfl) (by first | exact nI_toInt (by omega) | exact zI_toInt (by omega) (by omega) | rfl)) ?_
        refine G_S (pc := 33) f_281_33 rfl rfl rfl ?_
        first | refine G_inc1 (pc := 34) f_281_34 rfl ?_ | refine G_S (pc := 34) f_281_34 rfl rfl rfl ?_
        refine G_S (pc := 37) f_281_37 rfl rfl rfl ?_
        have e := ih (by omega)
        first
          | (rw [luF, if_pos (by omega)] at e; exact e)
          | (rw [luF, if_neg (by omega)] at e; exact e)
      · refine G_S (pc := 20) f_281_20 rfl rfl rfl ?_
        refine G_ic (v := nI 1) (pc := 21) f_281_21 (by decide) ?_
        first | refine G_addN (pc := 22) f_281_22 ?_ | refine G_addZ (pc := 22) f_281_22 (by first | rfl | exact nI_zI _) (by first | rfl | exact nI_zI _) ?_ | refine G_S (pc := 22) f_281_22 rfl rfl rfl ?_
        refine G_S (pc := 23) f_281_23 rfl rfl rfl ?_
        refine G_S (pc := 27) f_281_27 rfl rfl rfl ?_
        refine G_S (pc := 28) f_281_28 rfl rfl rfl ?_
        refine G_S (pc := 29) f_281_29 rfl rfl rfl ?_
        refine G_CS (pc := 30) f_281_30 rfl rfl (by decide) rfl rfl ⟨Nat.le_of_ble_eq_true rfl, Nat.le_of_ble_eq_true rfl⟩ ?_
        refine CG.go (by first | exact m_greaterN (by omega) (by omega) | exact m_greaterZ (by first | exact nI_toInt (by omega) | exact zI_toInt (by omega) (by omega) | rfl) (by first | exact nI_toInt (by omega) | exact zI_toInt (by omega) (by omega) | rfl)) ?_
        refine G_S (pc := 33) f_281_33 rfl rfl rfl ?_
        first | refine G_inc1 (pc := 34) f_281_34 rfl ?_ | refine G_S (pc := 34) f_281_34 rfl rfl rfl ?_
        refine G_S (pc := 37) f_281_37 rfl rfl rfl ?_
        have e := ih (by omega)
        first
          | (rw [luF, if_pos (by omega)] at e; exact e)
          | (rw [luF, if_neg (by omega)] at e; exact e)
  refine CG_in (mL := 4) (hl := false) (lv := [some (.ref 98), none, none, none]) (ll := []) rfl rfl rfl ?_
  refine G_ic (v := nI 0) (pc := 0) f_281_0 (by decide) ?_
  refine G_S (pc := 1) f_281_1 rfl rfl rfl ?_
  refine G_ic (v := nI 0) (pc := 2) f_281_2 (by decide) ?_
  refine G_S (pc := 3) f_281_3 rfl rfl rfl ?_
  refine G_ic (v := nI 0) (pc := 4) f_281_4 (by decide) ?_
  refine G_S (pc := 5) f_281_5 rfl rfl rfl ?_
  exact loop 0 (Nat.zero_le _)
theorem h_half (W : mFl M g F) : CG C 282 [.ref 98] M (fun w M' => w = some (.int (oI (leastF (hfB F) 24 0))) ∧ M' = M) := by
  have hK := W.1
  obtain ⟨v0, hg8, hFO, ao⟩ := W.2
  have hn1 := hFO.1
  have hc9 := hFO.2
  have hday := sF_le hFO (a := 0) 24 (by omega)
  have loop : ∀ d m, m + d = 23 → G C 282 (2, [some (.ref 98), some (.int (nI m))], [], [], M) (fun w M' => w = some (.int (oI (leastF (hfB F) (d + 1) m))) ∧ M' = M) := by
    intro d
    induction d with
    | zero =>
      intro m hm
      have e : m = 23 := by omega
      subst e
      refine G_ic (v := nI 2) (pc := 2) f_282_2 (by decide) ?_
      refine G_S (pc := 3) f_282_3 rfl rfl rfl ?_
      refine G_ic (v := nI 0) (pc := 4) f_282_4 (by decide) ?_
      refine G_S (pc := 5) f_282_5 rfl rfl rfl ?_
      refine G_CV (pc := 6) f_282_6 rfl rfl (by decide) rfl rfl (by first | assumption | exact hK.1 _ _ rfl) (by decide) ⟨Nat.le_of_ble_eq_true rfl, Nat.le_of_ble_eq_true rfl⟩ ?_
      refine CG.go (h_between (a := 0) (b := 23) W (by omega) (by omega)) ?_
      first | refine G_mulN (pc := 9) f_282_9 ?_ | refine G_mulZ (pc := 9) f_282_9 (by first | rfl | exact nI_zI _) (by first | rfl | exact nI_zI _) ?_ | refine G_S (pc := 9) f_282_9 rfl rfl rfl ?_
      refine G_S (pc := 10) f_282_10 rfl rfl rfl ?_
      refine G_ic (v := nI 0) (pc := 11) f_282_11 (by decide) ?_
      refine G_bi (v := nI 23) (pc := 12) f_282_12 (by decide) ?_
      refine G_CV (pc := 14) f_282_14 rfl rfl (by decide) rfl rfl (by first | assumption | exact hK.1 _ _ rfl) (by decide) ⟨Nat.le_of_ble_eq_true rfl, Nat.le_of_ble_eq_true rfl⟩ ?_
      refine CG.go (h_between (a := 0) (b := 23) W (by omega) (by omega)) ?_
      rw [show 23 + 1 - 0 = 24 from rfl]
      refine G_jgeZ (pc := 17) f_282_17 rfl (by first | exact nI_toInt (by omega) | exact zI_toInt (by omega) (by omega) | rfl) (by first | exact nI_toInt (by omega) | exact zI_toInt (by omega) (by omega) | rfl) (fun b1 => ?_) (fun b1 => ?_)
      · refine G_S (pc := 26) f_282_26 rfl rfl rfl ?_
        refine G_ri (pc := 27) f_282_27 ?_
        rw [leastF, if_pos (show hfB F 23 = true from decide_eq_true (by show sF F 0 24 ≤ 2 * sF F 0 24; omega))]
        exact ⟨rfl, rfl⟩
      · exfalso; omega
    | succ d ih =>
      intro m hm
      have hs := sF_le hFO (a := 0) (m + 1) (by omega)
      refine G_ic (v := nI 2) (pc := 2) f_282_2 (by decide) ?_
      refine G_S (pc := 3) f_282_3 rfl rfl rfl ?_
      refine G_ic (v := nI 0) (pc := 4) f_282_4 (by decide) ?_
      refine G_S (pc := 5) f_282_5 rfl rfl rfl ?_
      refine G_CV (pc := 6) f_282_6 rfl rfl (by decide) rfl rfl (by first | assumption | exact hK.1 _ _ rfl) (by decide) ⟨Nat.le_of_ble_eq_true rfl, Nat.le_of_ble_eq_true rfl⟩ ?_
      refine CG.go (h_between (a := 0) (b := m) W (by omega) (by omega)) ?_
      first | refine G_mulN (pc := 9) f_282_9 ?_ | refine G_mulZ (pc := 9) f_282_9 (by first | rfl | exact nI_zI _) (by first | rfl | exact nI_zI _) ?_ | refine G_S (pc := 9) f_282_9 rfl rfl rfl ?_
      refine G_S (pc := 10) f_282_10 rfl rfl rfl ?_
      refine G_ic (v := nI 0) (pc := 11) f_282_11 (by decide) ?_
      refine G_bi (v := nI 23) (pc := 12) f_282_12 (by decide) ?_
      refine G_CV (pc := 14) f_282_14 rfl rfl (by decide) rfl rfl (by first | assumption | exact hK.1 _ _ rfl) (by decide) ⟨Nat.le_of_ble_eq_true rfl, Nat.le_of_ble_eq_true rfl⟩ ?_
      refine CG.go (h_between (a := 0) (b := 23) W (by omega) (by omega)) ?_
      rw [show 23 + 1 - 0 = 24 from rfl, Nat.sub_zero]
      refine G_jgeZ (pc := 17) f_282_17 rfl (by first | exact nI_toInt (by omega) | exact zI_toInt (by omega) (by omega) | rfl) (by first | exact nI_toInt (by omega) | exact zI_toInt (by omega) (by omega) | rfl) (fun b1 => ?_) (fun b1 => ?_)
      · refine G_S (pc := 26) f_282_26 rfl rfl rfl ?_
        refine G_ri (pc := 27) f_282_27 ?_
        rw [leastF, if_pos (show hfB F m = true from decide_eq_true (by omega))]
        exact ⟨rfl, rfl⟩
      · first | refine G_inc1 (pc := 20) f_282_20 rfl ?_ | refine G_S (pc := 20) f_282_20 rfl rfl rfl ?_
        refine G_S (pc := 23) f_282_23 rfl rfl rfl ?_
        have e := ih (m + 1) (by omega)
        rw [leastF, if_neg (show ¬ hfB F m = true from fun q => by have := of_decide_eq_true q; omega)]
        exact e
  refine CG_in (mL := 2) (hl := false) (lv := [some (.ref 98), none]) (ll := []) rfl rfl rfl ?_
  refine G_ic (v := nI 0) (pc := 0) f_282_0 (by decide) ?_
  refine G_S (pc := 1) f_282_1 rfl rfl rfl ?_
  exact loop 23 0 rfl
theorem h_steady (W : mFl M g F) : CG C 283 [.ref 98] M (fun w M' => w = some (.int (oI (leastF (fun m => wnB F m (25 - m)) 24 1))) ∧ M' = M) := by
  have hK := W.1
  obtain ⟨v0, hg8, hFO, ao⟩ := W.2
  have hn1 := hFO.1
  have hc9 := hFO.2
  have inner : ∀ {Q} m, 1 ≤ m → m ≤ 24 → G C 283 (53, [some (.ref 98), some (.int (nI m)), some (.int ((b2i (wnB F m (25 - m) = true)))), some (.int (nI (25 - m)))], [], [], M) Q → ∀ i, i ≤ 25 - m → G C 283 (12, [some (.ref 98), some (.int (nI m)), some (.int ((b2i (wnB F m i = true)))), some (.int (nI i))], [], [], M) Q := by
    intro Q m h1 h2 K
    refine upto (fun i hi ih => ?_)
    have hs : i + m ≤ 24 → sF F i m ≤ m * 99 := fun q => sF_le hFO m q
    refine G_S (pc := 12) f_283_12 rfl rfl rfl ?_
    refine G_S (pc := 13) f_283_13 rfl rfl rfl ?_
    first | refine G_addN (pc := 14) f_283_14 ?_ | refine G_addZ (pc := 14) f_283_14 (by first | rfl | exact nI_zI _) (by first | rfl | exact nI_zI _) ?_ | refine G_S (pc := 14) f_283_14 rfl rfl rfl ?_
    refine G_bi (v := nI 24) (pc := 15) f_283_15 (by decide) ?_
    refine G_jgtZ (pc := 17) f_283_17 rfl (by first | exact nI_toInt (by omega) | exact zI_toInt (by omega) (by omega) | rfl) (by first | exact nI_toInt (by omega) | exact zI_toInt (by omega) (by omega) | rfl) (fun b2 => ?_) (fun b2 => ?_)
    · rw [show i = 25 - m by omega]
      exact K
    · have hs := hs (by omega)
      have em : i + m - 1 + 1 - i = m := by omega
      refine G_S (pc := 20) f_283_20 rfl rfl rfl ?_
      first | refine G_bEq (pc := 21) f_283_21 rfl (fun b3 => ?_) (fun b3 => ?_) | refine G_zeqZ (pc := 21) f_283_21 rfl (by first | exact nI_toInt (by omega) | exact zI_toInt (by omega) (by omega) | rfl) (fun b3 => ?_) (fun b3 => ?_)
      · refine G_ic (v := nI 0) (pc := 45) f_283_45 (by decide) ?_
        refine G_S (pc := 46) f_283_46 rfl rfl rfl ?_
        first | refine G_inc1 (pc := 47) f_283_47 rfl ?_ | refine G_S (pc := 47) f_283_47 rfl rfl rfl ?_
        refine G_S (pc := 50) f_283_50 rfl rfl rfl ?_
        have e := ih (by omega)
        first
          | (rw [b2i_0 (show ¬ wnB F m (i + 1) = true from fun q => b3 (band.mp q).1)] at e; exact e)
          | (rw [b2i_0 (show ¬ wnB F m (i + 1) = true from fun q => by have := of_decide_eq_true (band.mp q).2; omega)] at e; exact e)
          | (rw [b2i_1 (show wnB F m (i + 1) = true from band.mpr ⟨b3, decide_eq_true (by omega)⟩)] at e; exact e)
      · refine G_S (pc := 24) f_283_24 rfl rfl rfl ?_
        refine G_S (pc := 25) f_283_25 rfl rfl rfl ?_
        refine G_S (pc := 26) f_283_26 rfl rfl rfl ?_
        refine G_S (pc := 27) f_283_27 rfl rfl rfl ?_
        first | refine G_addN (pc := 28) f_283_28 ?_ | refine G_addZ (pc := 28) f_283_28 (by first | rfl | exact nI_zI _) (by first | rfl | exact nI_zI _) ?_ | refine G_S (pc := 28) f_283_28 rfl rfl rfl ?_
        refine G_ic (v := nI 1) (pc := 29) f_283_29 (by decide) ?_
        first | refine G_subN (pc := 30) f_283_30 (by omega) ?_ | refine G_subZ (pc := 30) f_283_30 (by first | rfl | exact nI_zI _) (by first | rfl | exact nI_zI _) ?_ | refine G_S (pc := 30) f_283_30 rfl rfl rfl ?_
        refine G_CV (pc := 31) f_283_31 rfl rfl (by decide) rfl rfl (by first | assumption | exact hK.1 _ _ rfl) (by decide) ⟨Nat.le_of_ble_eq_true rfl, Nat.le_of_ble_eq_true rfl⟩ ?_
        refine CG.go (h_between W (by omega) (by omega)) ?_
        refine G_S (pc := 34) f_283_34 rfl rfl rfl ?_
        refine G_CV (pc := 35) f_283_35 rfl rfl (by decide) rfl rfl (by first | assumption | exact hK.1 _ _ rfl) (by decide) ⟨Nat.le_of_ble_eq_true rfl, Nat.le_of_ble_eq_true rfl⟩ ?_
        refine CG.go (h_need W) ?_
        rw [em]
        refine G_jltZ (pc := 38) f_283_38 rfl (by first | exact nI_toInt (by omega) | exact zI_toInt (by omega) (by omega) | rfl) (by first | exact nI_toInt (by omega) | exact zI_toInt (by omega) (by omega) | rfl) (fun b4 => ?_) (fun b4 => ?_)
        · refine G_ic (v := nI 0) (pc := 45) f_283_45 (by decide) ?_
          refine G_S (pc := 46) f_283_46 rfl rfl rfl ?_
          first | refine G_inc1 (pc := 47) f_283_47 rfl ?_ | refine G_S (pc := 47) f_283_47 rfl rfl rfl ?_
          refine G_S (pc := 50) f_283_50 rfl rfl rfl ?_
          have e := ih (by omega)
          first
            | (rw [b2i_0 (show ¬ wnB F m (i + 1) = true from fun q => b3 (band.mp q).1)] at e; exact e)
            | (rw [b2i_0 (show ¬ wnB F m (i + 1) = true from fun q => by have := of_decide_eq_true (band.mp q).2; omega)] at e; exact e)
            | (rw [b2i_1 (show wnB F m (i + 1) = true from band.mpr ⟨b3, decide_eq_true (by omega)⟩)] at e; exact e)
        · refine G_ic (v := nI 1) (pc := 41) f_283_41 (by decide) ?_
          refine G_S (pc := 42) f_283_42 rfl rfl rfl ?_
          refine G_S (pc := 46) f_283_46 rfl rfl rfl ?_
          first | refine G_inc1 (pc := 47) f_283_47 rfl ?_ | refine G_S (pc := 47) f_283_47 rfl rfl rfl ?_
          refine G_S (pc := 50) f_283_50 rfl rfl rfl ?_
          have e := ih (by omega)
          first
            | (rw [b2i_0 (show ¬ wnB F m (i + 1) = true from fun q => b3 (band.mp q).1)] at e; exact e)
            | (rw [b2i_0 (show ¬ wnB F m (i + 1) = true from fun q => by have := of_decide_eq_true (band.mp q).2; omega)] at e; exact e)
            | (rw [b2i_1 (show wnB F m (i + 1) = true from band.mpr ⟨b3, decide_eq_true (by omega)⟩)] at e; exact e)
  have loop : ∀ d m a b, m + d = 25 → 1 ≤ m → G C 283 (2, [some (.ref 98), some (.int (nI m)), a, b], [], [], M) (fun w M' => w = some (.int (oI (leastF (fun m => wnB F m (25 - m)) d m))) ∧ M' = M) := by
    intro d
    induction d with
    | zero =>
      intro m a b hm h1
      refine G_S (pc := 2) f_283_2 rfl rfl rfl ?_
      refine G_bi (v := nI 24) (pc := 3) f_283_3 (by decide) ?_
      refine G_jgtZ (pc := 5) f_283_5 rfl (by first | exact nI_toInt (by omega) | exact zI_toInt (by omega) (by omega) | rfl) (by first | exact nI_toInt (by omega) | exact zI_toInt (by omega) (by omega) | rfl) (fun b1 => ?_) (fun b1 => ?_)
      · refine G_ic (v := zI (-1)) (pc := 65) f_283_65 (by decide) ?_
        refine G_ri (pc := 66) f_283_66 ?_
        exact ⟨rfl, rfl⟩
      · exfalso; omega
    | succ d ih =>
      intro m a b hm h1
      refine G_S (pc := 2) f_283_2 rfl rfl rfl ?_
      refine G_bi (v := nI 24) (pc := 3) f_283_3 (by decide) ?_
      refine G_jgtZ (pc := 5) f_283_5 rfl (by first | exact nI_toInt (by omega) | exact zI_toInt (by omega) (by omega) | rfl) (by first | exact nI_toInt (by omega) | exact zI_toInt (by omega) (by omega) | rfl) (fun b1 => ?_) (fun b1 => ?_)
      · exfalso; omega
      · refine G_ic (v := nI 1) (pc := 8) f_283_8 (by decide) ?_
        refine G_S (pc := 9) f_283_9 rfl rfl rfl ?_
        refine G_ic (v := nI 0) (pc := 10) f_283_10 (by decide) ?_
        refine G_S (pc := 11) f_283_11 rfl rfl rfl ?_
        refine inner m h1 (by omega) ?_ 0 (Nat.zero_le _)
        refine G_S (pc := 53) f_283_53 rfl rfl rfl ?_
        first | refine G_bEq (pc := 54) f_283_54 rfl (fun b5 => ?_) (fun b5 => ?_) | refine G_zeqZ (pc := 54) f_283_54 rfl (by first | exact nI_toInt (by omega) | exact zI_toInt (by omega) (by omega) | rfl) (fun b5 => ?_) (fun b5 => ?_)
        · first | refine G_inc1 (pc := 59) f_283_59 rfl ?_ | refine G_S (pc := 59) f_283_59 rfl rfl rfl ?_
          refine G_S (pc := 62) f_283_62 rfl rfl rfl ?_
          have e := ih (m + 1) (some (.int (b2i (wnB F m (25 - m) = true)))) (some (.int (nI (25 - m)))) (by omega) (by omega)
          rw [leastF, if_neg b5]
          exact e
        · refine G_S (pc := 57) f_283_57 rfl rfl rfl ?_
          refine G_ri (pc := 58) f_283_58 ?_
          rw [leastF, if_pos b5]
          exact ⟨rfl, rfl⟩
  refine CG_in (mL := 4) (hl := false) (lv := [some (.ref 98), none, none, none]) (ll := []) rfl rfl rfl ?_
  refine G_ic (v := nI 1) (pc := 0) f_283_0 (by decide) ?_
  refine G_S (pc := 1) f_283_1 rfl rfl rfl ?_
  exact loop 24 1 _ _ rfl (by omega)
theorem h_flow (W : MFs M n L) : CG C 284 [.ref 98, .int k, .int x] M (fun w M' => w = some (.int (aLin (lin n L k) (zI (-1)) (fun F => flF F x))) ∧ mQ M M') := by
  have hK := W.1
  cases hl : lin n L k with
  | none =>
    refine CG_in (mL := 3) (hl := false) (lv := [some (.ref 98), some (.int k), some (.int x)]) (ll := []) rfl rfl rfl ?_
    refine G_S (pc := 0) f_284_0 rfl rfl rfl ?_
    refine G_ic (v := nI 0) (pc := 1) f_284_1 (by decide) ?_
    refine G_pI (pc := 2) f_284_2 rfl (by first | assumption | exact hK.1 _ _ rfl) ?_
    refine G_S (pc := 5) f_284_5 rfl rfl rfl ?_
    refine G_S (pc := 6) f_284_6 rfl rfl rfl ?_
    refine G_CV (pc := 7) f_284_7 rfl rfl (by decide) rfl rfl (by first | assumption | exact hK.1 _ _ rfl) (by decide) ⟨Nat.le_of_ble_eq_true rfl, Nat.le_of_ble_eq_true rfl⟩ ?_
    refine CG.mono (h_hasN (W.q mQ.cod) hl) ?_
    rintro _ M1 ⟨rfl, hQ⟩
    first | refine G_bNe (pc := 10) f_284_10 rfl (fun b1 => ?_) (fun b1 => ?_) | refine G_zneZ (pc := 10) f_284_10 rfl (by first | exact nI_toInt (by omega) | exact zI_toInt (by omega) (by omega) | rfl) (fun b1 => ?_) (fun b1 => ?_)
    · exact absurd b1 id
    · refine G_ic (v := zI (-1)) (pc := 13) f_284_13 (by decide) ?_
      refine G_ri (pc := 14) f_284_14 ?_
      exact ⟨rfl, mQ.cod.tr hQ⟩
  | some F =>
    show CG C 284 [.ref 98, .int k, .int x] M (fun w M' => w = some (.int (flF F x)) ∧ mQ M M')
    refine CG_in (mL := 3) (hl := false) (lv := [some (.ref 98), some (.int k), some (.int x)]) (ll := []) rfl rfl rfl ?_
    refine G_S (pc := 0) f_284_0 rfl rfl rfl ?_
    refine G_ic (v := nI 0) (pc := 1) f_284_1 (by decide) ?_
    refine G_pI (pc := 2) f_284_2 rfl (by first | assumption | exact hK.1 _ _ rfl) ?_
    refine G_S (pc := 5) f_284_5 rfl rfl rfl ?_
    refine G_S (pc := 6) f_284_6 rfl rfl rfl ?_
    refine G_CV (pc := 7) f_284_7 rfl rfl (by decide) rfl rfl (by first | assumption | exact hK.1 _ _ rfl) (by decide) ⟨Nat.le_of_ble_eq_true rfl, Nat.le_of_ble_eq_true rfl⟩ ?_
    refine CG.mono (h_hasS (W.q mQ.cod) hl) ?_
    rintro _ M1 ⟨rfl, hQ, g, W1⟩
    have hK := W1.1
    obtain ⟨v0, hg8, hFO, ao⟩ := W1.2
    have hn1 := hFO.1
    have hc9 := hFO.2
    have hQ := mQ.cod.tr hQ
    first | refine G_bNe (pc := 10) f_284_10 rfl (fun b1 => ?_) (fun b1 => ?_) | refine G_zneZ (pc := 10) f_284_10 rfl (by first | exact nI_toInt (by omega) | exact zI_toInt (by omega) (by omega) | rfl) (fun b1 => ?_) (fun b1 => ?_)
    · refine G_S (pc := 15) f_284_15 rfl rfl rfl ?_
      refine G_bi (v := nI 10) (pc := 16) f_284_16 (by decide) ?_
      refine G_bi (v := nI 33) (pc := 18) f_284_18 (by decide) ?_
      refine G_CS (pc := 20) f_284_20 rfl rfl (by decide) rfl rfl ⟨Nat.le_of_ble_eq_true rfl, Nat.le_of_ble_eq_true rfl⟩ ?_
      refine CG.go (m_inZ (by first | exact nI_toInt (by omega) | exact zI_toInt (by omega) (by omega) | rfl) (by first | exact nI_toInt (by omega) | exact zI_toInt (by omega) (by omega) | rfl) (by first | exact nI_toInt (by omega) | exact zI_toInt (by omega) (by omega) | rfl)) ?_
      first | refine G_bEq (pc := 23) f_284_23 rfl (fun b2 => ?_) (fun b2 => ?_) | refine G_zeqZ (pc := 23) f_284_23 rfl (by first | exact nI_toInt (by omega) | exact zI_toInt (by omega) (by omega) | rfl) (fun b2 => ?_) (fun b2 => ?_)
      · refine G_S (pc := 35) f_284_35 rfl rfl rfl ?_
        rcases sw6 x with rfl | rfl | rfl | rfl | rfl | rfl | hw
        · refine G_S (pc := 36) f_284_36 rfl rfl rfl ?_
          refine G_S (pc := 76) f_284_76 rfl rfl rfl ?_
          refine G_CV (pc := 77) f_284_77 rfl rfl (by decide) rfl rfl (by first | assumption | exact hK.1 _ _ rfl) (by decide) ⟨Nat.le_of_ble_eq_true rfl, Nat.le_of_ble_eq_true rfl⟩ ?_
          refine CG.go (h_need W1) ?_
          refine G_ri (pc := 80) f_284_80 ?_
          first
            | exact ⟨rfl, hQ⟩
            | (rw [flF_d (by rw [nI_toInt (by omega)]; omega)]
               exact ⟨by rw [nI_toInt (by omega), Int.toNat_natCast, if_pos (by omega)], hQ⟩)
            | (rw [flF_d hw]
               exact ⟨by rw [if_neg (by omega)], hQ⟩)
        · refine G_S (pc := 36) f_284_36 rfl rfl rfl ?_
          refine G_S (pc := 81) f_284_81 rfl rfl rfl ?_
          refine G_CV (pc := 82) f_284_82 rfl rfl (by decide) rfl rfl (by first | assumption | exact hK.1 _ _ rfl) (by decide) ⟨Nat.le_of_ble_eq_true rfl, Nat.le_of_ble_eq_true rfl⟩ ?_
          refine CG.go (h_rush W1) ?_
          refine G_ri (pc := 85) f_284_85 ?_
          first
            | exact ⟨rfl, hQ⟩
            | (rw [flF_d (by rw [nI_toInt (by omega)]; omega)]
               exact ⟨by rw [nI_toInt (by omega), Int.toNat_natCast, if_pos (by omega)], hQ⟩)
            | (rw [flF_d hw]
               exact ⟨by rw [if_neg (by omega)], hQ⟩)
        · refine G_S (pc := 36) f_284_36 rfl rfl rfl ?_
          refine G_S (pc := 86) f_284_86 rfl rfl rfl ?_
          refine G_CV (pc := 87) f_284_87 rfl rfl (by decide) rfl rfl (by first | assumption | exact hK.1 _ _ rfl) (by decide) ⟨Nat.le_of_ble_eq_true rfl, Nat.le_of_ble_eq_true rfl⟩ ?_
          refine CG.go (h_steady W1) ?_
          refine G_ri (pc := 90) f_284_90 ?_
          first
            | exact ⟨rfl, hQ⟩
            | (rw [flF_d (by rw [nI_toInt (by omega)]; omega)]
               exact ⟨by rw [nI_toInt (by omega), Int.toNat_natCast, if_pos (by omega)], hQ⟩)
            | (rw [flF_d hw]
               exact ⟨by rw [if_neg (by omega)], hQ⟩)
        · refine G_S (pc := 36) f_284_36 rfl rfl rfl ?_
          refine G_S (pc := 91) f_284_91 rfl rfl rfl ?_
          refine G_CV (pc := 92) f_284_92 rfl rfl (by decide) rfl rfl (by first | assumption | exact hK.1 _ _ rfl) (by decide) ⟨Nat.le_of_ble_eq_true rfl, Nat.le_of_ble_eq_true rfl⟩ ?_
          refine CG.go (h_lull W1) ?_
          refine G_ri (pc := 95) f_284_95 ?_
          first
            | exact ⟨rfl, hQ⟩
            | (rw [flF_d (by rw [nI_toInt (by omega)]; omega)]
               exact ⟨by rw [nI_toInt (by omega), Int.toNat_natCast, if_pos (by omega)], hQ⟩)
            | (rw [flF_d hw]
               exact ⟨by rw [if_neg (by omega)], hQ⟩)
        · refine G_S (pc := 36) f_284_36 rfl rfl rfl ?_
          refine G_S (pc := 96) f_284_96 rfl rfl rfl ?_
          refine G_ic (v := nI 0) (pc := 97) f_284_97 (by decide) ?_
          refine G_bi (v := nI 23) (pc := 98) f_284_98 (by decide) ?_
          refine G_CV (pc := 100) f_284_100 rfl rfl (by decide) rfl rfl (by first | assumption | exact hK.1 _ _ rfl) (by decide) ⟨Nat.le_of_ble_eq_true rfl, Nat.le_of_ble_eq_true rfl⟩ ?_
          refine CG.go (h_between (a := 0) (b := 23) W1 (by omega) (by omega)) ?_
          refine G_ri (pc := 103) f_284_103 ?_
          first
            | exact ⟨rfl, hQ⟩
            | (rw [flF_d (by rw [nI_toInt (by omega)]; omega)]
               exact ⟨by rw [nI_toInt (by omega), Int.toNat_natCast, if_pos (by omega)], hQ⟩)
            | (rw [flF_d hw]
               exact ⟨by rw [if_neg (by omega)], hQ⟩)
        · refine G_S (pc := 36) f_284_36 rfl rfl rfl ?_
          refine G_S (pc := 104) f_284_104 rfl rfl rfl ?_
          refine G_CV (pc := 105) f_284_105 rfl rfl (by decide) rfl rfl (by first | assumption | exact hK.1 _ _ rfl) (by decide) ⟨Nat.le_of_ble_eq_true rfl, Nat.le_of_ble_eq_true rfl⟩ ?_
          refine CG.go (h_half W1) ?_
          refine G_ri (pc := 108) f_284_108 ?_
          first
            | exact ⟨rfl, hQ⟩
            | (rw [flF_d (by rw [nI_toInt (by omega)]; omega)]
               exact ⟨by rw [nI_toInt (by omega), Int.toNat_natCast, if_pos (by omega)], hQ⟩)
            | (rw [flF_d hw]
               exact ⟨by rw [if_neg (by omega)], hQ⟩)
        · refine G_tsO (pc := 36) f_284_36 rfl (hw) ?_
          refine G_ic (v := zI (-1)) (pc := 109) f_284_109 (by decide) ?_
          refine G_ri (pc := 110) f_284_110 ?_
          first
            | exact ⟨rfl, hQ⟩
            | (rw [flF_d (by rw [nI_toInt (by omega)]; omega)]
               exact ⟨by rw [nI_toInt (by omega), Int.toNat_natCast, if_pos (by omega)], hQ⟩)
            | (rw [flF_d hw]
               exact ⟨by rw [if_neg (by omega)], hQ⟩)
      · obtain ⟨c, hc, rfl⟩ := i_nat (x := x) (n := 34) (by omega) (by omega)
        rw [nI_toInt (by omega)] at b2
        refine G_S (pc := 26) f_284_26 rfl rfl rfl ?_
        refine G_S (pc := 27) f_284_27 rfl rfl rfl ?_
        refine G_bi (v := nI 10) (pc := 28) f_284_28 (by decide) ?_
        first | refine G_subN (pc := 30) f_284_30 (by omega) ?_ | refine G_subZ (pc := 30) f_284_30 (by first | rfl | exact nI_zI _) (by first | rfl | exact nI_zI _) ?_ | refine G_S (pc := 30) f_284_30 rfl rfl rfl ?_
        refine G_CV (pc := 31) f_284_31 rfl rfl (by decide) rfl rfl (by first | assumption | exact hK.1 _ _ rfl) (by decide) ⟨Nat.le_of_ble_eq_true rfl, Nat.le_of_ble_eq_true rfl⟩ ?_
        refine CG.go (h_come W1 (by omega)) ?_
        refine G_ri (pc := 34) f_284_34 ?_
        first
          | exact ⟨rfl, hQ⟩
          | (rw [flF_d (by rw [nI_toInt (by omega)]; omega)]
             exact ⟨by rw [nI_toInt (by omega), Int.toNat_natCast, if_pos (by omega)], hQ⟩)
          | (rw [flF_d hw]
             exact ⟨by rw [if_neg (by omega)], hQ⟩)
    · exact absurd trivial b1
end WFL
