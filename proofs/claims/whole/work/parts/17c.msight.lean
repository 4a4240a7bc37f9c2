/-! sights: by their numbers, and the reference -/
def CSs (M : Mm) (n : Nat) (L : Nat → Nat → Nat) : Prop := KM M.1 M.2.2.2 ∧ M.2.1 3 3 = nI n ∧ n ≤ 2 ∧ ∀ l, l < n → SWd M (24 + 22 * l) (L l) ∧ (M.2.1 (24 + 22 * l) 5 = nI 0 ∨ (M.2.1 (24 + 22 * l) 5 = nI 1 ∧ JV M (24 + 22 * l) (L l)))
def MSs (M : Mm) (n : Nat) (L : Nat → Nat → Nat) : Prop := KM M.1 M.2.2.2 ∧ M.2.1 103 3 = nI n ∧ n ≤ 2 ∧ ∀ l, l < n → SOK (L l) ∧ ∀ j, j < 2 + 3 * L l 1 → M.2.1 107 (32 * l + j) = nI (L l j)
def mS (M : Mm) (g : Nat) (Z : Nat → Nat) : Prop := KM M.1 M.2.2.2 ∧ M.2.1 98 45 = nI g ∧ g < 8 ∧ SOK Z ∧ ∀ j, j < 2 + 3 * Z 1 → M.2.1 107 (32 * g + j) = nI (Z j)
theorem MSs.q {M M' : Mm} {n : Nat} {L : Nat → Nat → Nat} (W : MSs M n L) (h : mQ M M') : MSs M' n L := by
  refine ⟨h.K W.1, by rw [(h.2 103 (by decide)).1]; exact W.2.1, W.2.2.1, ?_⟩
  rw [(h.2 107 (by decide)).1]
  exact W.2.2.2
theorem mS.fm {M M' : Mm} {g : Nat} {Z : Nat → Nat} {os fs : List Nat} (W : mS M g Z) (h : Fm os fs M M') (h1 : 45 ∉ fs) (h2 : 107 ∉ os) : mS M' g Z := by
  refine ⟨h.K W.1, by rw [h.2.2 45 h1]; exact W.2.1, W.2.2.1, W.2.2.2.1, ?_⟩
  rw [(h.2.1 107 (by decide) h2).1]
  exact W.2.2.2.2
section WSI
variable {C : Ct} {M : Mm} {n g w : Nat} {L : Nat → Nat → Nat} {k x y : Int32} {Z : Nat → Nat}
theorem c_sightAtL {l : Nat} (W : CSs M n L) (h1 : l < n) : CG C 182 [.ref 0, .int (nI l)] M (fun w M' => w = some (.ref (24 + 22 * l)) ∧ M' = M) := by
  obtain ⟨hK, hn, hn2, hW⟩ := W
  have hr : M.2.2.2 7 l = some (24 + 22 * l) := by
    rcases (show l = 0 ∨ l = 1 by omega) with rfl | rfl
    · exact hK.2 7 0 24 rfl
    · exact hK.2 7 1 46 rfl
  refine CG_in (mL := 2) (hl := false) (lv := [some (.ref 0), some (.int (nI l))]) (ll := []) rfl rfl rfl ?_
  refine G_S (pc := 0) f_182_0 rfl rfl rfl ?_
  refine G_zltZ (pc := 1) f_182_1 rfl (by first | exact nI_toInt (by omega) | exact zI_toInt (by omega) (by omega) | rfl) (fun b1 => ?_) (fun b1 => ?_)
  · exfalso; omega
  · refine G_S (pc := 4) f_182_4 rfl rfl rfl ?_
    refine G_S (pc := 5) f_182_5 rfl rfl rfl ?_
    refine G_gR (pc := 6) f_182_6 (by decide) rfl (by first | assumption | exact hK.1 _ _ rfl) (by first | assumption | exact hK.2 _ _ _ rfl | (try dsimp only) <;> (repeat (first | exact up2_s | refine up2_o (by first | decide | omega) ?_)) <;> first | assumption | exact hK.2 _ _ _ rfl) ?_
    refine G_gR (pc := 9) f_182_9 (by decide) rfl (by first | assumption | exact hK.1 _ _ rfl) (by first | assumption | exact hK.2 _ _ _ rfl | (try dsimp only) <;> (repeat (first | exact up2_s | refine up2_o (by first | decide | omega) ?_)) <;> first | assumption | exact hK.2 _ _ _ rfl) ?_
    refine G_ic (v := nI 3) (pc := 12) f_182_12 (by decide) ?_
    refine G_iaN (pc := 13) f_182_13 (by first | assumption | exact hK.1 _ _ rfl) (by omega) (by omega) (by first | assumption | exact q1 _ (by omega) | exact q2 _ (by omega) | exact q3 _ (by omega) | exact q4 _ (by omega) | exact q5 _ (by omega) | exact vh _ (by omega) | exact (vr _ (by omega)).1 | exact (vr _ (by omega)).2 | exact vw _ (by omega) | exact vf _ (by omega) (by omega) | exact mI_s | ((refine mI_o (by first | decide | omega) ?_); (repeat (refine mI_o (by first | decide | omega) ?_)); first | exact mI_s | assumption | exact q1 _ (by omega) | exact q2 _ (by omega) | exact q3 _ (by omega) | exact q4 _ (by omega) | exact q5 _ (by omega) | exact vh _ (by omega) | exact (vr _ (by omega)).1 | exact (vr _ (by omega)).2 | exact vw _ (by omega) | exact vf _ (by omega) (by omega)) | rfl) ?_
    refine G_jgeZ (pc := 14) f_182_14 rfl (by first | exact nI_toInt (by omega) | exact zI_toInt (by omega) (by omega) | rfl) (by first | exact nI_toInt (by omega) | exact zI_toInt (by omega) (by omega) | rfl) (fun b2 => ?_) (fun b2 => ?_)
    · exfalso; omega
    · refine G_S (pc := 17) f_182_17 rfl rfl rfl ?_
      refine G_gR (pc := 18) f_182_18 (by decide) rfl (by first | assumption | exact hK.1 _ _ rfl) (by first | assumption | exact hK.2 _ _ _ rfl | (try dsimp only) <;> (repeat (first | exact up2_s | refine up2_o (by first | decide | omega) ?_)) <;> first | assumption | exact hK.2 _ _ _ rfl) ?_
      refine G_gR (pc := 21) f_182_21 (by decide) rfl (by first | assumption | exact hK.1 _ _ rfl) (by first | assumption | exact hK.2 _ _ _ rfl | (try dsimp only) <;> (repeat (first | exact up2_s | refine up2_o (by first | decide | omega) ?_)) <;> first | assumption | exact hK.2 _ _ _ rfl) ?_
      refine G_S (pc := 24) f_182_24 rfl rfl rfl ?_
      refine G_aaN2 (pc := 25) f_182_25 (by first | assumption | exact hK.1 _ _ rfl) (by decide) (by omega) (by omega) (by first | exact hr | assumption) ?_
      refine G_S (pc := 26) f_182_26 rfl rfl rfl ?_
      first | refine G_ra (pc := 30) f_182_30 ?_ | refine G_rnl (pc := 30) f_182_30 ?_
      exact ⟨rfl, rfl⟩
theorem c_sightAtN (W : CSs M n L) (hl : lin n L k = none) : CG C 182 [.ref 0, .int k] M (fun w M' => w = some .null ∧ M' = M) := by
  obtain ⟨hK, hn, hn2, hW⟩ := W
  have hk := lin_none hl
  refine CG_in (mL := 2) (hl := false) (lv := [some (.ref 0), some (.int k)]) (ll := []) rfl rfl rfl ?_
  refine G_S (pc := 0) f_182_0 rfl rfl rfl ?_
  refine G_zltZ (pc := 1) f_182_1 rfl (by first | exact nI_toInt (by omega) | exact zI_toInt (by omega) (by omega) | rfl) (fun b1 => ?_) (fun b1 => ?_)
  · refine G_S (pc := 29) f_182_29 rfl rfl rfl ?_
    first | refine G_ra (pc := 30) f_182_30 ?_ | refine G_rnl (pc := 30) f_182_30 ?_
    exact ⟨rfl, rfl⟩
  · refine G_S (pc := 4) f_182_4 rfl rfl rfl ?_
    refine G_S (pc := 5) f_182_5 rfl rfl rfl ?_
    refine G_gR (pc := 6) f_182_6 (by decide) rfl (by first | assumption | exact hK.1 _ _ rfl) (by first | assumption | exact hK.2 _ _ _ rfl | (try dsimp only) <;> (repeat (first | exact up2_s | refine up2_o (by first | decide | omega) ?_)) <;> first | assumption | exact hK.2 _ _ _ rfl) ?_
    refine G_gR (pc := 9) f_182_9 (by decide) rfl (by first | assumption | exact hK.1 _ _ rfl) (by first | assumption | exact hK.2 _ _ _ rfl | (try dsimp only) <;> (repeat (first | exact up2_s | refine up2_o (by first | decide | omega) ?_)) <;> first | assumption | exact hK.2 _ _ _ rfl) ?_
    refine G_ic (v := nI 3) (pc := 12) f_182_12 (by decide) ?_
    refine G_iaN (pc := 13) f_182_13 (by first | assumption | exact hK.1 _ _ rfl) (by omega) (by omega) (by first | assumption | exact q1 _ (by omega) | exact q2 _ (by omega) | exact q3 _ (by omega) | exact q4 _ (by omega) | exact q5 _ (by omega) | exact vh _ (by omega) | exact (vr _ (by omega)).1 | exact (vr _ (by omega)).2 | exact vw _ (by omega) | exact vf _ (by omega) (by omega) | exact mI_s | ((refine mI_o (by first | decide | omega) ?_); (repeat (refine mI_o (by first | decide | omega) ?_)); first | exact mI_s | assumption | exact q1 _ (by omega) | exact q2 _ (by omega) | exact q3 _ (by omega) | exact q4 _ (by omega) | exact q5 _ (by omega) | exact vh _ (by omega) | exact (vr _ (by omega)).1 | exact (vr _ (by omega)).2 | exact vw _ (by omega) | exact vf _ (by omega) (by omega)) | rfl) ?_
    refine G_jgeZ (pc := 14) f_182_14 rfl (by first | exact nI_toInt (by omega) | exact zI_toInt (by omega) (by omega) | rfl) (by first | exact nI_toInt (by omega) | exact zI_toInt (by omega) (by omega) | rfl) (fun b2 => ?_) (fun b2 => ?_)
    · refine G_S (pc := 29) f_182_29 rfl rfl rfl ?_
      first | refine G_ra (pc := 30) f_182_30 ?_ | refine G_rnl (pc := 30) f_182_30 ?_
      exact ⟨rfl, rfl⟩
    · exfalso; omega
theorem c_fact (W : CSs M n L) : CG C 176 [.ref 0, .int k, .int y, .int x] M (fun w M' => w = some (.int (aLin (lin n L k) (zI (-2)) (fun Z => faF Z y x))) ∧ Fc CS M M') := by
  have hK := W.1
  cases hl : lin n L k with
  | none =>
    refine CG_in (mL := 5) (hl := false) (lv := [some (.ref 0), some (.int k), some (.int y), some (.int x), none]) (ll := []) rfl rfl rfl ?_
    refine G_S (pc := 0) f_176_0 rfl rfl rfl ?_
    refine G_S (pc := 1) f_176_1 rfl rfl rfl ?_
    refine G_CV (pc := 2) f_176_2 rfl rfl (by decide) rfl rfl (by first | assumption | exact hK.1 _ _ rfl) (by decide) ⟨Nat.le_of_ble_eq_true rfl, Nat.le_of_ble_eq_true rfl⟩ ?_
    refine CG.go (c_sightAtN W hl) ?_
    refine G_S (pc := 5) f_176_5 rfl rfl rfl ?_
    refine G_S (pc := 7) f_176_7 rfl rfl rfl ?_
    refine G_S (pc := 9) f_176_9 rfl rfl rfl ?_
    refine G_bi (v := zI (-2)) (pc := 12) f_176_12 (by decide) ?_
    refine G_S (pc := 14) f_176_14 rfl rfl rfl ?_
    refine G_ri (pc := 24) f_176_24 ?_
    exact ⟨rfl, Fc.rf⟩
  | some Z =>
    obtain ⟨l, h1, rfl, rfl⟩ := lin_some hl
    have W1 := (W.2.2.2 l h1).1
    have hu6 : 24 + 22 * l < 1000000 := by have := W1.2.2.2; omega
    have hK := W1.1
    obtain ⟨⟨t0, t1, t2, t3, t4, t5⟩, r1, r2, r3, r4, r5⟩ := W1.2.1
    obtain ⟨hZ, v0, v1, q1, q2, q3⟩ := W1.2.2.1
    have hu := W1.2.2.2
    have hz0 := hZ.1
    have hz1 := hZ.2.1
    have hzf := hZ.2.2
    refine CG_in (mL := 5) (hl := false) (lv := [some (.ref 0), some (.int (nI l)), some (.int y), some (.int x), none]) (ll := []) rfl rfl rfl ?_
    refine G_S (pc := 0) f_176_0 rfl rfl rfl ?_
    refine G_S (pc := 1) f_176_1 rfl rfl rfl ?_
    refine G_CV (pc := 2) f_176_2 rfl rfl (by decide) rfl rfl (by first | assumption | exact hK.1 _ _ rfl) (by decide) ⟨Nat.le_of_ble_eq_true rfl, Nat.le_of_ble_eq_true rfl⟩ ?_
    refine CG.go (c_sightAtL W h1) ?_
    refine G_S (pc := 5) f_176_5 rfl rfl rfl ?_
    refine G_S (pc := 7) f_176_7 rfl rfl rfl ?_
    refine G_S (pc := 9) f_176_9 rfl rfl (if_pos (by first | assumption | omega)) ?_
    refine G_S (pc := 17) f_176_17 rfl rfl rfl ?_
    refine G_S (pc := 19) f_176_19 rfl rfl rfl ?_
    refine G_S (pc := 20) f_176_20 rfl rfl rfl ?_
    refine G_CV (pc := 21) f_176_21 rfl rfl (by decide) rfl rfl (by first | assumption | exact hK.1 _ _ rfl) (by decide) ⟨Nat.le_of_ble_eq_true rfl, Nat.le_of_ble_eq_true rfl⟩ ?_
    refine CG.go (s_answer W1) ?_
    refine G_ri (pc := 24) f_176_24 ?_
    exact ⟨rfl, Fc.rf⟩
/-- the class's fits: only a judgement is kept -/
theorem c_fits (W : CSs M n L) : CG C 177 [.ref 0, .int k, .int x] M (fun w M' => w = some (.int (aLin (lin n L k) (zI (-2)) (fun Z => fiF Z x))) ∧ (M' = M ∨ ∃ l, l < n ∧ JF (24 + 22 * l) M M' ∧ M'.2.1 (24 + 22 * l) 5 = nI 1 ∧ JV M' (24 + 22 * l) (L l))) := by
  have hK := W.1
  cases hl : lin n L k with
  | none =>
    refine CG_in (mL := 4) (hl := false) (lv := [some (.ref 0), some (.int k), some (.int x), none]) (ll := []) rfl rfl rfl ?_
    refine G_S (pc := 0) f_177_0 rfl rfl rfl ?_
    refine G_S (pc := 1) f_177_1 rfl rfl rfl ?_
    refine G_CV (pc := 2) f_177_2 rfl rfl (by decide) rfl rfl (by first | assumption | exact hK.1 _ _ rfl) (by decide) ⟨Nat.le_of_ble_eq_true rfl, Nat.le_of_ble_eq_true rfl⟩ ?_
    refine CG.go (c_sightAtN W hl) ?_
    refine G_S (pc := 5) f_177_5 rfl rfl rfl ?_
    refine G_S (pc := 6) f_177_6 rfl rfl rfl ?_
    refine G_S (pc := 7) f_177_7 rfl rfl rfl ?_
    refine G_bi (v := zI (-2)) (pc := 10) f_177_10 (by decide) ?_
    refine G_ri (pc := 12) f_177_12 ?_
    exact ⟨rfl, Or.inl rfl⟩
  | some Z =>
    obtain ⟨l, h1, rfl, rfl⟩ := lin_some hl
    obtain ⟨W1, hj⟩ := W.2.2.2 l h1
    have hu6 : 24 + 22 * l < 1000000 := by have := W1.2.2.2; omega
    have hK := W1.1
    obtain ⟨⟨t0, t1, t2, t3, t4, t5⟩, r1, r2, r3, r4, r5⟩ := W1.2.1
    obtain ⟨hZ, v0, v1, q1, q2, q3⟩ := W1.2.2.1
    have hu := W1.2.2.2
    have hz0 := hZ.1
    have hz1 := hZ.2.1
    have hzf := hZ.2.2
    rcases hj with h0 | ⟨h0, hJ⟩
    · refine CG_in (mL := 4) (hl := false) (lv := [some (.ref 0), some (.int (nI l)), some (.int x), none]) (ll := []) rfl rfl rfl ?_
      refine G_S (pc := 0) f_177_0 rfl rfl rfl ?_
      refine G_S (pc := 1) f_177_1 rfl rfl rfl ?_
      refine G_CV (pc := 2) f_177_2 rfl rfl (by decide) rfl rfl (by first | assumption | exact hK.1 _ _ rfl) (by decide) ⟨Nat.le_of_ble_eq_true rfl, Nat.le_of_ble_eq_true rfl⟩ ?_
      refine CG.go (c_sightAtL W h1) ?_
      refine G_S (pc := 5) f_177_5 rfl rfl rfl ?_
      refine G_S (pc := 6) f_177_6 rfl rfl rfl ?_
      refine G_S (pc := 7) f_177_7 rfl rfl (if_pos (by first | assumption | omega)) ?_
      refine G_S (pc := 13) f_177_13 rfl rfl rfl ?_
      refine G_gIv (pc := 14) f_177_14 (by decide) rfl (by decide) (by first | assumption | exact hK.1 _ _ rfl) (by first | assumption | exact mI_s | ((refine mI_o (by first | decide | omega) ?_); (repeat (refine mI_o (by first | decide | omega) ?_)); first | exact mI_s | assumption) | rfl) ?_
      first | refine G_bNe (pc := 17) f_177_17 rfl (fun b2 => ?_) (fun b2 => ?_) | refine G_zneZ (pc := 17) f_177_17 rfl (by first | exact nI_toInt (by omega) | exact zI_toInt (by omega) (by omega) | rfl) (fun b2 => ?_) (fun b2 => ?_)
      · exfalso; omega
      · refine G_S (pc := 20) f_177_20 rfl rfl rfl ?_
        refine G_gR (pc := 21) f_177_21 (by decide) rfl (by first | assumption | exact hK.1 _ _ rfl) (by first | assumption | exact hK.2 _ _ _ rfl | (try dsimp only) <;> (repeat (first | exact up2_s | refine up2_o (by first | decide | omega) ?_)) <;> first | assumption | exact hK.2 _ _ _ rfl) ?_
        refine G_S (pc := 24) f_177_24 rfl rfl rfl ?_
        refine G_CV (pc := 25) f_177_25 rfl rfl (by decide) rfl rfl (by first | assumption | exact hK.1 _ _ rfl) (by decide) ⟨Nat.le_of_ble_eq_true rfl, Nat.le_of_ble_eq_true rfl⟩ ?_
        refine CG.mono (s_weigh W1) ?_
        rintro _ M2 ⟨rfl, hF, hJ, h5⟩
        have W2 := W1.jf hF
        have hK := W2.1
        obtain ⟨⟨t0, t1, t2, t3, t4, t5⟩, r1, r2, r3, r4, r5⟩ := W2.2.1
        obtain ⟨hZ, v0, v1, q1, q2, q3⟩ := W2.2.2.1
        have hu := W2.2.2.2
        have hz0 := hZ.1
        have hz1 := hZ.2.1
        have hzf := hZ.2.2
        refine G_S (pc := 28) f_177_28 rfl rfl rfl ?_
        refine G_S (pc := 29) f_177_29 rfl rfl rfl ?_
        refine G_CV (pc := 30) f_177_30 rfl rfl (by decide) rfl rfl (by first | assumption | exact hK.1 _ _ rfl) (by decide) ⟨Nat.le_of_ble_eq_true rfl, Nat.le_of_ble_eq_true rfl⟩ ?_
        refine CG.go (s_verdict W2 hJ.v) ?_
        refine G_ri (pc := 33) f_177_33 ?_
        exact ⟨rfl, Or.inr ⟨l, h1, hF, h5, hJ.v⟩⟩
    · refine CG_in (mL := 4) (hl := false) (lv := [some (.ref 0), some (.int (nI l)), some (.int x), none]) (ll := []) rfl rfl rfl ?_
      refine G_S (pc := 0) f_177_0 rfl rfl rfl ?_
      refine G_S (pc := 1) f_177_1 rfl rfl rfl ?_
      refine G_CV (pc := 2) f_177_2 rfl rfl (by decide) rfl rfl (by first | assumption | exact hK.1 _ _ rfl) (by decide) ⟨Nat.le_of_ble_eq_true rfl, Nat.le_of_ble_eq_true rfl⟩ ?_
      refine CG.go (c_sightAtL W h1) ?_
      refine G_S (pc := 5) f_177_5 rfl rfl rfl ?_
      refine G_S (pc := 6) f_177_6 rfl rfl rfl ?_
      refine G_S (pc := 7) f_177_7 rfl rfl (if_pos (by first | assumption | omega)) ?_
      refine G_S (pc := 13) f_177_13 rfl rfl rfl ?_
      refine G_gIv (pc := 14) f_177_14 (by decide) rfl (by decide) (by first | assumption | exact hK.1 _ _ rfl) (by first | assumption | exact mI_s | ((refine mI_o (by first | decide | omega) ?_); (repeat (refine mI_o (by first | decide | omega) ?_)); first | exact mI_s | assumption) | rfl) ?_
      first | refine G_bNe (pc := 17) f_177_17 rfl (fun b2 => ?_) (fun b2 => ?_) | refine G_zneZ (pc := 17) f_177_17 rfl (by first | exact nI_toInt (by omega) | exact zI_toInt (by omega) (by omega) | rfl) (fun b2 => ?_) (fun b2 => ?_)
      · refine G_S (pc := 28) f_177_28 rfl rfl rfl ?_
        refine G_S (pc := 29) f_177_29 rfl rfl rfl ?_
        refine G_CV (pc := 30) f_177_30 rfl rfl (by decide) rfl rfl (by first | assumption | exact hK.1 _ _ rfl) (by decide) ⟨Nat.le_of_ble_eq_true rfl, Nat.le_of_ble_eq_true rfl⟩ ?_
        refine CG.go (s_verdict W1 hJ) ?_
        refine G_ri (pc := 33) f_177_33 ?_
        exact ⟨rfl, Or.inl rfl⟩
      · exfalso; omega
theorem z_hasS (W : MSs M n L) (hl : lin n L k = some Z) : CG C 292 [.ref 98, .int k] M (fun w M' => w = some (.int (b2i (True))) ∧ mQ M M' ∧ ∃ g, mS M' g Z) := by
  obtain ⟨hK, hn, hn2, hW⟩ := W
  obtain ⟨l, h1, rfl, rfl⟩ := lin_some hl
  refine CG_in (mL := 2) (hl := false) (lv := [some (.ref 98), some (.int (nI l))]) (ll := []) rfl rfl rfl ?_
  refine G_S (pc := 0) f_292_0 rfl rfl rfl ?_
  refine G_S (pc := 1) f_292_1 rfl rfl rfl ?_
  refine G_pI (pc := 2) f_292_2 rfl (by first | assumption | exact hK.1 _ _ rfl) ?_
  refine G_S (pc := 5) f_292_5 rfl rfl rfl ?_
  refine G_ic (v := nI 3) (pc := 6) f_292_6 (by decide) ?_
  refine G_S (pc := 7) f_292_7 rfl rfl rfl ?_
  refine G_CV (pc := 8) f_292_8 rfl rfl (by decide) rfl rfl (by first | assumption | exact hK.1 _ _ rfl) (by decide) ⟨Nat.le_of_ble_eq_true rfl, Nat.le_of_ble_eq_true rfl⟩ ?_
  refine CG.go (m_isT (n := n) hK (by decide) (by (try dsimp only); exact up2_o (by omega) hn) hn2) ?_
  refine G_rz (pc := 11) f_292_11 (by first | exact Or.inl rfl | exact Or.inr rfl | exact b2i_01 _ | assumption) ?_
  refine ⟨?_, mQ.cod, l, hK, (by (try dsimp only); exact up2_s), by omega, (hW l h1).1, fun j hj => ?_⟩
  · rw [b2i_pos (by rw [nI_toInt (by omega)]; omega)]
    rfl
  · exact (by (try dsimp only); exact up2_o (by omega) ((hW l h1).2 j hj))
theorem z_hasN (W : MSs M n L) (hl : lin n L k = none) : CG C 292 [.ref 98, .int k] M (fun w M' => w = some (.int (b2i (False))) ∧ mQ M M') := by
  obtain ⟨hK, hn, hn2, hW⟩ := W
  have hk := lin_none hl
  refine CG_in (mL := 2) (hl := false) (lv := [some (.ref 98), some (.int k)]) (ll := []) rfl rfl rfl ?_
  refine G_S (pc := 0) f_292_0 rfl rfl rfl ?_
  refine G_S (pc := 1) f_292_1 rfl rfl rfl ?_
  refine G_pI (pc := 2) f_292_2 rfl (by first | assumption | exact hK.1 _ _ rfl) ?_
  refine G_S (pc := 5) f_292_5 rfl rfl rfl ?_
  refine G_ic (v := nI 3) (pc := 6) f_292_6 (by decide) ?_
  refine G_S (pc := 7) f_292_7 rfl rfl rfl ?_
  refine G_CV (pc := 8) f_292_8 rfl rfl (by decide) rfl rfl (by first | assumption | exact hK.1 _ _ rfl) (by decide) ⟨Nat.le_of_ble_eq_true rfl, Nat.le_of_ble_eq_true rfl⟩ ?_
  refine CG.go (m_isT (n := n) hK (by decide) (by (try dsimp only); exact up2_o (by omega) hn) hn2) ?_
  refine G_rz (pc := 11) f_292_11 (by first | exact Or.inl rfl | exact Or.inr rfl | exact b2i_01 _ | assumption) ?_
  refine ⟨?_, mQ.cod⟩
  rw [b2i_neg hk]
  rfl
theorem z_strangers (W : mS M g Z) : CG C 289 [.ref 98] M (fun w M' => w = some (.int (nI (Z 0))) ∧ M' = M) := by
  have hK := W.1
  obtain ⟨v0, hg8, hZ, ao⟩ := W.2
  have hz0 := hZ.1
  have hz1 := hZ.2.1
  have hzf := hZ.2.2
  have q1 : M.2.1 107 (32 * g) = nI (Z 0) := ao 0 (by omega)
  refine CG_in (mL := 1) (hl := false) (lv := [some (.ref 98)]) (ll := []) rfl rfl rfl ?_
  refine G_S (pc := 0) f_289_0 rfl rfl rfl ?_
  refine G_gR (pc := 1) f_289_1 (by decide) rfl (by first | assumption | exact hK.1 _ _ rfl) (by first | assumption | exact hK.2 _ _ _ rfl | (try dsimp only) <;> (repeat (first | exact up2_s | refine up2_o (by first | decide | omega) ?_)) <;> first | assumption | exact hK.2 _ _ _ rfl) ?_
  refine G_bi (v := nI 32) (pc := 4) f_289_4 (by decide) ?_
  refine G_S (pc := 6) f_289_6 rfl rfl rfl ?_
  refine G_gIv (pc := 7) f_289_7 (by decide) rfl (by decide) (by first | assumption | exact hK.1 _ _ rfl) (by first | assumption | exact mI_s | ((refine mI_o (by first | decide | omega) ?_); (repeat (refine mI_o (by first | decide | omega) ?_)); first | exact mI_s | assumption) | rfl) ?_
  first | refine G_mulN (pc := 10) f_289_10 ?_ | refine G_mulZ (pc := 10) f_289_10 (by first | rfl | exact nI_zI _) (by first | rfl | exact nI_zI _) ?_ | refine G_S (pc := 10) f_289_10 rfl rfl rfl ?_
  refine G_iaN (pc := 11) f_289_11 (by first | assumption | exact hK.1 _ _ rfl) (by omega) (by omega) (by first | assumption | exact q1 _ (by omega) | exact q2 _ (by omega) | exact q3 _ (by omega) | exact q4 _ (by omega) | exact q5 _ (by omega) | exact vh _ (by omega) | exact (vr _ (by omega)).1 | exact (vr _ (by omega)).2 | exact vw _ (by omega) | exact vf _ (by omega) (by omega) | exact mI_s | ((refine mI_o (by first | decide | omega) ?_); (repeat (refine mI_o (by first | decide | omega) ?_)); first | exact mI_s | assumption | exact q1 _ (by omega) | exact q2 _ (by omega) | exact q3 _ (by omega) | exact q4 _ (by omega) | exact q5 _ (by omega) | exact vh _ (by omega) | exact (vr _ (by omega)).1 | exact (vr _ (by omega)).2 | exact vw _ (by omega) | exact vf _ (by omega) (by omega)) | rfl) ?_
  refine G_ri (pc := 12) f_289_12 ?_
  exact ⟨rfl, rfl⟩
theorem z_facts (W : mS M g Z) : CG C 290 [.ref 98] M (fun w M' => w = some (.int (nI (Z 1))) ∧ M' = M) := by
  have hK := W.1
  obtain ⟨v0, hg8, hZ, ao⟩ := W.2
  have hz0 := hZ.1
  have hz1 := hZ.2.1
  have hzf := hZ.2.2
  have q1 : M.2.1 107 (32 * g + 1) = nI (Z 1) := ao 1 (by omega)
  refine CG_in (mL := 1) (hl := false) (lv := [some (.ref 98)]) (ll := []) rfl rfl rfl ?_
  refine G_S (pc := 0) f_290_0 rfl rfl rfl ?_
  refine G_gR (pc := 1) f_290_1 (by decide) rfl (by first | assumption | exact hK.1 _ _ rfl) (by first | assumption | exact hK.2 _ _ _ rfl | (try dsimp only) <;> (repeat (first | exact up2_s | refine up2_o (by first | decide | omega) ?_)) <;> first | assumption | exact hK.2 _ _ _ rfl) ?_
  refine G_bi (v := nI 32) (pc := 4) f_290_4 (by decide) ?_
  refine G_S (pc := 6) f_290_6 rfl rfl rfl ?_
  refine G_gIv (pc := 7) f_290_7 (by decide) rfl (by decide) (by first | assumption | exact hK.1 _ _ rfl) (by first | assumption | exact mI_s | ((refine mI_o (by first | decide | omega) ?_); (repeat (refine mI_o (by first | decide | omega) ?_)); first | exact mI_s | assumption) | rfl) ?_
  first | refine G_mulN (pc := 10) f_290_10 ?_ | refine G_mulZ (pc := 10) f_290_10 (by first | rfl | exact nI_zI _) (by first | rfl | exact nI_zI _) ?_ | refine G_S (pc := 10) f_290_10 rfl rfl rfl ?_
  refine G_ic (v := nI 1) (pc := 11) f_290_11 (by decide) ?_
  first | refine G_addN (pc := 12) f_290_12 ?_ | refine G_addZ (pc := 12) f_290_12 (by first | rfl | exact nI_zI _) (by first | rfl | exact nI_zI _) ?_ | refine G_S (pc := 12) f_290_12 rfl rfl rfl ?_
  refine G_iaN (pc := 13) f_290_13 (by first | assumption | exact hK.1 _ _ rfl) (by omega) (by omega) (by first | assumption | exact q1 _ (by omega) | exact q2 _ (by omega) | exact q3 _ (by omega) | exact q4 _ (by omega) | exact q5 _ (by omega) | exact vh _ (by omega) | exact (vr _ (by omega)).1 | exact (vr _ (by omega)).2 | exact vw _ (by omega) | exact vf _ (by omega) (by omega) | exact mI_s | ((refine mI_o (by first | decide | omega) ?_); (repeat (refine mI_o (by first | decide | omega) ?_)); first | exact mI_s | assumption | exact q1 _ (by omega) | exact q2 _ (by omega) | exact q3 _ (by omega) | exact q4 _ (by omega) | exact q5 _ (by omega) | exact vh _ (by omega) | exact (vr _ (by omega)).1 | exact (vr _ (by omega)).2 | exact vw _ (by omega) | exact vf _ (by omega) (by omega)) | rfl) ?_
  refine G_ri (pc := 14) f_290_14 ?_
  exact ⟨rfl, rfl⟩
theorem z_factOf {a b : Nat} (W : mS M g Z) (ha : a < Z 1) (hb : b < 3) : CG C 291 [.ref 98, .int (nI a), .int (nI b)] M (fun w M' => w = some (.int (nI (Z (2 + 3 * a + b)))) ∧ M' = M) := by
  have hK := W.1
  obtain ⟨v0, hg8, hZ, ao⟩ := W.2
  have hz0 := hZ.1
  have hz1 := hZ.2.1
  have hzf := hZ.2.2
  have q1 : M.2.1 107 (32 * g + 2 + 3 * a + b) = nI (Z (2 + 3 * a + b)) := by
    rw [show 32 * g + 2 + 3 * a + b = 32 * g + (2 + 3 * a + b) by omega]
    exact ao _ (by omega)
  refine CG_in (mL := 3) (hl := false) (lv := [some (.ref 98), some (.int (nI a)), some (.int (nI b))]) (ll := []) rfl rfl rfl ?_
  refine G_S (pc := 0) f_291_0 rfl rfl rfl ?_
  refine G_gR (pc := 1) f_291_1 (by decide) rfl (by first | assumption | exact hK.1 _ _ rfl) (by first | assumption | exact hK.2 _ _ _ rfl | (try dsimp only) <;> (repeat (first | exact up2_s | refine up2_o (by first | decide | omega) ?_)) <;> first | assumption | exact hK.2 _ _ _ rfl) ?_
  refine G_bi (v := nI 32) (pc := 4) f_291_4 (by decide) ?_
  refine G_S (pc := 6) f_291_6 rfl rfl rfl ?_
  refine G_gIv (pc := 7) f_291_7 (by decide) rfl (by decide) (by first | assumption | exact hK.1 _ _ rfl) (by first | assumption | exact mI_s | ((refine mI_o (by first | decide | omega) ?_); (repeat (refine mI_o (by first | decide | omega) ?_)); first | exact mI_s | assumption) | rfl) ?_
  first | refine G_mulN (pc := 10) f_291_10 ?_ | refine G_mulZ (pc := 10) f_291_10 (by first | rfl | exact nI_zI _) (by first | rfl | exact nI_zI _) ?_ | refine G_S (pc := 10) f_291_10 rfl rfl rfl ?_
  refine G_ic (v := nI 2) (pc := 11) f_291_11 (by decide) ?_
  first | refine G_addN (pc := 12) f_291_12 ?_ | refine G_addZ (pc := 12) f_291_12 (by first | rfl | exact nI_zI _) (by first | rfl | exact nI_zI _) ?_ | refine G_S (pc := 12) f_291_12 rfl rfl rfl ?_
  refine G_ic (v := nI 3) (pc := 13) f_291_13 (by decide) ?_
  refine G_S (pc := 14) f_291_14 rfl rfl rfl ?_
  first | refine G_mulN (pc := 15) f_291_15 ?_ | refine G_mulZ (pc := 15) f_291_15 (by first | rfl | exact nI_zI _) (by first | rfl | exact nI_zI _) ?_ | refine G_S (pc := 15) f_291_15 rfl rfl rfl ?_
  first | refine G_addN (pc := 16) f_291_16 ?_ | refine G_addZ (pc := 16) f_291_16 (by first | rfl | exact nI_zI _) (by first | rfl | exact nI_zI _) ?_ | refine G_S (pc := 16) f_291_16 rfl rfl rfl ?_
  refine G_S (pc := 17) f_291_17 rfl rfl rfl ?_
  first | refine G_addN (pc := 18) f_291_18 ?_ | refine G_addZ (pc := 18) f_291_18 (by first | rfl | exact nI_zI _) (by first | rfl | exact nI_zI _) ?_ | refine G_S (pc := 18) f_291_18 rfl rfl rfl ?_
  refine G_iaN (pc := 19) f_291_19 (by first | assumption | exact hK.1 _ _ rfl) (by omega) (by omega) (by first | assumption | exact q1 _ (by omega) | exact q2 _ (by omega) | exact q3 _ (by omega) | exact q4 _ (by omega) | exact q5 _ (by omega) | exact vh _ (by omega) | exact (vr _ (by omega)).1 | exact (vr _ (by omega)).2 | exact vw _ (by omega) | exact vf _ (by omega) (by omega) | exact mI_s | ((refine mI_o (by first | decide | omega) ?_); (repeat (refine mI_o (by first | decide | omega) ?_)); first | exact mI_s | assumption | exact q1 _ (by omega) | exact q2 _ (by omega) | exact q3 _ (by omega) | exact q4 _ (by omega) | exact q5 _ (by omega) | exact vh _ (by omega) | exact (vr _ (by omega)).1 | exact (vr _ (by omega)).2 | exact vw _ (by omega) | exact vf _ (by omega) (by omega)) | rfl) ?_
  refine G_ri (pc := 20) f_291_20 ?_
  exact ⟨rfl, rfl⟩
theorem z_fact (W : MSs M n L) : CG C 293 [.ref 98, .int k, .int y, .int x] M (fun w M' => w = some (.int (aLin (lin n L k) (zI (-2)) (fun Z => faF Z y x))) ∧ mQ M M') := by
  have hK := W.1
  cases hl : lin n L k with
  | none =>
    refine CG_in (mL := 4) (hl := false) (lv := [some (.ref 98), some (.int k), some (.int y), some (.int x)]) (ll := []) rfl rfl rfl ?_
    refine G_S (pc := 0) f_293_0 rfl rfl rfl ?_
    refine G_ic (v := nI 0) (pc := 1) f_293_1 (by decide) ?_
    refine G_pI (pc := 2) f_293_2 rfl (by first | assumption | exact hK.1 _ _ rfl) ?_
    refine G_S (pc := 5) f_293_5 rfl rfl rfl ?_
    refine G_S (pc := 6) f_293_6 rfl rfl rfl ?_
    refine G_CV (pc := 7) f_293_7 rfl rfl (by decide) rfl rfl (by first | assumption | exact hK.1 _ _ rfl) (by decide) ⟨Nat.le_of_ble_eq_true rfl, Nat.le_of_ble_eq_true rfl⟩ ?_
    refine CG.mono (z_hasN (W.q mQ.cod) hl) ?_
    rintro _ M1 ⟨rfl, hQ⟩
    first | refine G_bNe (pc := 10) f_293_10 rfl (fun b1 => ?_) (fun b1 => ?_) | refine G_zneZ (pc := 10) f_293_10 rfl (by first | exact nI_toInt (by omega) | exact zI_toInt (by omega) (by omega) | rfl) (fun b1 => ?_) (fun b1 => ?_)
    · exact absurd b1 id
    · refine G_bi (v := zI (-2)) (pc := 13) f_293_13 (by decide) ?_
      refine G_ri (pc := 15) f_293_15 ?_
      exact ⟨rfl, mQ.cod.tr hQ⟩
  | some Z =>
    show CG C 293 [.ref 98, .int k, .int y, .int x] M (fun w M' => w = some (.int (faF Z y x)) ∧ mQ M M')
    refine CG_in (mL := 4) (hl := false) (lv := [some (.ref 98), some (.int k), some (.int y), some (.int x)]) (ll := []) rfl rfl rfl ?_
    refine G_S (pc := 0) f_293_0 rfl rfl rfl ?_
    refine G_ic (v := nI 0) (pc := 1) f_293_1 (by decide) ?_
    refine G_pI (pc := 2) f_293_2 rfl (by first | assumption | exact hK.1 _ _ rfl) ?_
    refine G_S (pc := 5) f_293_5 rfl rfl rfl ?_
    refine G_S (pc := 6) f_293_6 rfl rfl rfl ?_
    refine G_CV (pc := 7) f_293_7 rfl rfl (by decide) rfl rfl (by first | assumption | exact hK.1 _ _ rfl) (by decide) ⟨Nat.le_of_ble_eq_true rfl, Nat.le_of_ble_eq_true rfl⟩ ?_
    refine CG.mono (z_hasS (W.q mQ.cod) hl) ?_
    rintro _ M1 ⟨rfl, hQ, g, W1⟩
    have hK := W1.1
    obtain ⟨v0, hg8, hZ, ao⟩ := W1.2
    have hz0 := hZ.1
    have hz1 := hZ.2.1
    have hzf := hZ.2.2
    have hQ := mQ.cod.tr hQ
    first | refine G_bNe (pc := 10) f_293_10 rfl (fun b1 => ?_) (fun b1 => ?_) | refine G_zneZ (pc := 10) f_293_10 rfl (by first | exact nI_toInt (by omega) | exact zI_toInt (by omega) (by omega) | rfl) (fun b1 => ?_) (fun b1 => ?_)
    · refine G_S (pc := 16) f_293_16 rfl rfl rfl ?_
      refine G_ic (v := zI (-1)) (pc := 17) f_293_17 (by decide) ?_
      refine G_jneZ (pc := 18) f_293_18 rfl (by first | exact nI_toInt (by omega) | exact zI_toInt (by omega) (by omega) | rfl) (by first | exact nI_toInt (by omega) | exact zI_toInt (by omega) (by omega) | rfl) (fun b2 => ?_) (fun b2 => ?_)
      · refine G_S (pc := 47) f_293_47 rfl rfl rfl ?_
        refine G_ic (v := nI 0) (pc := 48) f_293_48 (by decide) ?_
        refine G_S (pc := 49) f_293_49 rfl rfl rfl ?_
        refine G_CV (pc := 50) f_293_50 rfl rfl (by decide) rfl rfl (by first | assumption | exact hK.1 _ _ rfl) (by decide) ⟨Nat.le_of_ble_eq_true rfl, Nat.le_of_ble_eq_true rfl⟩ ?_
        refine CG.go (z_facts W1) ?_
        refine G_ic (v := nI 1) (pc := 53) f_293_53 (by decide) ?_
        first | refine G_subN (pc := 54) f_293_54 (by omega) ?_ | refine G_subZ (pc := 54) f_293_54 (by first | rfl | exact nI_zI _) (by first | rfl | exact nI_zI _) ?_ | refine G_S (pc := 54) f_293_54 rfl rfl rfl ?_
        refine G_CS (pc := 55) f_293_55 rfl rfl (by decide) rfl rfl ⟨Nat.le_of_ble_eq_true rfl, Nat.le_of_ble_eq_true rfl⟩ ?_
        refine CG.go (m_inZ (by first | exact nI_toInt (by omega) | exact zI_toInt (by omega) (by omega) | rfl) (by first | exact nI_toInt (by omega) | exact zI_toInt (by omega) (by omega) | rfl) (by first | exact nI_toInt (by omega) | exact zI_toInt (by omega) (by omega) | rfl)) ?_
        first | refine G_bEq (pc := 58) f_293_58 rfl (fun b5 => ?_) (fun b5 => ?_) | refine G_zeqZ (pc := 58) f_293_58 rfl (by first | exact nI_toInt (by omega) | exact zI_toInt (by omega) (by omega) | rfl) (fun b5 => ?_) (fun b5 => ?_)
        · refine G_bi (v := zI (-2)) (pc := 79) f_293_79 (by decide) ?_
          refine G_ri (pc := 81) f_293_81 ?_
          refine ⟨?_, hQ⟩
          congr 2
          unfold faF
          first
            | (exfalso; omega)
            | rw [if_pos (by omega), if_pos (by omega)]
            | rw [if_pos (by omega), if_neg (by omega), if_pos (by omega)]
            | rw [if_pos (by omega), if_neg (by omega), if_neg (by omega)]
            | rw [if_neg (by omega), if_neg (by omega)]
            | (rw [nI_toInt (by omega), nI_toInt (by omega), if_neg (by omega), if_pos (by omega), Int.toNat_natCast, Int.toNat_natCast])
        · refine G_S (pc := 61) f_293_61 rfl rfl rfl ?_
          refine G_ic (v := nI 0) (pc := 62) f_293_62 (by decide) ?_
          refine G_ic (v := nI 2) (pc := 63) f_293_63 (by decide) ?_
          refine G_CS (pc := 64) f_293_64 rfl rfl (by decide) rfl rfl ⟨Nat.le_of_ble_eq_true rfl, Nat.le_of_ble_eq_true rfl⟩ ?_
          refine CG.go (m_inZ (by first | exact nI_toInt (by omega) | exact zI_toInt (by omega) (by omega) | rfl) (by first | exact nI_toInt (by omega) | exact zI_toInt (by omega) (by omega) | rfl) (by first | exact nI_toInt (by omega) | exact zI_toInt (by omega) (by omega) | rfl)) ?_
          first | refine G_bEq (pc := 67) f_293_67 rfl (fun b6 => ?_) (fun b6 => ?_) | refine G_zeqZ (pc := 67) f_293_67 rfl (by first | exact nI_toInt (by omega) | exact zI_toInt (by omega) (by omega) | rfl) (fun b6 => ?_) (fun b6 => ?_)
          · refine G_bi (v := zI (-2)) (pc := 79) f_293_79 (by decide) ?_
            refine G_ri (pc := 81) f_293_81 ?_
            refine ⟨?_, hQ⟩
            congr 2
            unfold faF
            first
              | (exfalso; omega)
              | rw [if_pos (by omega), if_pos (by omega)]
              | rw [if_pos (by omega), if_neg (by omega), if_pos (by omega)]
              | rw [if_pos (by omega), if_neg (by omega), if_neg (by omega)]
              | rw [if_neg (by omega), if_neg (by omega)]
              | (rw [nI_toInt (by omega), nI_toInt (by omega), if_neg (by omega), if_pos (by omega), Int.toNat_natCast, Int.toNat_natCast])
          · obtain ⟨c, hc, rfl⟩ := i_nat (x := y) (n := Z 1) b5.1 (by omega)
            obtain ⟨e, he, rfl⟩ := i_nat (x := x) (n := 3) b6.1 (by omega)
            rw [nI_toInt (by omega)] at b2
            refine G_S (pc := 70) f_293_70 rfl rfl rfl ?_
            refine G_S (pc := 71) f_293_71 rfl rfl rfl ?_
            refine G_S (pc := 72) f_293_72 rfl rfl rfl ?_
            refine G_CV (pc := 73) f_293_73 rfl rfl (by decide) rfl rfl (by first | assumption | exact hK.1 _ _ rfl) (by decide) ⟨Nat.le_of_ble_eq_true rfl, Nat.le_of_ble_eq_true rfl⟩ ?_
            refine CG.go (z_factOf W1 hc he) ?_
            refine G_S (pc := 76) f_293_76 rfl rfl rfl ?_
            refine G_ri (pc := 81) f_293_81 ?_
            refine ⟨?_, hQ⟩
            congr 2
            unfold faF
            first
              | (exfalso; omega)
              | rw [if_pos (by omega), if_pos (by omega)]
              | rw [if_pos (by omega), if_neg (by omega), if_pos (by omega)]
              | rw [if_pos (by omega), if_neg (by omega), if_neg (by omega)]
              | rw [if_neg (by omega), if_neg (by omega)]
              | (rw [nI_toInt (by omega), nI_toInt (by omega), if_neg (by omega), if_pos (by omega), Int.toNat_natCast, Int.toNat_natCast])
      · refine G_S (pc := 21) f_293_21 rfl rfl rfl ?_
        first | refine G_bNe (pc := 22) f_293_22 rfl (fun b3 => ?_) (fun b3 => ?_) | refine G_zneZ (pc := 22) f_293_22 rfl (by first | exact nI_toInt (by omega) | exact zI_toInt (by omega) (by omega) | rfl) (fun b3 => ?_) (fun b3 => ?_)
        · refine G_S (pc := 32) f_293_32 rfl rfl rfl ?_
          refine G_ic (v := nI 1) (pc := 33) f_293_33 (by decide) ?_
          refine G_jneZ (pc := 34) f_293_34 rfl (by first | exact nI_toInt (by omega) | exact zI_toInt (by omega) (by omega) | rfl) (by first | exact nI_toInt (by omega) | exact zI_toInt (by omega) (by omega) | rfl) (fun b4 => ?_) (fun b4 => ?_)
          · refine G_bi (v := zI (-2)) (pc := 44) f_293_44 (by decide) ?_
            refine G_ri (pc := 46) f_293_46 ?_
            refine ⟨?_, hQ⟩
            congr 2
            unfold faF
            first
              | (exfalso; omega)
              | rw [if_pos (by omega), if_pos (by omega)]
              | rw [if_pos (by omega), if_neg (by omega), if_pos (by omega)]
              | rw [if_pos (by omega), if_neg (by omega), if_neg (by omega)]
              | rw [if_neg (by omega), if_neg (by omega)]
              | (rw [nI_toInt (by omega), nI_toInt (by omega), if_neg (by omega), if_pos (by omega), Int.toNat_natCast, Int.toNat_natCast])
          · refine G_S (pc := 37) f_293_37 rfl rfl rfl ?_
            refine G_CV (pc := 38) f_293_38 rfl rfl (by decide) rfl rfl (by first | assumption | exact hK.1 _ _ rfl) (by decide) ⟨Nat.le_of_ble_eq_true rfl, Nat.le_of_ble_eq_true rfl⟩ ?_
            refine CG.go (z_facts W1) ?_
            refine G_S (pc := 41) f_293_41 rfl rfl rfl ?_
            refine G_ri (pc := 46) f_293_46 ?_
            refine ⟨?_, hQ⟩
            congr 2
            unfold faF
            first
              | (exfalso; omega)
              | rw [if_pos (by omega), if_pos (by omega)]
              | rw [if_pos (by omega), if_neg (by omega), if_pos (by omega)]
              | rw [if_pos (by omega), if_neg (by omega), if_neg (by omega)]
              | rw [if_neg (by omega), if_neg (by omega)]
              | (rw [nI_toInt (by omega), nI_toInt (by omega), if_neg (by omega), if_pos (by omega), Int.toNat_natCast, Int.toNat_natCast])
        · refine G_S (pc := 25) f_293_25 rfl rfl rfl ?_
          refine G_CV (pc := 26) f_293_26 rfl rfl (by decide) rfl rfl (by first | assumption | exact hK.1 _ _ rfl) (by decide) ⟨Nat.le_of_ble_eq_true rfl, Nat.le_of_ble_eq_true rfl⟩ ?_
          refine CG.go (z_strangers W1) ?_
          refine G_S (pc := 29) f_293_29 rfl rfl rfl ?_
          refine G_ri (pc := 46) f_293_46 ?_
          refine ⟨?_, hQ⟩
          congr 2
          unfold faF
          first
            | (exfalso; omega)
            | rw [if_pos (by omega), if_pos (by omega)]
            | rw [if_pos (by omega), if_neg (by omega), if_pos (by omega)]
            | rw [if_pos (by omega), if_neg (by omega), if_neg (by omega)]
            | rw [if_neg (by omega), if_neg (by omega)]
            | (rw [nI_toInt (by omega), nI_toInt (by omega), if_neg (by omega), if_pos (by omega), Int.toNat_natCast, Int.toNat_natCast])
    · exact absurd trivial b1
/-- a way laid for the reference -/
def MO (M : Mm) (w : Nat) : Prop := ∀ s, s < 4 → M.2.1 121 s = nI (brw w s)
theorem z_layBear (W : mS M g Z) (hw : w < 2 ^ 31) : CG C 294 [.ref 98, .int (nI w)] M (fun v M' => v = none ∧ Fm [121] [] M M' ∧ MO M' w) := by
  have hK0 := W.1
  have loop : ∀ i, i ≤ 4 → ∀ M1, Fm [121] [] M M1 → (∀ s, s < i → M1.2.1 121 s = nI (brw w s)) → G C 294 (4, [some (.ref 98), some (.int (nI w)), some (.int (nI (w / 10 ^ i))), some (.int (nI i))], [], [], M1) (fun v M' => v = none ∧ Fm [121] [] M M' ∧ MO M' w) := by
    refine upto (fun i hi ih M1 hF q1 => ?_)
    have hK := hF.K hK0
    have hdv : w / 10 ^ i ≤ w := Nat.div_le_self _ _
    refine G_S (pc := 4) f_294_4 rfl rfl rfl ?_
    refine G_ic (v := nI 4) (pc := 5) f_294_5 (by decide) ?_
    refine G_jgeZ (pc := 6) f_294_6 rfl (by first | exact nI_toInt (by omega) | exact zI_toInt (by omega) (by omega) | rfl) (by first | exact nI_toInt (by omega) | exact zI_toInt (by omega) (by omega) | rfl) (fun b1 => ?_) (fun b1 => ?_)
    · refine G_rv (pc := 30) f_294_30 ?_
      exact ⟨rfl, hF, fun s hs => q1 s (by omega)⟩
    · refine G_S (pc := 9) f_294_9 rfl rfl rfl ?_
      refine G_gR (pc := 10) f_294_10 (by decide) rfl (by first | assumption | exact hK.1 _ _ rfl) (by first | assumption | exact hK.2 _ _ _ rfl | (try dsimp only) <;> (repeat (first | exact up2_s | refine up2_o (by first | decide | omega) ?_)) <;> first | assumption | exact hK.2 _ _ _ rfl) ?_
      refine G_S (pc := 13) f_294_13 rfl rfl rfl ?_
      refine G_S (pc := 14) f_294_14 rfl rfl rfl ?_
      refine G_bi (v := nI 10) (pc := 15) f_294_15 (by decide) ?_
      refine G_remN (pc := 17) f_294_17 (by omega) (by omega) (by omega) ?_
      refine G_isN (pc := 18) f_294_18 (by first | assumption | exact hK.1 _ _ rfl) (by omega) (by omega) ?_
      refine G_S (pc := 19) f_294_19 rfl rfl rfl ?_
      refine G_bi (v := nI 10) (pc := 20) f_294_20 (by decide) ?_
      refine G_divN (pc := 22) f_294_22 (by omega) (by omega) (by omega) ?_
      refine G_S (pc := 23) f_294_23 rfl rfl rfl ?_
      first | refine G_inc1 (pc := 24) f_294_24 rfl ?_ | refine G_S (pc := 24) f_294_24 rfl rfl rfl ?_
      refine G_S (pc := 27) f_294_27 rfl rfl rfl ?_
      rw [Nat.div_div_eq_div_mul, ← Nat.pow_succ]
      refine ih (by omega) _ (hF.tr (Fm.up (i := 121) (k := i) (x := nI (brw w i)) (by decide) (by decide))) (fun s hs => ?_)
      by_cases q : s = i
      · subst q
        exact (by (try dsimp only); exact up2_s)
      · exact (by (try dsimp only); exact up2_o (by omega) (q1 s (by omega)))
  refine CG_in (mL := 4) (hl := false) (lv := [some (.ref 98), some (.int (nI w)), none, none]) (ll := []) rfl rfl rfl ?_
  refine G_S (pc := 0) f_294_0 rfl rfl rfl ?_
  refine G_S (pc := 1) f_294_1 rfl rfl rfl ?_
  refine G_ic (v := nI 0) (pc := 2) f_294_2 (by decide) ?_
  refine G_S (pc := 3) f_294_3 rfl rfl rfl ?_
  have e0 : w = w / 10 ^ 0 := by rw [Nat.pow_zero, Nat.div_one]
  have e := loop 0 (Nat.zero_le _) M Fm.rf (fun s hs => absurd hs (by omega))
  rw [← e0] at e
  exact e
theorem z_together {set : Nat} (W : mS M g Z) (hO : MO M w) (hs : set < 16) : CG C 295 [.ref 98, .int (nI set)] M (fun v M' => v = some (.int (nI (tg w set))) ∧ M' = M) := by
  have hK := W.1
  obtain ⟨v0, hg8, hZ, ao⟩ := W.2
  have hz0 := hZ.1
  have hz1 := hZ.2.1
  have hzf := hZ.2.2
  have q1 : ∀ s, s < 4 → M.2.1 121 s = nI (brw w s) := hO
  have loop : ∀ i, i ≤ 4 → G C 295 (4, [some (.ref 98), some (.int (nI set)), some (.int (nI (tgN w set i))), some (.int (nI i))], [], [], M) (fun v M' => v = some (.int (nI (tg w set))) ∧ M' = M) := by
    refine upto (fun i hi ih => ?_)
    refine G_S (pc := 4) f_295_4 rfl rfl rfl ?_
    refine G_ic (v := nI 4) (pc := 5) f_295_5 (by decide) ?_
    refine G_jgeZ (pc := 6) f_295_6 rfl (by first | exact nI_toInt (by omega) | exact zI_toInt (by omega) (by omega) | rfl) (by first | exact nI_toInt (by omega) | exact zI_toInt (by omega) (by omega) | rfl) (fun b1 => ?_) (fun b1 => ?_)
    · refine G_S (pc := 36) f_295_36 rfl rfl rfl ?_
      refine G_ri (pc := 37) f_295_37 ?_
      rw [show i = 4 by omega]
      exact ⟨rfl, rfl⟩
    · refine G_S (pc := 9) f_295_9 rfl rfl rfl ?_
      refine G_S (pc := 10) f_295_10 rfl rfl rfl ?_
      refine G_S (pc := 11) f_295_11 rfl rfl rfl ?_
      refine G_CS (pc := 12) f_295_12 rfl rfl (by decide) rfl rfl ⟨Nat.le_of_ble_eq_true rfl, Nat.le_of_ble_eq_true rfl⟩ ?_
      refine CG.go (m_hasN (by omega) (by omega)) ?_
      first | refine G_bEq (pc := 15) f_295_15 rfl (fun b2 => ?_) (fun b2 => ?_) | refine G_zeqZ (pc := 15) f_295_15 rfl (by first | exact nI_toInt (by omega) | exact zI_toInt (by omega) (by omega) | rfl) (fun b2 => ?_) (fun b2 => ?_)
      · refine G_ic (v := nI 0) (pc := 27) f_295_27 (by decide) ?_
        first | refine G_addN (pc := 28) f_295_28 ?_ | refine G_addZ (pc := 28) f_295_28 (by first | rfl | exact nI_zI _) (by first | rfl | exact nI_zI _) ?_ | refine G_S (pc := 28) f_295_28 rfl rfl rfl ?_
        refine G_S (pc := 29) f_295_29 rfl rfl rfl ?_
        first | refine G_inc1 (pc := 30) f_295_30 rfl ?_ | refine G_S (pc := 30) f_295_30 rfl rfl rfl ?_
        refine G_S (pc := 33) f_295_33 rfl rfl rfl ?_
        have e := ih (by omega)
        first
          | (rw [tgN, if_pos b2] at e; exact e)
          | (rw [tgN, if_neg b2] at e; exact e)
      · refine G_S (pc := 18) f_295_18 rfl rfl rfl ?_
        refine G_gR (pc := 19) f_295_19 (by decide) rfl (by first | assumption | exact hK.1 _ _ rfl) (by first | assumption | exact hK.2 _ _ _ rfl | (try dsimp only) <;> (repeat (first | exact up2_s | refine up2_o (by first | decide | omega) ?_)) <;> first | assumption | exact hK.2 _ _ _ rfl) ?_
        refine G_S (pc := 22) f_295_22 rfl rfl rfl ?_
        refine G_iaN (pc := 23) f_295_23 (by first | assumption | exact hK.1 _ _ rfl) (by omega) (by omega) (by first | assumption | exact q1 _ (by omega) | exact q2 _ (by omega) | exact q3 _ (by omega) | exact q4 _ (by omega) | exact q5 _ (by omega) | exact vh _ (by omega) | exact (vr _ (by omega)).1 | exact (vr _ (by omega)).2 | exact vw _ (by omega) | exact vf _ (by omega) (by omega) | exact mI_s | ((refine mI_o (by first | decide | omega) ?_); (repeat (refine mI_o (by first | decide | omega) ?_)); first | exact mI_s | assumption | exact q1 _ (by omega) | exact q2 _ (by omega) | exact q3 _ (by omega) | exact q4 _ (by omega) | exact q5 _ (by omega) | exact vh _ (by omega) | exact (vr _ (by omega)).1 | exact (vr _ (by omega)).2 | exact vw _ (by omega) | exact vf _ (by omega) (by omega)) | rfl) ?_
        refine G_S (pc := 24) f_295_24 rfl rfl rfl ?_
        first | refine G_addN (pc := 28) f_295_28 ?_ | refine G_addZ (pc := 28) f_295_28 (by first | rfl | exact nI_zI _) (by first | rfl | exact nI_zI _) ?_ | refine G_S (pc := 28) f_295_28 rfl rfl rfl ?_
        refine G_S (pc := 29) f_295_29 rfl rfl rfl ?_
        first | refine G_inc1 (pc := 30) f_295_30 rfl ?_ | refine G_S (pc := 30) f_295_30 rfl rfl rfl ?_
        refine G_S (pc := 33) f_295_33 rfl rfl rfl ?_
        have e := ih (by omega)
        first
          | (rw [tgN, if_pos b2] at e; exact e)
          | (rw [tgN, if_neg b2] at e; exact e)
  refine CG_in (mL := 4) (hl := false) (lv := [some (.ref 98), some (.int (nI set)), none, none]) (ll := []) rfl rfl rfl ?_
  refine G_ic (v := nI 0) (pc := 0) f_295_0 (by decide) ?_
  refine G_S (pc := 1) f_295_1 rfl rfl rfl ?_
  refine G_ic (v := nI 0) (pc := 2) f_295_2 (by decide) ?_
  refine G_S (pc := 3) f_295_3 rfl rfl rfl ?_
  exact loop 0 (Nat.zero_le _)
theorem z_isFit (W : mS M g Z) (hO : MO M w) : CG C 296 [.ref 98] M (fun v M' => v = some (.int (b2i (ftB Z w = true))) ∧ M' = M) := by
  have hK := W.1
  obtain ⟨v0, hg8, hZ, ao⟩ := W.2
  have hz0 := hZ.1
  have hz1 := hZ.2.1
  have hzf := hZ.2.2
  have hp := p2 hz0.2
  have loop : ∀ i, i ≤ Z 1 → ftN Z w i = true → G C 296 (2, [some (.ref 98), some (.int (nI i))], [], [], M) (fun v M' => v = some (.int (b2i (ftB Z w = true))) ∧ M' = M) := by
    refine upto (fun i hi ih hf => ?_)
    have hzi : i < Z 1 → Z (2 + 3 * i) ≤ 1 ∧ Z (3 + 3 * i) < 2 ^ Z 0 ∧ Z (4 + 3 * i) ≤ 99 := fun q => hzf i q
    have ht := tg_le w (Z (3 + 3 * i))
    have f1 : i < Z 1 → CG C 291 [.ref 98, .int (nI i), .int (nI 1)] M (fun v M' => v = some (.int (nI (Z (3 + 3 * i)))) ∧ M' = M) := fun q => by
      have := z_factOf (C := C) (a := i) (b := 1) W q (by omega)
      rw [show 2 + 3 * i + 1 = 3 + 3 * i by omega] at this
      exact this
    have f2 : i < Z 1 → CG C 291 [.ref 98, .int (nI i), .int (nI 2)] M (fun v M' => v = some (.int (nI (Z (4 + 3 * i)))) ∧ M' = M) := fun q => by
      have := z_factOf (C := C) (a := i) (b := 2) W q (by omega)
      rw [show 2 + 3 * i + 2 = 4 + 3 * i by omega] at this
      exact this
    have f0 : i < Z 1 → CG C 291 [.ref 98, .int (nI i), .int (nI 0)] M (fun v M' => v = some (.int (nI (Z (2 + 3 * i)))) ∧ M' = M) := fun q => z_factOf (C := C) (a := i) (b := 0) W q (by omega)
    refine G_S (pc := 2) f_296_2 rfl rfl rfl ?_
    refine G_S (pc := 3) f_296_3 rfl rfl rfl ?_
    refine G_CV (pc := 4) f_296_4 rfl rfl (by decide) rfl rfl (by first | assumption | exact hK.1 _ _ rfl) (by decide) ⟨Nat.le_of_ble_eq_true rfl, Nat.le_of_ble_eq_true rfl⟩ ?_
    refine CG.go (z_facts W) ?_
    refine G_jgeZ (pc := 7) f_296_7 rfl (by first | exact nI_toInt (by omega) | exact zI_toInt (by omega) (by omega) | rfl) (by first | exact nI_toInt (by omega) | exact zI_toInt (by omega) (by omega) | rfl) (fun b1 => ?_) (fun b1 => ?_)
    · refine G_ic (v := nI 1) (pc := 60) f_296_60 (by decide) ?_
      refine G_rz (pc := 61) f_296_61 (by first | exact Or.inl rfl | exact Or.inr rfl | exact b2i_01 _ | assumption) ?_
      refine ⟨?_, rfl⟩
      congr 2
      first
        | (rw [show i = Z 1 by omega] at hf
           exact (b2i_1 hf).symm)
        | (refine (b2i_0 (ftN_f (i := i + 1) (fun q => ?_) (by omega))).symm
           have q2 := (band.mp q).2
           first
             | (rw [decide_eq_true (show Z (4 + 3 * i) ≤ tg w (Z (3 + 3 * i)) by omega), decide_eq_false (show ¬ Z (2 + 3 * i) = 1 by omega)] at q2; cases q2)
             | (rw [decide_eq_false (show ¬ Z (4 + 3 * i) ≤ tg w (Z (3 + 3 * i)) by omega), decide_eq_true (show Z (2 + 3 * i) = 1 by omega)] at q2; cases q2))
    · obtain ⟨z1, z2, z3⟩ := hzi (by omega)
      refine G_S (pc := 10) f_296_10 rfl rfl rfl ?_
      refine G_S (pc := 11) f_296_11 rfl rfl rfl ?_
      refine G_S (pc := 12) f_296_12 rfl rfl rfl ?_
      refine G_ic (v := nI 1) (pc := 13) f_296_13 (by decide) ?_
      refine G_CV (pc := 14) f_296_14 rfl rfl (by decide) rfl rfl (by first | assumption | exact hK.1 _ _ rfl) (by decide) ⟨Nat.le_of_ble_eq_true rfl, Nat.le_of_ble_eq_true rfl⟩ ?_
      refine CG.go (f1 (by omega)) ?_
      refine G_CV (pc := 17) f_296_17 rfl rfl (by decide) rfl rfl (by first | assumption | exact hK.1 _ _ rfl) (by decide) ⟨Nat.le_of_ble_eq_true rfl, Nat.le_of_ble_eq_true rfl⟩ ?_
      refine CG.go (z_together W hO (by omega)) ?_
      refine G_S (pc := 20) f_296_20 rfl rfl rfl ?_
      refine G_S (pc := 21) f_296_21 rfl rfl rfl ?_
      refine G_ic (v := nI 2) (pc := 22) f_296_22 (by decide) ?_
      refine G_CV (pc := 23) f_296_23 rfl rfl (by decide) rfl rfl (by first | assumption | exact hK.1 _ _ rfl) (by decide) ⟨Nat.le_of_ble_eq_true rfl, Nat.le_of_ble_eq_true rfl⟩ ?_
      refine CG.go (f2 (by omega)) ?_
      refine G_jltZ (pc := 26) f_296_26 rfl (by first | exact nI_toInt (by omega) | exact zI_toInt (by omega) (by omega) | rfl) (by first | exact nI_toInt (by omega) | exact zI_toInt (by omega) (by omega) | rfl) (fun b2 => ?_) (fun b2 => ?_)
      · refine G_ic (v := nI 0) (pc := 33) f_296_33 (by decide) ?_
        refine G_S (pc := 34) f_296_34 rfl rfl rfl ?_
        refine G_S (pc := 35) f_296_35 rfl rfl rfl ?_
        refine G_ic (v := nI 0) (pc := 36) f_296_36 (by decide) ?_
        refine G_CV (pc := 37) f_296_37 rfl rfl (by decide) rfl rfl (by first | assumption | exact hK.1 _ _ rfl) (by decide) ⟨Nat.le_of_ble_eq_true rfl, Nat.le_of_ble_eq_true rfl⟩ ?_
        refine CG.go (f0 (by omega)) ?_
        refine G_ic (v := nI 1) (pc := 40) f_296_40 (by decide) ?_
        refine G_jneZ (pc := 41) f_296_41 rfl (by first | exact nI_toInt (by omega) | exact zI_toInt (by omega) (by omega) | rfl) (by first | exact nI_toInt (by omega) | exact zI_toInt (by omega) (by omega) | rfl) (fun b3 => ?_) (fun b3 => ?_)
        · refine G_ic (v := nI 0) (pc := 48) f_296_48 (by decide) ?_
          refine G_S (pc := 49) f_296_49 rfl rfl rfl ?_
          first | refine G_inc1 (pc := 54) f_296_54 rfl ?_ | refine G_S (pc := 54) f_296_54 rfl rfl rfl ?_
          refine G_S (pc := 57) f_296_57 rfl rfl rfl ?_
          refine ih (by omega) (band.mpr ⟨hf, ?_⟩)
          first
            | (rw [decide_eq_true (show Z (4 + 3 * i) ≤ tg w (Z (3 + 3 * i)) by omega), decide_eq_true (show Z (2 + 3 * i) = 1 by omega)]; rfl)
            | (rw [decide_eq_false (show ¬ Z (4 + 3 * i) ≤ tg w (Z (3 + 3 * i)) by omega), decide_eq_false (show ¬ Z (2 + 3 * i) = 1 by omega)]; rfl)
        · refine G_ic (v := nI 1) (pc := 44) f_296_44 (by decide) ?_
          refine G_S (pc := 45) f_296_45 rfl rfl rfl ?_
          refine G_S (pc := 49) f_296_49 rfl rfl rfl ?_
          refine G_ic (v := nI 0) (pc := 52) f_296_52 (by decide) ?_
          refine G_rz (pc := 53) f_296_53 (by first | exact Or.inl rfl | exact Or.inr rfl | exact b2i_01 _ | assumption) ?_
          refine ⟨?_, rfl⟩
          congr 2
          first
            | (rw [show i = Z 1 by omega] at hf
               exact (b2i_1 hf).symm)
            | (refine (b2i_0 (ftN_f (i := i + 1) (fun q => ?_) (by omega))).symm
               have q2 := (band.mp q).2
               first
                 | (rw [decide_eq_true (show Z (4 + 3 * i) ≤ tg w (Z (3 + 3 * i)) by omega), decide_eq_false (show ¬ Z (2 + 3 * i) = 1 by omega)] at q2; cases q2)
                 | (rw [decide_eq_false (show ¬ Z (4 + 3 * i) ≤ tg w (Z (3 + 3 * i)) by omega), decide_eq_true (show Z (2 + 3 * i) = 1 by omega)] at q2; cases q2))
      · refine G_ic (v := nI 1) (pc := 29) f_296_29 (by decide) ?_
        refine G_S (pc := 30) f_296_30 rfl rfl rfl ?_
        refine G_S (pc := 34) f_296_34 rfl rfl rfl ?_
        refine G_S (pc := 35) f_296_35 rfl rfl rfl ?_
        refine G_ic (v := nI 0) (pc := 36) f_296_36 (by decide) ?_
        refine G_CV (pc := 37) f_296_37 rfl rfl (by decide) rfl rfl (by first | assumption | exact hK.1 _ _ rfl) (by decide) ⟨Nat.le_of_ble_eq_true rfl, Nat.le_of_ble_eq_true rfl⟩ ?_
        refine CG.go (f0 (by omega)) ?_
        refine G_ic (v := nI 1) (pc := 40) f_296_40 (by decide) ?_
        refine G_jneZ (pc := 41) f_296_41 rfl (by first | exact nI_toInt (by omega) | exact zI_toInt (by omega) (by omega) | rfl) (by first | exact nI_toInt (by omega) | exact zI_toInt (by omega) (by omega) | rfl) (fun b3 => ?_) (fun b3 => ?_)
        · refine G_ic (v := nI 0) (pc := 48) f_296_48 (by decide) ?_
          refine G_S (pc := 49) f_296_49 rfl rfl rfl ?_
          refine G_ic (v := nI 0) (pc := 52) f_296_52 (by decide) ?_
          refine G_rz (pc := 53) f_296_53 (by first | exact Or.inl rfl | exact Or.inr rfl | exact b2i_01 _ | assumption) ?_
          refine ⟨?_, rfl⟩
          congr 2
          first
            | (rw [show i = Z 1 by omega] at hf
               exact (b2i_1 hf).symm)
            | (refine (b2i_0 (ftN_f (i := i + 1) (fun q => ?_) (by omega))).symm
               have q2 := (band.mp q).2
               first
                 | (rw [decide_eq_true (show Z (4 + 3 * i) ≤ tg w (Z (3 + 3 * i)) by omega), decide_eq_false (show ¬ Z (2 + 3 * i) = 1 by omega)] at q2; cases q2)
                 | (rw [decide_eq_false (show ¬ Z (4 + 3 * i) ≤ tg w (Z (3 + 3 * i)) by omega), decide_eq_true (show Z (2 + 3 * i) = 1 by omega)] at q2; cases q2))
        · refine G_ic (v := nI 1) (pc := 44) f_296_44 (by decide) ?_
          refine G_S (pc := 45) f_296_45 rfl rfl rfl ?_
          refine G_S (pc := 49) f_296_49 rfl rfl rfl ?_
          first | refine G_inc1 (pc := 54) f_296_54 rfl ?_ | refine G_S (pc := 54) f_296_54 rfl rfl rfl ?_
          refine G_S (pc := 57) f_296_57 rfl rfl rfl ?_
          refine ih (by omega) (band.mpr ⟨hf, ?_⟩)
          first
            | (rw [decide_eq_true (show Z (4 + 3 * i) ≤ tg w (Z (3 + 3 * i)) by omega), decide_eq_true (show Z (2 + 3 * i) = 1 by omega)]; rfl)
            | (rw [decide_eq_false (show ¬ Z (4 + 3 * i) ≤ tg w (Z (3 + 3 * i)) by omega), decide_eq_false (show ¬ Z (2 + 3 * i) = 1 by omega)]; rfl)
  refine CG_in (mL := 2) (hl := false) (lv := [some (.ref 98), none]) (ll := []) rfl rfl rfl ?_
  refine G_ic (v := nI 0) (pc := 0) f_296_0 (by decide) ?_
  refine G_S (pc := 1) f_296_1 rfl rfl rfl ?_
  exact loop 0 (Nat.zero_le _) rfl
end WSI
