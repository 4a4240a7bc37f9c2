/-! copies of what is told, whatever it is -/
section CCR
variable {C : Ct} {M : Mm} {h h' : Nat} {D F Z : Nat → Nat} {R : Nat → Int}
theorem c_lineCopyR {x0 x1 x2 : Int32} (T : LnT M h) (T' : LnT M h') (sep : h + 6 < h' ∨ h' + 6 < h) (hb : h < 1000000 ∧ h' < 1000000) (v0 : M.2.1 h' 1 = x0) (v1 : M.2.1 h' 2 = x1) (v2 : M.2.1 h' 5 = x2) : CG C 55 [.ref h, .ref (h')] M (fun w M' => w = none ∧ Fo [h, h + 1, h + 2, h + 3, h + 4, h + 5] M M' ∧ (M'.2.1 h 1 = x0 ∧ M'.2.1 h 2 = x1 ∧ M'.2.1 h 5 = x2) ∧ (∀ k, k < 8 → M'.2.1 (h + 1) k = M.2.1 (h' + 1) k) ∧ (∀ k, k < 8 → M'.2.1 (h + 2) k = M.2.1 (h' + 2) k ∧ M'.2.1 (h + 3) k = M.2.1 (h' + 3) k) ∧ (∀ k, k < 4 → M'.2.1 (h + 4) k = M.2.1 (h' + 4) k) ∧ ∀ k, k < 9 → M'.2.1 (h + 5) k = M.2.1 (h' + 5) k) := by
  obtain ⟨⟨t0, t1, t2, t3, t4, t5, t6⟩, r0, r3, r4, r6, r7, r8⟩ := T
  obtain ⟨⟨t0', t1', t2', t3', t4', t5', t6'⟩, r0', r3', r4', r6', r7', r8'⟩ := T'
  refine CG_in (mL := 2) (hl := false) (lv := [some (.ref h), some (.ref (h'))]) (ll := []) rfl rfl rfl ?_
  refine G_S (pc := 0) f_55_0 rfl rfl rfl ?_
  refine G_gR (pc := 1) f_55_1 (by decide) rfl (by first | assumption | exact hK.1 _ _ rfl) (by first | assumption | exact hK.2 _ _ _ rfl | (try dsimp only) <;> (repeat (first | exact up2_s | refine up2_o (by first | decide | omega) ?_)) <;> first | assumption | exact hK.2 _ _ _ rfl) ?_
  refine G_S (pc := 4) f_55_4 rfl rfl rfl ?_
  refine G_gR (pc := 5) f_55_5 (by decide) rfl (by first | assumption | exact hK.1 _ _ rfl) (by first | assumption | exact hK.2 _ _ _ rfl | (try dsimp only) <;> (repeat (first | exact up2_s | refine up2_o (by first | decide | omega) ?_)) <;> first | assumption | exact hK.2 _ _ _ rfl) ?_
  refine G_CS (pc := 8) f_55_8 rfl rfl (by decide) rfl rfl ⟨Nat.le_of_ble_eq_true rfl, Nat.le_of_ble_eq_true rfl⟩ ?_
  refine CG.mono (c_cpX t1' t1 (by decide)) ?_
  rintro _ M1 ⟨rfl, X1, rfl, h1, k1⟩
  have w0 : X1 h' 1 = x0 := by rw [h1 h' (by omega)]; exact v0
  have w1 : X1 h' 2 = x1 := by rw [h1 h' (by omega)]; exact v1
  refine G_S (pc := 11) f_55_11 rfl rfl rfl ?_
  refine G_S (pc := 12) f_55_12 rfl rfl rfl ?_
  refine G_gIv (pc := 13) f_55_13 (by decide) rfl (by decide) (by first | assumption | exact hK.1 _ _ rfl) (w0) ?_
  refine G_pI (pc := 16) f_55_16 rfl (by first | assumption | exact hK.1 _ _ rfl) ?_
  refine G_S (pc := 19) f_55_19 rfl rfl rfl ?_
  refine G_S (pc := 20) f_55_20 rfl rfl rfl ?_
  refine G_gIv (pc := 21) f_55_21 (by decide) rfl (by decide) (by first | assumption | exact hK.1 _ _ rfl) ((mI_o (by omega) w1)) ?_
  refine G_pI (pc := 24) f_55_24 rfl (by first | assumption | exact hK.1 _ _ rfl) ?_
  refine G_S (pc := 27) f_55_27 rfl rfl rfl ?_
  refine G_gR (pc := 28) f_55_28 (by decide) rfl (by first | assumption | exact hK.1 _ _ rfl) (by first | assumption | exact hK.2 _ _ _ rfl | (try dsimp only) <;> (repeat (first | exact up2_s | refine up2_o (by first | decide | omega) ?_)) <;> first | assumption | exact hK.2 _ _ _ rfl) ?_
  refine G_S (pc := 31) f_55_31 rfl rfl rfl ?_
  refine G_gR (pc := 32) f_55_32 (by decide) rfl (by first | assumption | exact hK.1 _ _ rfl) (by first | assumption | exact hK.2 _ _ _ rfl | (try dsimp only) <;> (repeat (first | exact up2_s | refine up2_o (by first | decide | omega) ?_)) <;> first | assumption | exact hK.2 _ _ _ rfl) ?_
  refine G_CS (pc := 35) f_55_35 rfl rfl (by decide) rfl rfl ⟨Nat.le_of_ble_eq_true rfl, Nat.le_of_ble_eq_true rfl⟩ ?_
  refine CG.mono (c_cpX t2' t2 (by decide)) ?_
  rintro _ M2 ⟨rfl, X2, rfl, h2, k2⟩
  dsimp only at h2 k2
  refine G_S (pc := 38) f_55_38 rfl rfl rfl ?_
  refine G_gR (pc := 39) f_55_39 (by decide) rfl (by first | assumption | exact hK.1 _ _ rfl) (by first | assumption | exact hK.2 _ _ _ rfl | (try dsimp only) <;> (repeat (first | exact up2_s | refine up2_o (by first | decide | omega) ?_)) <;> first | assumption | exact hK.2 _ _ _ rfl) ?_
  refine G_S (pc := 42) f_55_42 rfl rfl rfl ?_
  refine G_gR (pc := 43) f_55_43 (by decide) rfl (by first | assumption | exact hK.1 _ _ rfl) (by first | assumption | exact hK.2 _ _ _ rfl | (try dsimp only) <;> (repeat (first | exact up2_s | refine up2_o (by first | decide | omega) ?_)) <;> first | assumption | exact hK.2 _ _ _ rfl) ?_
  refine G_CS (pc := 46) f_55_46 rfl rfl (by decide) rfl rfl ⟨Nat.le_of_ble_eq_true rfl, Nat.le_of_ble_eq_true rfl⟩ ?_
  refine CG.mono (c_cpX t3' t3 (by decide)) ?_
  rintro _ M3 ⟨rfl, X3, rfl, h3, k3⟩
  dsimp only at h3 k3
  have w2 : X3 h' 5 = x2 := by
    rw [h3 h' (by omega), h2 h' (by omega)]
    exact up2_o (by omega) (up2_o (by omega) (by rw [h1 h' (by omega)]; exact v2))
  refine G_S (pc := 49) f_55_49 rfl rfl rfl ?_
  refine G_S (pc := 50) f_55_50 rfl rfl rfl ?_
  refine G_gIv (pc := 51) f_55_51 (by decide) rfl (by decide) (by first | assumption | exact hK.1 _ _ rfl) (w2) ?_
  refine G_pI (pc := 54) f_55_54 rfl (by first | assumption | exact hK.1 _ _ rfl) ?_
  refine G_S (pc := 57) f_55_57 rfl rfl rfl ?_
  refine G_gR (pc := 58) f_55_58 (by decide) rfl (by first | assumption | exact hK.1 _ _ rfl) (by first | assumption | exact hK.2 _ _ _ rfl | (try dsimp only) <;> (repeat (first | exact up2_s | refine up2_o (by first | decide | omega) ?_)) <;> first | assumption | exact hK.2 _ _ _ rfl) ?_
  refine G_S (pc := 61) f_55_61 rfl rfl rfl ?_
  refine G_gR (pc := 62) f_55_62 (by decide) rfl (by first | assumption | exact hK.1 _ _ rfl) (by first | assumption | exact hK.2 _ _ _ rfl | (try dsimp only) <;> (repeat (first | exact up2_s | refine up2_o (by first | decide | omega) ?_)) <;> first | assumption | exact hK.2 _ _ _ rfl) ?_
  refine G_CS (pc := 65) f_55_65 rfl rfl (by decide) rfl rfl ⟨Nat.le_of_ble_eq_true rfl, Nat.le_of_ble_eq_true rfl⟩ ?_
  refine CG.mono (c_cpX t4' t4 (by decide)) ?_
  rintro _ M4 ⟨rfl, X4, rfl, h4, k4⟩
  dsimp only at h4 k4
  refine G_S (pc := 68) f_55_68 rfl rfl rfl ?_
  refine G_gR (pc := 69) f_55_69 (by decide) rfl (by first | assumption | exact hK.1 _ _ rfl) (by first | assumption | exact hK.2 _ _ _ rfl | (try dsimp only) <;> (repeat (first | exact up2_s | refine up2_o (by first | decide | omega) ?_)) <;> first | assumption | exact hK.2 _ _ _ rfl) ?_
  refine G_S (pc := 72) f_55_72 rfl rfl rfl ?_
  refine G_gR (pc := 73) f_55_73 (by decide) rfl (by first | assumption | exact hK.1 _ _ rfl) (by first | assumption | exact hK.2 _ _ _ rfl | (try dsimp only) <;> (repeat (first | exact up2_s | refine up2_o (by first | decide | omega) ?_)) <;> first | assumption | exact hK.2 _ _ _ rfl) ?_
  refine G_CS (pc := 76) f_55_76 rfl rfl (by decide) rfl rfl ⟨Nat.le_of_ble_eq_true rfl, Nat.le_of_ble_eq_true rfl⟩ ?_
  refine CG.mono (c_cpX t5' t5 (by decide)) ?_
  rintro _ M5 ⟨rfl, X5, rfl, h5, k5⟩
  dsimp only at h5 k5
  refine G_rv (pc := 79) f_55_79 ?_
  have e3 : ∀ i, i ≠ h → i ≠ h + 1 → i ≠ h + 2 → i ≠ h + 3 → X3 i = M.2.1 i := fun i a b c d => by
    rw [h3 i d, h2 i c, up2_ne a, up2_ne a, h1 i b]
  have e5 : ∀ i, i ≠ h → i ≠ h + 4 → i ≠ h + 5 → X5 i = X3 i := fun i a b c => by
    rw [h5 i c, h4 i b, up2_ne a]
  have f2 : ∀ k, X5 h k = up2 X3 h 5 (x2) h k := fun k => by rw [h5 h (by omega), h4 h (by omega)]
  have f3 : ∀ k, X3 h k = up2 (up2 X1 h 1 (x0)) h 2 (x1) h k := fun k => by rw [h3 h (by omega), h2 h (by omega)]
  refine ⟨rfl, ⟨⟨rfl, rfl⟩, fun i hi => ⟨?_, rfl⟩⟩, ⟨?_, ?_, ?_⟩, fun k hk => ?_, fun r hr => ⟨?_, ?_⟩, fun k hk => ?_, fun m q1 => ?_⟩
  · have a0 : i ≠ h := fun q => hi (by rw [q]; simp)
    have a1 : i ≠ h + 1 := fun q => hi (by rw [q]; simp)
    have a2 : i ≠ h + 2 := fun q => hi (by rw [q]; simp)
    have a3 : i ≠ h + 3 := fun q => hi (by rw [q]; simp)
    have a4 : i ≠ h + 4 := fun q => hi (by rw [q]; simp)
    have a5 : i ≠ h + 5 := fun q => hi (by rw [q]; simp)
    show X5 i = M.2.1 i
    rw [e5 i a0 a4 a5, e3 i a0 a1 a2 a3]
  · show X5 h 1 = _
    rw [f2]
    exact up2_o (by omega) (by rw [f3]; exact up2_o (by omega) up2_s)
  · show X5 h 2 = _
    rw [f2]
    exact up2_o (by omega) (by rw [f3]; exact up2_s)
  · show X5 h 5 = _
    rw [f2]
    exact up2_s
  · show X5 (h + 1) k = M.2.1 (h' + 1) k
    rw [e5 _ (by omega) (by omega) (by omega), h3 _ (by omega), h2 _ (by omega), up2_ne (by omega), up2_ne (by omega), k1 k (by omega)]
  · show X5 (h + 2) r = _
    rw [e5 _ (by omega) (by omega) (by omega), h3 _ (by omega), k2 r (by omega), up2_ne (by omega), up2_ne (by omega), h1 _ (by omega)]
  · show X5 (h + 3) r = _
    rw [e5 _ (by omega) (by omega) (by omega), k3 r (by omega), h2 _ (by omega), up2_ne (by omega), up2_ne (by omega), h1 _ (by omega)]
  · show X5 (h + 4) k = _
    rw [h5 _ (by omega), k4 k hk, up2_ne (by omega), e3 _ (by omega) (by omega) (by omega) (by omega)]
  · show X5 (h + 5) m = _
    rw [k5 m (by omega), h4 _ (by omega), up2_ne (by omega), e3 _ (by omega) (by omega) (by omega) (by omega)]
theorem c_rideCopyR {x0 : Int32} (T : RT_ M h) (T' : RT_ M h') (sep : h + 3 < h' ∨ h' + 3 < h) (hb : h < 1000000 ∧ h' < 1000000) (v3 : M.2.1 h' 3 = x0) : CG C 90 [.ref h, .ref (h')] M (fun w M' => w = none ∧ Fo [h, h + 1, h + 2, h + 3] M M' ∧ M'.2.1 h 3 = x0 ∧ (∀ k, k < 40 → M'.2.1 (h + 1) k = M.2.1 (h' + 1) k) ∧ (∀ k, k < 40 → M'.2.1 (h + 2) k = M.2.1 (h' + 2) k) ∧ ∀ k, k < 40 → M'.2.1 (h + 3) k = M.2.1 (h' + 3) k) := by
  obtain ⟨⟨t0, t1, t2, t3⟩, r0, r1, r2⟩ := T
  obtain ⟨⟨t0', t1', t2', t3'⟩, r0', r1', r2'⟩ := T'
  refine CG_in (mL := 2) (hl := false) (lv := [some (.ref h), some (.ref (h'))]) (ll := []) rfl rfl rfl ?_
  refine G_S (pc := 0) f_90_0 rfl rfl rfl ?_
  refine G_gR (pc := 1) f_90_1 (by decide) rfl (by first | assumption | exact hK.1 _ _ rfl) (by first | assumption | exact hK.2 _ _ _ rfl | (try dsimp only) <;> (repeat (first | exact up2_s | refine up2_o (by first | decide | omega) ?_)) <;> first | assumption | exact hK.2 _ _ _ rfl) ?_
  refine G_S (pc := 4) f_90_4 rfl rfl rfl ?_
  refine G_gR (pc := 5) f_90_5 (by decide) rfl (by first | assumption | exact hK.1 _ _ rfl) (by first | assumption | exact hK.2 _ _ _ rfl | (try dsimp only) <;> (repeat (first | exact up2_s | refine up2_o (by first | decide | omega) ?_)) <;> first | assumption | exact hK.2 _ _ _ rfl) ?_
  refine G_CS (pc := 8) f_90_8 rfl rfl (by decide) rfl rfl ⟨Nat.le_of_ble_eq_true rfl, Nat.le_of_ble_eq_true rfl⟩ ?_
  refine CG.mono (c_cpX t1' t1 (by decide)) ?_
  rintro _ M1 ⟨rfl, X1, rfl, h1, k1⟩
  refine G_S (pc := 11) f_90_11 rfl rfl rfl ?_
  refine G_gR (pc := 12) f_90_12 (by decide) rfl (by first | assumption | exact hK.1 _ _ rfl) (by first | assumption | exact hK.2 _ _ _ rfl | (try dsimp only) <;> (repeat (first | exact up2_s | refine up2_o (by first | decide | omega) ?_)) <;> first | assumption | exact hK.2 _ _ _ rfl) ?_
  refine G_S (pc := 15) f_90_15 rfl rfl rfl ?_
  refine G_gR (pc := 16) f_90_16 (by decide) rfl (by first | assumption | exact hK.1 _ _ rfl) (by first | assumption | exact hK.2 _ _ _ rfl | (try dsimp only) <;> (repeat (first | exact up2_s | refine up2_o (by first | decide | omega) ?_)) <;> first | assumption | exact hK.2 _ _ _ rfl) ?_
  refine G_CS (pc := 19) f_90_19 rfl rfl (by decide) rfl rfl ⟨Nat.le_of_ble_eq_true rfl, Nat.le_of_ble_eq_true rfl⟩ ?_
  refine CG.mono (c_cpX t2' t2 (by decide)) ?_
  rintro _ M2 ⟨rfl, X2, rfl, h2, k2⟩
  dsimp only at h2 k2
  refine G_S (pc := 22) f_90_22 rfl rfl rfl ?_
  refine G_gR (pc := 23) f_90_23 (by decide) rfl (by first | assumption | exact hK.1 _ _ rfl) (by first | assumption | exact hK.2 _ _ _ rfl | (try dsimp only) <;> (repeat (first | exact up2_s | refine up2_o (by first | decide | omega) ?_)) <;> first | assumption | exact hK.2 _ _ _ rfl) ?_
  refine G_S (pc := 26) f_90_26 rfl rfl rfl ?_
  refine G_gR (pc := 27) f_90_27 (by decide) rfl (by first | assumption | exact hK.1 _ _ rfl) (by first | assumption | exact hK.2 _ _ _ rfl | (try dsimp only) <;> (repeat (first | exact up2_s | refine up2_o (by first | decide | omega) ?_)) <;> first | assumption | exact hK.2 _ _ _ rfl) ?_
  refine G_CS (pc := 30) f_90_30 rfl rfl (by decide) rfl rfl ⟨Nat.le_of_ble_eq_true rfl, Nat.le_of_ble_eq_true rfl⟩ ?_
  refine CG.mono (c_cpX t3' t3 (by decide)) ?_
  rintro _ M3 ⟨rfl, X3, rfl, h3, k3⟩
  dsimp only at h3 k3
  have w3 : X3 h' 3 = x0 := by
    rw [h3 h' (by omega), h2 h' (by omega), h1 h' (by omega)]
    exact v3
  refine G_S (pc := 33) f_90_33 rfl rfl rfl ?_
  refine G_S (pc := 34) f_90_34 rfl rfl rfl ?_
  refine G_gIv (pc := 35) f_90_35 (by decide) rfl (by decide) (by first | assumption | exact hK.1 _ _ rfl) (w3) ?_
  refine G_pI (pc := 38) f_90_38 rfl (by first | assumption | exact hK.1 _ _ rfl) ?_
  refine G_rv (pc := 41) f_90_41 ?_
  refine ⟨rfl, ⟨⟨rfl, rfl⟩, fun i hi => ⟨?_, rfl⟩⟩, (by (try dsimp only); exact up2_s), fun k hk => ?_, fun k hk => ?_, fun k hk => ?_⟩
  · have a0 : i ≠ h := fun q => hi (by rw [q]; simp)
    have a1 : i ≠ h + 1 := fun q => hi (by rw [q]; simp)
    have a2 : i ≠ h + 2 := fun q => hi (by rw [q]; simp)
    have a3 : i ≠ h + 3 := fun q => hi (by rw [q]; simp)
    dsimp only
    rw [up2_ne a0, h3 i a3, h2 i a2, h1 i a1]
  · dsimp only
    rw [up2_ne (by omega), h3 _ (by omega), h2 _ (by omega), k1 k (by omega)]
  · dsimp only
    rw [up2_ne (by omega), h3 _ (by omega), k2 k (by omega), h1 _ (by omega)]
  · dsimp only
    rw [up2_ne (by omega), k3 k (by omega), h2 _ (by omega), h1 _ (by omega)]
theorem c_flowCopyR {x0 : Int32} (T : FT_ M h) (T' : FT_ M h') (sep : h + 4 < h' ∨ h' + 4 < h) (hb : h < 1000000 ∧ h' < 1000000) (v0 : M.2.1 h' 0 = x0) : CG C 34 [.ref h, .ref (h')] M (fun w M' => w = none ∧ Fo [h, h + 1] M M' ∧ M'.2.1 h 0 = x0 ∧ ∀ k, k < 24 → M'.2.1 (h + 1) k = M.2.1 (h' + 1) k) := by
  obtain ⟨⟨t0, t1, t2, t3, t4⟩, r1, r2, r3, r4⟩ := T
  obtain ⟨⟨t0', t1', t2', t3', t4'⟩, r1', r2', r3', r4'⟩ := T'
  refine CG_in (mL := 2) (hl := false) (lv := [some (.ref h), some (.ref (h'))]) (ll := []) rfl rfl rfl ?_
  refine G_S (pc := 0) f_34_0 rfl rfl rfl ?_
  refine G_S (pc := 1) f_34_1 rfl rfl rfl ?_
  refine G_gIv (pc := 2) f_34_2 (by decide) rfl (by decide) (by first | assumption | exact hK.1 _ _ rfl) (v0) ?_
  refine G_pI (pc := 5) f_34_5 rfl (by first | assumption | exact hK.1 _ _ rfl) ?_
  refine G_S (pc := 8) f_34_8 rfl rfl rfl ?_
  refine G_gR (pc := 9) f_34_9 (by decide) rfl (by first | assumption | exact hK.1 _ _ rfl) (by first | assumption | exact hK.2 _ _ _ rfl | (try dsimp only) <;> (repeat (first | exact up2_s | refine up2_o (by first | decide | omega) ?_)) <;> first | assumption | exact hK.2 _ _ _ rfl) ?_
  refine G_S (pc := 12) f_34_12 rfl rfl rfl ?_
  refine G_gR (pc := 13) f_34_13 (by decide) rfl (by first | assumption | exact hK.1 _ _ rfl) (by first | assumption | exact hK.2 _ _ _ rfl | (try dsimp only) <;> (repeat (first | exact up2_s | refine up2_o (by first | decide | omega) ?_)) <;> first | assumption | exact hK.2 _ _ _ rfl) ?_
  refine G_CS (pc := 16) f_34_16 rfl rfl (by decide) rfl rfl ⟨Nat.le_of_ble_eq_true rfl, Nat.le_of_ble_eq_true rfl⟩ ?_
  refine CG.mono (c_cpX t1' t1 (by decide)) ?_
  rintro _ M1 ⟨rfl, X1, rfl, h1, k1⟩
  dsimp only at h1 k1
  refine G_rv (pc := 19) f_34_19 ?_
  refine ⟨rfl, ⟨⟨rfl, rfl⟩, fun i hi => ⟨?_, rfl⟩⟩, ?_, fun k hk => ?_⟩
  · have a0 : i ≠ h := fun q => hi (by rw [q]; simp)
    have a1 : i ≠ h + 1 := fun q => hi (by rw [q]; simp)
    show X1 i = _
    rw [h1 i a1, up2_ne a0]
  · show X1 h 0 = _
    rw [h1 h (by omega)]
    exact up2_s
  · show X1 (h + 1) k = _
    rw [k1 k hk, up2_ne (by omega)]
theorem c_sightCopyR {x0 x1 jd : Int32} (T : ST_ M h) (T' : ST_ M h') (sep : h + 5 < h' ∨ h' + 5 < h) (hb : h < 1000000 ∧ h' < 1000000) (v0 : M.2.1 h' 0 = x0) (v1 : M.2.1 h' 1 = x1) (hjd : M.2.1 h' 5 = jd) (h01 : jd = 0 ∨ jd = 1) : CG C 95 [.ref h, .ref (h')] M (fun w M' => w = none ∧ Fo [h, h + 1, h + 2, h + 3, h + 4, h + 5] M M' ∧ (M'.2.1 h 0 = x0 ∧ M'.2.1 h 1 = x1 ∧ M'.2.1 h 5 = jd ∧ M'.2.1 h 6 = M.2.1 h' 6 ∧ M'.2.1 h 7 = M.2.1 h' 7) ∧ (∀ k, k < 10 → M'.2.1 (h + 1) k = M.2.1 (h' + 1) k) ∧ (∀ k, k < 10 → M'.2.1 (h + 2) k = M.2.1 (h' + 2) k) ∧ (∀ k, k < 10 → M'.2.1 (h + 3) k = M.2.1 (h' + 3) k) ∧ (∀ k, k < 4 → M'.2.1 (h + 4) k = M.2.1 (h' + 4) k) ∧ ∀ k, k < 4 → M'.2.1 (h + 5) k = M.2.1 (h' + 5) k) := by
  obtain ⟨⟨t0, t1, t2, t3, t4, t5⟩, r1, r2, r3, r4, r5⟩ := T
  obtain ⟨⟨t0', t1', t2', t3', t4', t5'⟩, r1', r2', r3', r4', r5'⟩ := T'
  refine CG_in (mL := 2) (hl := false) (lv := [some (.ref h), some (.ref (h'))]) (ll := []) rfl rfl rfl ?_
  refine G_S (pc := 0) f_95_0 rfl rfl rfl ?_
  refine G_S (pc := 1) f_95_1 rfl rfl rfl ?_
  refine G_gIv (pc := 2) f_95_2 (by decide) rfl (by decide) (by first | assumption | exact hK.1 _ _ rfl) (v0) ?_
  refine G_pI (pc := 5) f_95_5 rfl (by first | assumption | exact hK.1 _ _ rfl) ?_
  refine G_S (pc := 8) f_95_8 rfl rfl rfl ?_
  refine G_S (pc := 9) f_95_9 rfl rfl rfl ?_
  refine G_gIv (pc := 10) f_95_10 (by decide) rfl (by decide) (by first | assumption | exact hK.1 _ _ rfl) ((mI_o (by omega) v1)) ?_
  refine G_pI (pc := 13) f_95_13 rfl (by first | assumption | exact hK.1 _ _ rfl) ?_
  refine G_S (pc := 16) f_95_16 rfl rfl rfl ?_
  refine G_gR (pc := 17) f_95_17 (by decide) rfl (by first | assumption | exact hK.1 _ _ rfl) (by first | assumption | exact hK.2 _ _ _ rfl | (try dsimp only) <;> (repeat (first | exact up2_s | refine up2_o (by first | decide | omega) ?_)) <;> first | assumption | exact hK.2 _ _ _ rfl) ?_
  refine G_S (pc := 20) f_95_20 rfl rfl rfl ?_
  refine G_gR (pc := 21) f_95_21 (by decide) rfl (by first | assumption | exact hK.1 _ _ rfl) (by first | assumption | exact hK.2 _ _ _ rfl | (try dsimp only) <;> (repeat (first | exact up2_s | refine up2_o (by first | decide | omega) ?_)) <;> first | assumption | exact hK.2 _ _ _ rfl) ?_
  refine G_CS (pc := 24) f_95_24 rfl rfl (by decide) rfl rfl ⟨Nat.le_of_ble_eq_true rfl, Nat.le_of_ble_eq_true rfl⟩ ?_
  refine CG.mono (c_cpX t1' t1 (by decide)) ?_
  rintro _ M1 ⟨rfl, X1, rfl, h1, k1⟩
  dsimp only at h1 k1
  refine G_S (pc := 27) f_95_27 rfl rfl rfl ?_
  refine G_gR (pc := 28) f_95_28 (by decide) rfl (by first | assumption | exact hK.1 _ _ rfl) (by first | assumption | exact hK.2 _ _ _ rfl | (try dsimp only) <;> (repeat (first | exact up2_s | refine up2_o (by first | decide | omega) ?_)) <;> first | assumption | exact hK.2 _ _ _ rfl) ?_
  refine G_S (pc := 31) f_95_31 rfl rfl rfl ?_
  refine G_gR (pc := 32) f_95_32 (by decide) rfl (by first | assumption | exact hK.1 _ _ rfl) (by first | assumption | exact hK.2 _ _ _ rfl | (try dsimp only) <;> (repeat (first | exact up2_s | refine up2_o (by first | decide | omega) ?_)) <;> first | assumption | exact hK.2 _ _ _ rfl) ?_
  refine G_CS (pc := 35) f_95_35 rfl rfl (by decide) rfl rfl ⟨Nat.le_of_ble_eq_true rfl, Nat.le_of_ble_eq_true rfl⟩ ?_
  refine CG.mono (c_cpX t2' t2 (by decide)) ?_
  rintro _ M2 ⟨rfl, X2, rfl, h2, k2⟩
  dsimp only at h2 k2
  refine G_S (pc := 38) f_95_38 rfl rfl rfl ?_
  refine G_gR (pc := 39) f_95_39 (by decide) rfl (by first | assumption | exact hK.1 _ _ rfl) (by first | assumption | exact hK.2 _ _ _ rfl | (try dsimp only) <;> (repeat (first | exact up2_s | refine up2_o (by first | decide | omega) ?_)) <;> first | assumption | exact hK.2 _ _ _ rfl) ?_
  refine G_S (pc := 42) f_95_42 rfl rfl rfl ?_
  refine G_gR (pc := 43) f_95_43 (by decide) rfl (by first | assumption | exact hK.1 _ _ rfl) (by first | assumption | exact hK.2 _ _ _ rfl | (try dsimp only) <;> (repeat (first | exact up2_s | refine up2_o (by first | decide | omega) ?_)) <;> first | assumption | exact hK.2 _ _ _ rfl) ?_
  refine G_CS (pc := 46) f_95_46 rfl rfl (by decide) rfl rfl ⟨Nat.le_of_ble_eq_true rfl, Nat.le_of_ble_eq_true rfl⟩ ?_
  refine CG.mono (c_cpX t3' t3 (by decide)) ?_
  rintro _ M3 ⟨rfl, X3, rfl, h3, k3⟩
  dsimp only at h3 k3
  have eh : ∀ i, i ≠ h → i ≠ h + 1 → i ≠ h + 2 → i ≠ h + 3 → X3 i = M.2.1 i := fun i a b c d => by
    rw [h3 i d, h2 i c, h1 i b, up2_ne a, up2_ne a]
  have w5 : X3 h' 5 = jd := by rw [eh h' (by omega) (by omega) (by omega) (by omega)]; exact hjd
  have w6 : X3 h' 6 = M.2.1 h' 6 := by rw [eh h' (by omega) (by omega) (by omega) (by omega)]
  have w7 : X3 h' 7 = M.2.1 h' 7 := by rw [eh h' (by omega) (by omega) (by omega) (by omega)]
  refine G_S (pc := 49) f_95_49 rfl rfl rfl ?_
  refine G_S (pc := 50) f_95_50 rfl rfl rfl ?_
  refine G_gIv (pc := 51) f_95_51 (by decide) rfl (by decide) (by first | assumption | exact hK.1 _ _ rfl) (w5) ?_
  refine G_pZ (pc := 54) f_95_54 rfl (by first | assumption | exact hK.1 _ _ rfl) (by first | exact Or.inl rfl | exact Or.inr rfl | exact b2i_01 _ | assumption) ?_
  refine G_S (pc := 57) f_95_57 rfl rfl rfl ?_
  refine G_S (pc := 58) f_95_58 rfl rfl rfl ?_
  refine G_gIv (pc := 59) f_95_59 (by decide) rfl (by decide) (by first | assumption | exact hK.1 _ _ rfl) ((mI_o (by omega) w6)) ?_
  refine G_pI (pc := 62) f_95_62 rfl (by first | assumption | exact hK.1 _ _ rfl) ?_
  refine G_S (pc := 65) f_95_65 rfl rfl rfl ?_
  refine G_S (pc := 66) f_95_66 rfl rfl rfl ?_
  refine G_gIv (pc := 67) f_95_67 (by decide) rfl (by decide) (by first | assumption | exact hK.1 _ _ rfl) ((mI_o (by omega) (mI_o (by omega) w7))) ?_
  refine G_pI (pc := 70) f_95_70 rfl (by first | assumption | exact hK.1 _ _ rfl) ?_
  refine G_S (pc := 73) f_95_73 rfl rfl rfl ?_
  refine G_gR (pc := 74) f_95_74 (by decide) rfl (by first | assumption | exact hK.1 _ _ rfl) (by first | assumption | exact hK.2 _ _ _ rfl | (try dsimp only) <;> (repeat (first | exact up2_s | refine up2_o (by first | decide | omega) ?_)) <;> first | assumption | exact hK.2 _ _ _ rfl) ?_
  refine G_S (pc := 77) f_95_77 rfl rfl rfl ?_
  refine G_gR (pc := 78) f_95_78 (by decide) rfl (by first | assumption | exact hK.1 _ _ rfl) (by first | assumption | exact hK.2 _ _ _ rfl | (try dsimp only) <;> (repeat (first | exact up2_s | refine up2_o (by first | decide | omega) ?_)) <;> first | assumption | exact hK.2 _ _ _ rfl) ?_
  refine G_CS (pc := 81) f_95_81 rfl rfl (by decide) rfl rfl ⟨Nat.le_of_ble_eq_true rfl, Nat.le_of_ble_eq_true rfl⟩ ?_
  refine CG.mono (c_cpX t4' t4 (by decide)) ?_
  rintro _ M4 ⟨rfl, X4, rfl, h4, k4⟩
  dsimp only at h4 k4
  refine G_S (pc := 84) f_95_84 rfl rfl rfl ?_
  refine G_gR (pc := 85) f_95_85 (by decide) rfl (by first | assumption | exact hK.1 _ _ rfl) (by first | assumption | exact hK.2 _ _ _ rfl | (try dsimp only) <;> (repeat (first | exact up2_s | refine up2_o (by first | decide | omega) ?_)) <;> first | assumption | exact hK.2 _ _ _ rfl) ?_
  refine G_S (pc := 88) f_95_88 rfl rfl rfl ?_
  refine G_gR (pc := 89) f_95_89 (by decide) rfl (by first | assumption | exact hK.1 _ _ rfl) (by first | assumption | exact hK.2 _ _ _ rfl | (try dsimp only) <;> (repeat (first | exact up2_s | refine up2_o (by first | decide | omega) ?_)) <;> first | assumption | exact hK.2 _ _ _ rfl) ?_
  refine G_CS (pc := 92) f_95_92 rfl rfl (by decide) rfl rfl ⟨Nat.le_of_ble_eq_true rfl, Nat.le_of_ble_eq_true rfl⟩ ?_
  refine CG.mono (c_cpX t5' t5 (by decide)) ?_
  rintro _ M5 ⟨rfl, X5, rfl, h5, k5⟩
  dsimp only at h5 k5
  refine G_rv (pc := 95) f_95_95 ?_
  have e5 : ∀ i, i ≠ h → i ≠ h + 4 → i ≠ h + 5 → X5 i = X3 i := fun i a b c => by
    rw [h5 i c, h4 i b, up2_ne a, up2_ne a, up2_ne a]
  have f5 : ∀ k, X5 h k = up2 (up2 (up2 X3 h 5 jd) h 6 (M.2.1 h' 6)) h 7 (M.2.1 h' 7) h k := fun k => by rw [h5 h (by omega), h4 h (by omega)]
  have f3 : ∀ k, X3 h k = up2 (up2 M.2.1 h 0 (x0)) h 1 (x1) h k := fun k => by rw [h3 h (by omega), h2 h (by omega), h1 h (by omega)]
  have g4 : ∀ k, k < 4 → X5 (h + 4) k = M.2.1 (h' + 4) k := fun k hk => by
    rw [h5 _ (by omega), k4 k hk, up2_ne (by omega), up2_ne (by omega), up2_ne (by omega), eh _ (by omega) (by omega) (by omega) (by omega)]
  have g5 : ∀ k, k < 4 → X5 (h + 5) k = M.2.1 (h' + 5) k := fun k hk => by
    rw [k5 k hk, h4 _ (by omega), up2_ne (by omega), up2_ne (by omega), up2_ne (by omega), eh _ (by omega) (by omega) (by omega) (by omega)]
  have y5 : X5 h 5 = jd := by
    rw [f5]
    exact up2_o (by omega) (up2_o (by omega) up2_s)
  have y6 : X5 h 6 = M.2.1 h' 6 := by
    rw [f5]
    exact up2_o (by omega) up2_s
  have y7 : X5 h 7 = M.2.1 h' 7 := by
    rw [f5]
    exact up2_s
  refine ⟨rfl, ⟨⟨rfl, rfl⟩, fun i hi => ⟨?_, rfl⟩⟩, ⟨?_, ?_, y5, y6, y7⟩, fun k hk => ?_, fun k hk => ?_, fun k hk => ?_, g4, g5⟩
  · have a0 : i ≠ h := fun q => hi (by rw [q]; simp)
    have a1 : i ≠ h + 1 := fun q => hi (by rw [q]; simp)
    have a2 : i ≠ h + 2 := fun q => hi (by rw [q]; simp)
    have a3 : i ≠ h + 3 := fun q => hi (by rw [q]; simp)
    have a4 : i ≠ h + 4 := fun q => hi (by rw [q]; simp)
    have a5 : i ≠ h + 5 := fun q => hi (by rw [q]; simp)
    show X5 i = M.2.1 i
    rw [e5 i a0 a4 a5, eh i a0 a1 a2 a3]
  · show X5 h 0 = _
    rw [f5]
    exact up2_o (by omega) (up2_o (by omega) (up2_o (by omega) (by rw [f3]; exact up2_o (by omega) up2_s)))
  · show X5 h 1 = _
    rw [f5]
    exact up2_o (by omega) (up2_o (by omega) (up2_o (by omega) (by rw [f3]; exact up2_s)))
  · show X5 (h + 1) k = _
    rw [e5 _ (by omega) (by omega) (by omega), h3 _ (by omega), h2 _ (by omega), k1 k (by omega), up2_ne (by omega), up2_ne (by omega)]
  · show X5 (h + 2) k = _
    rw [e5 _ (by omega) (by omega) (by omega), h3 _ (by omega), k2 k (by omega), h1 _ (by omega), up2_ne (by omega), up2_ne (by omega)]
  · show X5 (h + 3) k = _
    rw [e5 _ (by omega) (by omega) (by omega), k3 k (by omega), h2 _ (by omega), h1 _ (by omega), up2_ne (by omega), up2_ne (by omega)]
theorem LnV.eq {M' : Mm} (V : LnV M h' D) (e : (M'.2.1 h 1 = M.2.1 h' 1 ∧ M'.2.1 h 2 = M.2.1 h' 2 ∧ M'.2.1 h 5 = M.2.1 h' 5) ∧ (∀ k, k < 8 → M'.2.1 (h + 1) k = M.2.1 (h' + 1) k) ∧ (∀ k, k < 8 → M'.2.1 (h + 2) k = M.2.1 (h' + 2) k ∧ M'.2.1 (h + 3) k = M.2.1 (h' + 3) k) ∧ (∀ k, k < 4 → M'.2.1 (h + 4) k = M.2.1 (h' + 4) k) ∧ ∀ k, k < 9 → M'.2.1 (h + 5) k = M.2.1 (h' + 5) k) : LnV M' h D := by
  obtain ⟨hD, ⟨v0, v1, v2⟩, vh, vr, vw, vf⟩ := V
  obtain ⟨⟨a, b, c⟩, e1, e2, e3, e4⟩ := e
  have hn0 := hD.1
  have hn2 := hD.2.2.1
  exact ⟨hD, ⟨a.trans v0, b.trans v1, c.trans v2⟩, fun k hk => (e1 k (by omega)).trans (vh k hk), fun r hr => ⟨(e2 r (by omega)).1.trans (vr r hr).1, (e2 r (by omega)).2.trans (vr r hr).2⟩, fun k hk => (e3 k hk).trans (vw k hk), fun m q1 q2 => (e4 m (by omega)).trans (vf m q1 q2)⟩
theorem RV_.eq {M' : Mm} (V : RV_ M h' R) (e : M'.2.1 h 3 = M.2.1 h' 3 ∧ (∀ k, k < 40 → M'.2.1 (h + 1) k = M.2.1 (h' + 1) k) ∧ (∀ k, k < 40 → M'.2.1 (h + 2) k = M.2.1 (h' + 2) k) ∧ ∀ k, k < 40 → M'.2.1 (h + 3) k = M.2.1 (h' + 3) k) : RV_ M' h R := by
  obtain ⟨hR, v3, d1, d2, d3⟩ := V
  obtain ⟨a, e1, e2, e3⟩ := e
  have hR0 := hR.1
  exact ⟨hR, a.trans v3, fun k hk => (e1 k (by omega)).trans (d1 k hk), fun k hk => (e2 k (by omega)).trans (d2 k hk), fun k hk => (e3 k (by omega)).trans (d3 k hk)⟩
theorem FV_.eq {M' : Mm} (V : FV_ M h' F) (e : M'.2.1 h 0 = M.2.1 h' 0 ∧ ∀ k, k < 24 → M'.2.1 (h + 1) k = M.2.1 (h' + 1) k) : FV_ M' h F := ⟨V.1, e.1.trans V.2.1, fun k hk => (e.2 k hk).trans (V.2.2 k hk)⟩
theorem SJ_.eq {M' : Mm} (V : SJ_ M h' Z) (e : (M'.2.1 h 0 = M.2.1 h' 0 ∧ M'.2.1 h 1 = M.2.1 h' 1 ∧ M'.2.1 h 5 = M.2.1 h' 5 ∧ M'.2.1 h 6 = M.2.1 h' 6 ∧ M'.2.1 h 7 = M.2.1 h' 7) ∧ (∀ k, k < 10 → M'.2.1 (h + 1) k = M.2.1 (h' + 1) k) ∧ (∀ k, k < 10 → M'.2.1 (h + 2) k = M.2.1 (h' + 2) k) ∧ (∀ k, k < 10 → M'.2.1 (h + 3) k = M.2.1 (h' + 3) k) ∧ (∀ k, k < 4 → M'.2.1 (h + 4) k = M.2.1 (h' + 4) k) ∧ ∀ k, k < 4 → M'.2.1 (h + 5) k = M.2.1 (h' + 5) k) : SJ_ M' h Z := by
  obtain ⟨⟨hZ, v0, v1, d1, d2, d3⟩, hj⟩ := V
  obtain ⟨⟨a0, a1, a5, a6, a7⟩, e1, e2, e3, e4, e5⟩ := e
  have hz0 := hZ.1
  have hz1 := hZ.2.1
  refine ⟨⟨hZ, a0.trans v0, a1.trans v1, fun k hk => (e1 k (by omega)).trans (d1 k hk), fun k hk => (e2 k (by omega)).trans (d2 k hk), fun k hk => (e3 k (by omega)).trans (d3 k hk)⟩, ?_⟩
  rcases hj with z | ⟨z, j1, j2, j3⟩
  · exact Or.inl (a5.trans z)
  · exact Or.inr ⟨a5.trans z, a6.trans j1, fun s hs => ⟨(e4 s (by omega)).trans (j2 s hs).1, (e5 s (by omega)).trans (j2 s hs).2⟩, a7.trans j3⟩
end CCR
