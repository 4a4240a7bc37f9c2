/-! copies of what is told: the class -/
def RT_ (M : Mm) (v : Nat) : Prop := (M.1[v]? = some (6, 4) ∧ M.1[v + 1]? = some (50, 40) ∧ M.1[v + 2]? = some (50, 40) ∧ M.1[v + 3]? = some (50, 40)) ∧ M.2.2.2 v 0 = some (v + 1) ∧ M.2.2.2 v 1 = some (v + 2) ∧ M.2.2.2 v 2 = some (v + 3)
def RV_ (M : Mm) (v : Nat) (R : Nat → Int) : Prop := ROK R ∧ M.2.1 v 3 = zI (R 0) ∧ (∀ k : Nat, (k : Int) < R 0 → M.2.1 (v + 1) k = zI (R (1 + 3 * k))) ∧ (∀ k : Nat, (k : Int) < R 0 → M.2.1 (v + 2) k = zI (R (2 + 3 * k))) ∧ ∀ k : Nat, (k : Int) < R 0 → M.2.1 (v + 3) k = zI (R (3 + 3 * k))
def SJ_ (M : Mm) (u : Nat) (Z : Nat → Nat) : Prop := SV_ M u Z ∧ (M.2.1 u 5 = nI 0 ∨ (M.2.1 u 5 = nI 1 ∧ JV M u Z))
section CCP
variable {C : Ct} {M : Mm} {h h' : Nat} {D F Z : Nat → Nat} {R : Nat → Int}
theorem c_cpX {s d n : Nat} (h0 : M.1[s]? = some (50, n)) (h1 : M.1[d]? = some (50, n)) (hn : n < 2 ^ 31) : CG C 186 [.ref s, .ref d] M (fun w M' => w = none ∧ ∃ X, M' = (M.1, X, M.2.2.1, M.2.2.2) ∧ (∀ i, i ≠ d → X i = M.2.1 i) ∧ ∀ k, k < n → X d k = M.2.1 s k) := by
  refine CG.mono (c_copyRow h0 h1 hn hn) ?_
  rintro w M' ⟨rfl, rfl⟩
  refine ⟨rfl, _, rfl, fun i hi => up1_o hi rfl, fun k hk => ?_⟩
  rw [up1_s, pk_cpy_in (Nat.zero_le k) (by omega), Nat.sub_zero, Nat.zero_add]
theorem c_lineCopy (T : LnT M h) (T' : LnT M h') (sep : h + 6 < h' ∨ h' + 6 < h) (hb : h < 1000000 ∧ h' < 1000000) (V : LnV M h' D) : CG C 55 [.ref h, .ref (h')] M (fun w M' => w = none ∧ Fo [h, h + 1, h + 2, h + 3, h + 4, h + 5] M M' ∧ LnV M' h D) := by
  obtain ⟨⟨t0, t1, t2, t3, t4, t5, t6⟩, r0, r3, r4, r6, r7, r8⟩ := T
  obtain ⟨⟨t0', t1', t2', t3', t4', t5', t6'⟩, r0', r3', r4', r6', r7', r8'⟩ := T'
  obtain ⟨hD, ⟨v0, v1, v2⟩, vh, vr, vw, vf⟩ := V
  have hn0 := hD.1
  have hn2 := hD.2.2.1
  refine CG_in (mL := 2) (hl := false) (lv := [some (.ref h), some (.ref (h'))]) (ll := []) rfl rfl rfl ?_
  refine G_S (pc := 0) f_55_0 rfl rfl rfl ?_
  refine G_gR (pc := 1) f_55_1 (by decide) rfl (by first | assumption | exact hK.1 _ _ rfl) (by first | assumption | exact hK.2 _ _ _ rfl | (try dsimp only) <;> (repeat (first | exact up2_s | refine up2_o (by first | decide | omega) ?_)) <;> first | assumption | exact hK.2 _ _ _ rfl) ?_
  refine G_S (pc := 4) f_55_4 rfl rfl rfl ?_
  refine G_gR (pc := 5) f_55_5 (by decide) rfl (by first | assumption | exact hK.1 _ _ rfl) (by first | assumption | exact hK.2 _ _ _ rfl | (try dsimp only) <;> (repeat (first | exact up2_s | refine up2_o (by first | decide | omega) ?_)) <;> first | assumption | exact hK.2 _ _ _ rfl) ?_
  refine G_CS (pc := 8) f_55_8 rfl rfl (by decide) rfl rfl ⟨Nat.le_of_ble_eq_true rfl, Nat.le_of_ble_eq_true rfl⟩ ?_
  refine CG.mono (c_cpX t1' t1 (by decide)) ?_
  rintro _ M1 ⟨rfl, X1, rfl, h1, k1⟩
  have w0 : X1 h' 1 = nI (D 0) := by rw [h1 h' (by omega)]; exact v0
  have w1 : X1 h' 2 = nI (D 1) := by rw [h1 h' (by omega)]; exact v1
  refine G_S (pc := 11) f_55_11 rfl rfl rfl ?_
  refine G_S (pc := 12) f_55_12 rfl rfl rfl ?_
  refine G_gIv (pc := 13) f_55_13 (by decide) rfl (by decide) (by first | assumption | exact hK.1 _ _ rfl) (w0) ?_
  refine G_pI (pc := 16) f_55_16 rfl (by first | assumption | exact hK.1 _ _ rfl) ?_
  refine G_S (pc := 19) f_55_19 rfl rfl rfl ?_
  refine G_S (pc := 20) f_55_20 rfl rfl rfl ?_
  refine G_gIv (pc := 21) f_55_21 (by decide) rfl (by decide) (by first | assumption | exact hK.1 _ _ rfl) ((mI_o (by omega) w1)) ?_
  refine G_pI (pc := 24) f_55_24 rfl (by first | assumption | exact hK.1 _ _ rfl) ?_
  refine G_S (pc := 27) f_55_27 rfl rfl rfl ?_
  refine G_gR (pc := 28) f_55_28 (by decide) rfl (by first | assumption | exact hK.1 _ _ rfl) (by first | assumption | exact hK.2 _ _ _ rfl | (try dsimp only) <;> (repeat (first | exact up2_s | refine up2_o (by first | decide | omega) ?_)) <;> first | assumption | exact hK.2 _ _ _ rfl) ?_
  refine G_S (pc := 31) f_55_31 rfl rfl rfl ?_
  refine G_gR (pc := 32) f_55_32 (by decide) rfl (by first | assumption | exact hK.1 _ _ rfl) (by first | assumption | exact hK.2 _ _ _ rfl | (try dsimp only) <;> (repeat (first | exact up2_s | refine up2_o (by first | decide | omega) ?_)) <;> first | assumption | exact hK.2 _ _ _ rfl) ?_
  refine G_CS (pc := 35) f_55_35 rfl rfl (by decide) rfl rfl ⟨Nat.le_of_ble_eq_true rfl, Nat.le_of_ble_eq_true rfl⟩ ?_
  refine CG.mono (c_cpX t2' t2 (by decide)) ?_
  rintro _ M2 ⟨rfl, X2, rfl, h2, k2⟩
  dsimp only at h2 k2
  refine G_S (pc := 38) f_55_38 rfl rfl rfl ?_
  refine G_gR (pc := 39) f_55_39 (by decide) rfl (by first | assumption | exact hK.1 _ _ rfl) (by first | assumption | exact hK.2 _ _ _ rfl | (try dsimp only) <;> (repeat (first | exact up2_s | refine up2_o (by first | decide | omega) ?_)) <;> first | assumption | exact hK.2 _ _ _ rfl) ?_
  refine G_S (pc := 42) f_55_42 rfl rfl rfl ?_
  refine G_gR (pc := 43) f_55_43 (by decide) rfl (by first | assumption | exact hK.1 _ _ rfl) (by first | assumption | exact hK.2 _ _ _ rfl | (try dsimp only) <;> (repeat (first | exact up2_s | refine up2_o (by first | decide | omega) ?_)) <;> first | assumption | exact hK.2 _ _ _ rfl) ?_
  refine G_CS (pc := 46) f_55_46 rfl rfl (by decide) rfl rfl ⟨Nat.le_of_ble_eq_true rfl, Nat.le_of_ble_eq_true rfl⟩ ?_
  refine CG.mono (c_cpX t3' t3 (by decide)) ?_
  rintro _ M3 ⟨rfl, X3, rfl, h3, k3⟩
  dsimp only at h3 k3
  have w2 : X3 h' 5 = nI (D 2) := by
    rw [h3 h' (by omega), h2 h' (by omega)]
    exact up2_o (by omega) (up2_o (by omega) (by rw [h1 h' (by omega)]; exact v2))
  refine G_S (pc := 49) f_55_49 rfl rfl rfl ?_
  refine G_S (pc := 50) f_55_50 rfl rfl rfl ?_
  refine G_gIv (pc := 51) f_55_51 (by decide) rfl (by decide) (by first | assumption | exact hK.1 _ _ rfl) (w2) ?_
  refine G_pI (pc := 54) f_55_54 rfl (by first | assumption | exact hK.1 _ _ rfl) ?_
  refine G_S (pc := 57) f_55_57 rfl rfl rfl ?_
  refine G_gR (pc := 58) f_55_58 (by decide) rfl (by first | assumption | exact hK.1 _ _ rfl) (by first | assumption | exact hK.2 _ _ _ rfl | (try dsimp only) <;> (repeat (first | exact up2_s | refine up2_o (by first | decide | omega) ?_)) <;> first | assumption | exact hK.2 _ _ _ rfl) ?_
  refine G_S (pc := 61) f_55_61 rfl rfl rfl ?_
  refine G_gR (pc := 62) f_55_62 (by decide) rfl (by first | assumption | exact hK.1 _ _ rfl) (by first | assumption | exact hK.2 _ _ _ rfl | (try dsimp only) <;> (repeat (first | exact up2_s | refine up2_o (by first | decide | omega) ?_)) <;> first | assumption | exact hK.2 _ _ _ rfl) ?_
  refine G_CS (pc := 65) f_55_65 rfl rfl (by decide) rfl rfl ⟨Nat.le_of_ble_eq_true rfl, Nat.le_of_ble_eq_true rfl⟩ ?_
  refine CG.mono (c_cpX t4' t4 (by decide)) ?_
  rintro _ M4 ⟨rfl, X4, rfl, h4, k4⟩
  dsimp only at h4 k4
  refine G_S (pc := 68) f_55_68 rfl rfl rfl ?_
  refine G_gR (pc := 69) f_55_69 (by decide) rfl (by first | assumption | exact hK.1 _ _ rfl) (by first | assumption | exact hK.2 _ _ _ rfl | (try dsimp only) <;> (repeat (first | exact up2_s | refine up2_o (by first | decide | omega) ?_)) <;> first | assumption | exact hK.2 _ _ _ rfl) ?_
  refine G_S (pc := 72) f_55_72 rfl rfl rfl ?_
  refine G_gR (pc := 73) f_55_73 (by decide) rfl (by first | assumption | exact hK.1 _ _ rfl) (by first | assumption | exact hK.2 _ _ _ rfl | (try dsimp only) <;> (repeat (first | exact up2_s | refine up2_o (by first | decide | omega) ?_)) <;> first | assumption | exact hK.2 _ _ _ rfl) ?_
  refine G_CS (pc := 76) f_55_76 rfl rfl (by decide) rfl rfl ⟨Nat.le_of_ble_eq_true rfl, Nat.le_of_ble_eq_true rfl⟩ ?_
  refine CG.mono (c_cpX t5' t5 (by decide)) ?_
  rintro _ M5 ⟨rfl, X5, rfl, h5, k5⟩
  dsimp only at h5 k5
  refine G_rv (pc := 79) f_55_79 ?_
  have e3 : ∀ i, i ≠ h → i ≠ h + 1 → i ≠ h + 2 → i ≠ h + 3 → X3 i = M.2.1 i := fun i a b c d => by
    rw [h3 i d, h2 i c, up2_ne a, up2_ne a, h1 i b]
  have e5 : ∀ i, i ≠ h → i ≠ h + 4 → i ≠ h + 5 → X5 i = X3 i := fun i a b c => by
    rw [h5 i c, h4 i b, up2_ne a]
  have f2 : ∀ k, X5 h k = up2 X3 h 5 (nI (D 2)) h k := fun k => by rw [h5 h (by omega), h4 h (by omega)]
  have f3 : ∀ k, X3 h k = up2 (up2 X1 h 1 (nI (D 0))) h 2 (nI (D 1)) h k := fun k => by rw [h3 h (by omega), h2 h (by omega)]
  refine ⟨rfl, ⟨⟨rfl, rfl⟩, fun i hi => ⟨?_, rfl⟩⟩, hD, ⟨?_, ?_, ?_⟩, fun k hk => ?_, fun r hr => ⟨?_, ?_⟩, fun k hk => ?_, fun m q1 q2 => ?_⟩
  · have a0 : i ≠ h := fun q => hi (by rw [q]; simp)
    have a1 : i ≠ h + 1 := fun q => hi (by rw [q]; simp)
    have a2 : i ≠ h + 2 := fun q => hi (by rw [q]; simp)
    have a3 : i ≠ h + 3 := fun q => hi (by rw [q]; simp)
    have a4 : i ≠ h + 4 := fun q => hi (by rw [q]; simp)
    have a5 : i ≠ h + 5 := fun q => hi (by rw [q]; simp)
    show X5 i = M.2.1 i
    rw [e5 i a0 a4 a5, e3 i a0 a1 a2 a3]
  · show X5 h 1 = _
    rw [f2]
    exact up2_o (by omega) (by rw [f3]; exact up2_o (by omega) up2_s)
  · show X5 h 2 = _
    rw [f2]
    exact up2_o (by omega) (by rw [f3]; exact up2_s)
  · show X5 h 5 = _
    rw [f2]
    exact up2_s
  · show X5 (h + 1) k = _
    rw [e5 _ (by omega) (by omega) (by omega), h3 _ (by omega), h2 _ (by omega), up2_ne (by omega), up2_ne (by omega), k1 k (by omega)]
    exact vh k hk
  · show X5 (h + 2) r = _
    rw [e5 _ (by omega) (by omega) (by omega), h3 _ (by omega), k2 r (by omega), up2_ne (by omega), up2_ne (by omega), h1 _ (by omega)]
    exact (vr r hr).1
  · show X5 (h + 3) r = _
    rw [e5 _ (by omega) (by omega) (by omega), k3 r (by omega), h2 _ (by omega), up2_ne (by omega), up2_ne (by omega), h1 _ (by omega)]
    exact (vr r hr).2
  · show X5 (h + 4) k = _
    rw [h5 _ (by omega), k4 k hk, up2_ne (by omega), e3 _ (by omega) (by omega) (by omega) (by omega)]
    exact vw k hk
  · show X5 (h + 5) m = _
    rw [k5 m (by omega), h4 _ (by omega), up2_ne (by omega), e3 _ (by omega) (by omega) (by omega) (by omega)]
    exact vf m q1 q2
theorem c_rideCopy (T : RT_ M h) (T' : RT_ M h') (sep : h + 3 < h' ∨ h' + 3 < h) (hb : h < 1000000 ∧ h' < 1000000) (V : RV_ M h' R) : CG C 90 [.ref h, .ref (h')] M (fun w M' => w = none ∧ Fo [h, h + 1, h + 2, h + 3] M M' ∧ RV_ M' h R) := by
  obtain ⟨⟨t0, t1, t2, t3⟩, r0, r1, r2⟩ := T
  obtain ⟨⟨t0', t1', t2', t3'⟩, r0', r1', r2'⟩ := T'
  obtain ⟨hR, v3, d1, d2, d3⟩ := V
  have hR0 := hR.1
  refine CG_in (mL := 2) (hl := false) (lv := [some (.ref h), some (.ref (h'))]) (ll := []) rfl rfl rfl ?_
  refine G_S (pc := 0) f_90_0 rfl rfl rfl ?_
  refine G_gR (pc := 1) f_90_1 (by decide) rfl (by first | assumption | exact hK.1 _ _ rfl) (by first | assumption | exact hK.2 _ _ _ rfl | (try dsimp only) <;> (repeat (first | exact up2_s | refine up2_o (by first | decide | omega) ?_)) <;> first | assumption | exact hK.2 _ _ _ rfl) ?_
  refine G_S (pc := 4) f_90_4 rfl rfl rfl ?_
  refine G_gR (pc := 5) f_90_5 (by decide) rfl (by first | assumption | exact hK.1 _ _ rfl) (by first | assumption | exact hK.2 _ _ _ rfl | (try dsimp only) <;> (repeat (first | exact up2_s | refine up2_o (by first | decide | omega) ?_)) <;> first | assumption | exact hK.2 _ _ _ rfl) ?_
  refine G_CS (pc := 8) f_90_8 rfl rfl (by decide) rfl rfl ⟨Nat.le_of_ble_eq_true rfl, Nat.le_of_ble_eq_true rfl⟩ ?_
  refine CG.mono (c_cpX t1' t1 (by decide)) ?_
  rintro _ M1 ⟨rfl, X1, rfl, h1, k1⟩
  refine G_S (pc := 11) f_90_11 rfl rfl rfl ?_
  refine G_gR (pc := 12) f_90_12 (by decide) rfl (by first | assumption | exact hK.1 _ _ rfl) (by first | assumption | exact hK.2 _ _ _ rfl | (try dsimp only) <;> (repeat (first | exact up2_s | refine up2_o (by first | decide | omega) ?_)) <;> first | assumption | exact hK.2 _ _ _ rfl) ?_
  refine G_S (pc := 15) f_90_15 rfl rfl rfl ?_
  refine G_gR (pc := 16) f_90_16 (by decide) rfl (by first | assumption | exact hK.1 _ _ rfl) (by first | assumption | exact hK.2 _ _ _ rfl | (try dsimp only) <;> (repeat (first | exact up2_s | refine up2_o (by first | decide | omega) ?_)) <;> first | assumption | exact hK.2 _ _ _ rfl) ?_
  refine G_CS (pc := 19) f_90_19 rfl rfl (by decide) rfl rfl ⟨Nat.le_of_ble_eq_true rfl, Nat.le_of_ble_eq_true rfl⟩ ?_
  refine CG.mono (c_cpX t2' t2 (by decide)) ?_
  rintro _ M2 ⟨rfl, X2, rfl, h2, k2⟩
  dsimp only at h2 k2
  refine G_S (pc := 22) f_90_22 rfl rfl rfl ?_
  refine G_gR (pc := 23) f_90_23 (by decide) rfl (by first | assumption | exact hK.1 _ _ rfl) (by first | assumption | exact hK.2 _ _ _ rfl | (try dsimp only) <;> (repeat (first | exact up2_s | refine up2_o (by first | decide | omega) ?_)) <;> first | assumption | exact hK.2 _ _ _ rfl) ?_
  refine G_S (pc := 26) f_90_26 rfl rfl rfl ?_
  refine G_gR (pc := 27) f_90_27 (by decide) rfl (by first | assumption | exact hK.1 _ _ rfl) (by first | assumption | exact hK.2 _ _ _ rfl | (try dsimp only) <;> (repeat (first | exact up2_s | refine up2_o (by first | decide | omega) ?_)) <;> first | assumption | exact hK.2 _ _ _ rfl) ?_
  refine G_CS (pc := 30) f_90_30 rfl rfl (by decide) rfl rfl ⟨Nat.le_of_ble_eq_true rfl, Nat.le_of_ble_eq_true rfl⟩ ?_
  refine CG.mono (c_cpX t3' t3 (by decide)) ?_
  rintro _ M3 ⟨rfl, X3, rfl, h3, k3⟩
  dsimp only at h3 k3
  have w3 : X3 h' 3 = zI (R 0) := by
    rw [h3 h' (by omega), h2 h' (by omega), h1 h' (by omega)]
    exact v3
  refine G_S (pc := 33) f_90_33 rfl rfl rfl ?_
  refine G_S (pc := 34) f_90_34 rfl rfl rfl ?_
  refine G_gIv (pc := 35) f_90_35 (by decide) rfl (by decide) (by first | assumption | exact hK.1 _ _ rfl) (w3) ?_
  refine G_pI (pc := 38) f_90_38 rfl (by first | assumption | exact hK.1 _ _ rfl) ?_
  refine G_rv (pc := 41) f_90_41 ?_
  refine ⟨rfl, ⟨⟨rfl, rfl⟩, fun i hi => ⟨?_, rfl⟩⟩, hR, (by (try dsimp only); exact up2_s), fun k hk => ?_, fun k hk => ?_, fun k hk => ?_⟩
  · have a0 : i ≠ h := fun q => hi (by rw [q]; simp)
    have a1 : i ≠ h + 1 := fun q => hi (by rw [q]; simp)
    have a2 : i ≠ h + 2 := fun q => hi (by rw [q]; simp)
    have a3 : i ≠ h + 3 := fun q => hi (by rw [q]; simp)
    dsimp only
    rw [up2_ne a0, h3 i a3, h2 i a2, h1 i a1]
  · dsimp only
    rw [up2_ne (by omega), h3 _ (by omega), h2 _ (by omega), k1 k (by omega)]
    exact d1 k hk
  · dsimp only
    rw [up2_ne (by omega), h3 _ (by omega), k2 k (by omega), h1 _ (by omega)]
    exact d2 k hk
  · dsimp only
    rw [up2_ne (by omega), k3 k (by omega), h2 _ (by omega), h1 _ (by omega)]
    exact d3 k hk
theorem c_flowCopy (T : FT_ M h) (T' : FT_ M h') (sep : h + 4 < h' ∨ h' + 4 < h) (hb : h < 1000000 ∧ h' < 1000000) (V : FV_ M h' F) : CG C 34 [.ref h, .ref (h')] M (fun w M' => w = none ∧ Fo [h, h + 1] M M' ∧ FV_ M' h F) := by
  obtain ⟨⟨t0, t1, t2, t3, t4⟩, r1, r2, r3, r4⟩ := T
  obtain ⟨⟨t0', t1', t2', t3', t4'⟩, r1', r2', r3', r4'⟩ := T'
  obtain ⟨hF, v0, d1⟩ := V
  refine CG_in (mL := 2) (hl := false) (lv := [some (.ref h), some (.ref (h'))]) (ll := []) rfl rfl rfl ?_
  refine G_S (pc := 0) f_34_0 rfl rfl rfl ?_
  refine G_S (pc := 1) f_34_1 rfl rfl rfl ?_
  refine G_gIv (pc := 2) f_34_2 (by decide) rfl (by decide) (by first | assumption | exact hK.1 _ _ rfl) (v0) ?_
  refine G_pI (pc := 5) f_34_5 rfl (by first | assumption | exact hK.1 _ _ rfl) ?_
  refine G_S (pc := 8) f_34_8 rfl rfl rfl ?_
  refine G_gR (pc := 9) f_34_9 (by decide) rfl (by first | assumption | exact hK.1 _ _ rfl) (by first | assumption | exact hK.2 _ _ _ rfl | (try dsimp only) <;> (repeat (first | exact up2_s | refine up2_o (by first | decide | omega) ?_)) <;> first | assumption | exact hK.2 _ _ _ rfl) ?_
  refine G_S (pc := 12) f_34_12 rfl rfl rfl ?_
  refine G_gR (pc := 13) f_34_13 (by decide) rfl (by first | assumption | exact hK.1 _ _ rfl) (by first | assumption | exact hK.2 _ _ _ rfl | (try dsimp only) <;> (repeat (first | exact up2_s | refine up2_o (by first | decide | omega) ?_)) <;> first | assumption | exact hK.2 _ _ _ rfl) ?_
  refine G_CS (pc := 16) f_34_16 rfl rfl (by decide) rfl rfl ⟨Nat.le_of_ble_eq_true rfl, Nat.le_of_ble_eq_true rfl⟩ ?_
  refine CG.mono (c_cpX t1' t1 (by decide)) ?_
  rintro _ M1 ⟨rfl, X1, rfl, h1, k1⟩
  dsimp only at h1 k1
  refine G_rv (pc := 19) f_34_19 ?_
  refine ⟨rfl, ⟨⟨rfl, rfl⟩, fun i hi => ⟨?_, rfl⟩⟩, hF, ?_, fun k hk => ?_⟩
  · have a0 : i ≠ h := fun q => hi (by rw [q]; simp)
    have a1 : i ≠ h + 1 := fun q => hi (by rw [q]; simp)
    show X1 i = _
    rw [h1 i a1, up2_ne a0]
  · show X1 h 0 = _
    rw [h1 h (by omega)]
    exact up2_s
  · show X1 (h + 1) k = _
    rw [k1 k hk, up2_ne (by omega)]
    exact d1 k hk
end CCP
