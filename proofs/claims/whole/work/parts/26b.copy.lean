/-! copies of what is told: sights; what was read -/
section CCS
variable {C : Ct} {M : Mm} {h h' : Nat} {D F Z : Nat → Nat} {R : Nat → Int}
theorem c_sightCopy (T : ST_ M h) (T' : ST_ M h') (sep : h + 5 < h' ∨ h' + 5 < h) (hb : h < 1000000 ∧ h' < 1000000) (V : SJ_ M h' Z) : CG C 95 [.ref h, .ref (h')] M (fun w M' => w = none ∧ Fo [h, h + 1, h + 2, h + 3, h + 4, h + 5] M M' ∧ SJ_ M' h Z) := by
  obtain ⟨⟨t0, t1, t2, t3, t4, t5⟩, r1, r2, r3, r4, r5⟩ := T
  obtain ⟨⟨t0', t1', t2', t3', t4', t5'⟩, r1', r2', r3', r4', r5'⟩ := T'
  obtain ⟨⟨hZ, v0, v1, d1, d2, d3⟩, hj⟩ := V
  have hz0 := hZ.1
  have hz1 := hZ.2.1
  obtain ⟨jd, hjd, h01⟩ : ∃ jd : Int32, M.2.1 h' 5 = jd ∧ (jd = 0 ∨ jd = 1) := by
    rcases hj with z | z
    · exact ⟨_, rfl, Or.inl z⟩
    · exact ⟨_, rfl, Or.inr z.1⟩
  refine CG_in (mL := 2) (hl := false) (lv := [some (.ref h), some (.ref (h'))]) (ll := []) rfl rfl rfl ?_
  refine G_S (pc := 0) f_95_0 rfl rfl rfl ?_
  refine G_S (pc := 1) f_95_1 rfl rfl rfl ?_
  refine G_gIv (pc := 2) f_95_2 (by decide) rfl (by decide) (by first | assumption | exact hK.1 _ _ rfl) (v0) ?_
  refine G_pI (pc := 5) f_95_5 rfl (by first | assumption | exact hK.1 _ _ rfl) ?_
  refine G_S (pc := 8) f_95_8 rfl rfl rfl ?_
  refine G_S (pc := 9) f_95_9 rfl rfl rfl ?_
  refine G_gIv (pc := 10) f_95_10 (by decide) rfl (by decide) (by first | assumption | exact hK.1 _ _ rfl) ((mI_o (by omega) v1)) ?_
  refine G_pI (pc := 13) f_95_13 rfl (by first | assumption | exact hK.1 _ _ rfl) ?_
  refine G_S (pc := 16) f_95_16 rfl rfl rfl ?_
  refine G_gR (pc := 17) f_95_17 (by decide) rfl (by first | assumption | exact hK.1 _ _ rfl) (by first | assumption | exact hK.2 _ _ _ rfl | (try dsimp only) <;> (repeat (first | exact up2_s | refine up2_o (by first | decide | omega) ?_)) <;> first | assumption | exact hK.2 _ _ _ rfl) ?_
  refine G_S (pc := 20) f_95_20 rfl rfl rfl ?_
  refine G_gR (pc := 21) f_95_21 (by decide) rfl (by first | assumption | exact hK.1 _ _ rfl) (by first | assumption | exact hK.2 _ _ _ rfl | (try dsimp only) <;> (repeat (first | exact up2_s | refine up2_o (by first | decide | omega) ?_)) <;> first | assumption | exact hK.2 _ _ _ rfl) ?_
  refine G_CS (pc := 24) f_95_24 rfl rfl (by decide) rfl rfl ⟨Nat.le_of_ble_eq_true rfl, Nat.le_of_ble_eq_true rfl⟩ ?_
  refine CG.mono (c_cpX t1' t1 (by decide)) ?_
  rintro _ M1 ⟨rfl, X1, rfl, h1, k1⟩
  dsimp only at h1 k1
  refine G_S (pc := 27) f_95_27 rfl rfl rfl ?_
  refine G_gR (pc := 28) f_95_28 (by decide) rfl (by first | assumption | exact hK.1 _ _ rfl) (by first | assumption | exact hK.2 _ _ _ rfl | (try dsimp only) <;> (repeat (first | exact up2_s | refine up2_o (by first | decide | omega) ?_)) <;> first | assumption | exact hK.2 _ _ _ rfl) ?_
  refine G_S (pc := 31) f_95_31 rfl rfl rfl ?_
  refine G_gR (pc := 32) f_95_32 (by decide) rfl (by first | assumption | exact hK.1 _ _ rfl) (by first | assumption | exact hK.2 _ _ _ rfl | (try dsimp only) <;> (repeat (first | exact up2_s | refine up2_o (by first | decide | omega) ?_)) <;> first | assumption | exact hK.2 _ _ _ rfl) ?_
  refine G_CS (pc := 35) f_95_35 rfl rfl (by decide) rfl rfl ⟨Nat.le_of_ble_eq_true rfl, Nat.le_of_ble_eq_true rfl⟩ ?_
  refine CG.mono (c_cpX t2' t2 (by decide)) ?_
  rintro _ M2 ⟨rfl, X2, rfl, h2, k2⟩
  dsimp only at h2 k2
  refine G_S (pc := 38) f_95_38 rfl rfl rfl ?_
  refine G_gR (pc := 39) f_95_39 (by decide) rfl (by first | assumption | exact hK.1 _ _ rfl) (by first | assumption | exact hK.2 _ _ _ rfl | (try dsimp only) <;> (repeat (first | exact up2_s | refine up2_o (by first | decide | omega) ?_)) <;> first | assumption | exact hK.2 _ _ _ rfl) ?_
  refine G_S (pc := 42) f_95_42 rfl rfl rfl ?_
  refine G_gR (pc := 43) f_95_43 (by decide) rfl (by first | assumption | exact hK.1 _ _ rfl) (by first | assumption | exact hK.2 _ _ _ rfl | (try dsimp only) <;> (repeat (first | exact up2_s | refine up2_o (by first | decide | omega) ?_)) <;> first | assumption | exact hK.2 _ _ _ rfl) ?_
  refine G_CS (pc := 46) f_95_46 rfl rfl (by decide) rfl rfl ⟨Nat.le_of_ble_eq_true rfl, Nat.le_of_ble_eq_true rfl⟩ ?_
  refine CG.mono (c_cpX t3' t3 (by decide)) ?_
  rintro _ M3 ⟨rfl, X3, rfl, h3, k3⟩
  dsimp only at h3 k3
  have eh : ∀ i, i ≠ h → i ≠ h + 1 → i ≠ h + 2 → i ≠ h + 3 → X3 i = M.2.1 i := fun i a b c d => by
    rw [h3 i d, h2 i c, h1 i b, up2_ne a, up2_ne a]
  have w5 : X3 h' 5 = jd := by rw [eh h' (by omega) (by omega) (by omega) (by omega)]; exact hjd
  have w6 : X3 h' 6 = M.2.1 h' 6 := by rw [eh h' (by omega) (by omega) (by omega) (by omega)]
  have w7 : X3 h' 7 = M.2.1 h' 7 := by rw [eh h' (by omega) (by omega) (by omega) (by omega)]
  refine G_S (pc := 49) f_95_49 rfl rfl rfl ?_
  refine G_S (pc := 50) f_95_50 rfl rfl rfl ?_
  refine G_gIv (pc := 51) f_95_51 (by decide) rfl (by decide) (by first | assumption | exact hK.1 _ _ rfl) (w5) ?_
  refine G_pZ (pc := 54) f_95_54 rfl (by first | assumption | exact hK.1 _ _ rfl) (by first | exact Or.inl rfl | exact Or.inr rfl | exact b2i_01 _ | assumption) ?_
  refine G_S (pc := 57) f_95_57 rfl rfl rfl ?_
  refine G_S (pc := 58) f_95_58 rfl rfl rfl ?_
  refine G_gIv (pc := 59) f_95_59 (by decide) rfl (by decide) (by first | assumption | exact hK.1 _ _ rfl) ((mI_o (by omega) w6)) ?_
  refine G_pI (pc := 62) f_95_62 rfl (by first | assumption | exact hK.1 _ _ rfl) ?_
  refine G_S (pc := 65) f_95_65 rfl rfl rfl ?_
  refine G_S (pc := 66) f_95_66 rfl rfl rfl ?_
  refine G_gIv (pc := 67) f_95_67 (by decide) rfl (by decide) (by first | assumption | exact hK.1 _ _ rfl) ((mI_o (by omega) (mI_o (by omega) w7))) ?_
  refine G_pI (pc := 70) f_95_70 rfl (by first | assumption | exact hK.1 _ _ rfl) ?_
  refine G_S (pc := 73) f_95_73 rfl rfl rfl ?_
  refine G_gR (pc := 74) f_95_74 (by decide) rfl (by first | assumption | exact hK.1 _ _ rfl) (by first | assumption | exact hK.2 _ _ _ rfl | (try dsimp only) <;> (repeat (first | exact up2_s | refine up2_o (by first | decide | omega) ?_)) <;> first | assumption | exact hK.2 _ _ _ rfl) ?_
  refine G_S (pc := 77) f_95_77 rfl rfl rfl ?_
  refine G_gR (pc := 78) f_95_78 (by decide) rfl (by first | assumption | exact hK.1 _ _ rfl) (by first | assumption | exact hK.2 _ _ _ rfl | (try dsimp only) <;> (repeat (first | exact up2_s | refine up2_o (by first | decide | omega) ?_)) <;> first | assumption | exact hK.2 _ _ _ rfl) ?_
  refine G_CS (pc := 81) f_95_81 rfl rfl (by decide) rfl rfl ⟨Nat.le_of_ble_eq_true rfl, Nat.le_of_ble_eq_true rfl⟩ ?_
  refine CG.mono (c_cpX t4' t4 (by decide)) ?_
  rintro _ M4 ⟨rfl, X4, rfl, h4, k4⟩
  dsimp only at h4 k4
  refine G_S (pc := 84) f_95_84 rfl rfl rfl ?_
  refine G_gR (pc := 85) f_95_85 (by decide) rfl (by first | assumption | exact hK.1 _ _ rfl) (by first | assumption | exact hK.2 _ _ _ rfl | (try dsimp only) <;> (repeat (first | exact up2_s | refine up2_o (by first | decide | omega) ?_)) <;> first | assumption | exact hK.2 _ _ _ rfl) ?_
  refine G_S (pc := 88) f_95_88 rfl rfl rfl ?_
  refine G_gR (pc := 89) f_95_89 (by decide) rfl (by first | assumption | exact hK.1 _ _ rfl) (by first | assumption | exact hK.2 _ _ _ rfl | (try dsimp only) <;> (repeat (first | exact up2_s | refine up2_o (by first | decide | omega) ?_)) <;> first | assumption | exact hK.2 _ _ _ rfl) ?_
  refine G_CS (pc := 92) f_95_92 rfl rfl (by decide) rfl rfl ⟨Nat.le_of_ble_eq_true rfl, Nat.le_of_ble_eq_true rfl⟩ ?_
  refine CG.mono (c_cpX t5' t5 (by decide)) ?_
  rintro _ M5 ⟨rfl, X5, rfl, h5, k5⟩
  dsimp only at h5 k5
  refine G_rv (pc := 95) f_95_95 ?_
  have e5 : ∀ i, i ≠ h → i ≠ h + 4 → i ≠ h + 5 → X5 i = X3 i := fun i a b c => by
    rw [h5 i c, h4 i b, up2_ne a, up2_ne a, up2_ne a]
  have f5 : ∀ k, X5 h k = up2 (up2 (up2 X3 h 5 jd) h 6 (M.2.1 h' 6)) h 7 (M.2.1 h' 7) h k := fun k => by rw [h5 h (by omega), h4 h (by omega)]
  have f3 : ∀ k, X3 h k = up2 (up2 M.2.1 h 0 (nI (Z 0))) h 1 (nI (Z 1)) h k := fun k => by rw [h3 h (by omega), h2 h (by omega), h1 h (by omega)]
  have g4 : ∀ k, k < 4 → X5 (h + 4) k = M.2.1 (h' + 4) k := fun k hk => by
    rw [h5 _ (by omega), k4 k hk, up2_ne (by omega), up2_ne (by omega), up2_ne (by omega), eh _ (by omega) (by omega) (by omega) (by omega)]
  have g5 : ∀ k, k < 4 → X5 (h + 5) k = M.2.1 (h' + 5) k := fun k hk => by
    rw [k5 k hk, h4 _ (by omega), up2_ne (by omega), up2_ne (by omega), up2_ne (by omega), eh _ (by omega) (by omega) (by omega) (by omega)]
  have y5 : X5 h 5 = jd := by
    rw [f5]
    exact up2_o (by omega) (up2_o (by omega) up2_s)
  have y6 : X5 h 6 = M.2.1 h' 6 := by
    rw [f5]
    exact up2_o (by omega) up2_s
  have y7 : X5 h 7 = M.2.1 h' 7 := by
    rw [f5]
    exact up2_s
  refine ⟨rfl, ⟨⟨rfl, rfl⟩, fun i hi => ⟨?_, rfl⟩⟩, ⟨hZ, ?_, ?_, fun k hk => ?_, fun k hk => ?_, fun k hk => ?_⟩, ?_⟩
  · have a0 : i ≠ h := fun q => hi (by rw [q]; simp)
    have a1 : i ≠ h + 1 := fun q => hi (by rw [q]; simp)
    have a2 : i ≠ h + 2 := fun q => hi (by rw [q]; simp)
    have a3 : i ≠ h + 3 := fun q => hi (by rw [q]; simp)
    have a4 : i ≠ h + 4 := fun q => hi (by rw [q]; simp)
    have a5 : i ≠ h + 5 := fun q => hi (by rw [q]; simp)
    show X5 i = M.2.1 i
    rw [e5 i a0 a4 a5, eh i a0 a1 a2 a3]
  · show X5 h 0 = _
    rw [f5]
    exact up2_o (by omega) (up2_o (by omega) (up2_o (by omega) (by rw [f3]; exact up2_o (by omega) up2_s)))
  · show X5 h 1 = _
    rw [f5]
    exact up2_o (by omega) (up2_o (by omega) (up2_o (by omega) (by rw [f3]; exact up2_s)))
  · show X5 (h + 1) k = _
    rw [e5 _ (by omega) (by omega) (by omega), h3 _ (by omega), h2 _ (by omega), k1 k (by omega), up2_ne (by omega), up2_ne (by omega)]
    exact d1 k hk
  · show X5 (h + 2) k = _
    rw [e5 _ (by omega) (by omega) (by omega), h3 _ (by omega), k2 k (by omega), h1 _ (by omega), up2_ne (by omega), up2_ne (by omega)]
    exact d2 k hk
  · show X5 (h + 3) k = _
    rw [e5 _ (by omega) (by omega) (by omega), k3 k (by omega), h2 _ (by omega), h1 _ (by omega), up2_ne (by omega), up2_ne (by omega)]
    exact d3 k hk
  · show X5 h 5 = nI 0 ∨ (X5 h 5 = nI 1 ∧ JV (M.1, X5, M.2.2.1, M.2.2.2) h Z)
    rw [y5, ← hjd]
    rcases hj with z | ⟨z, j1, j2, j3⟩
    · exact Or.inl z
    · refine Or.inr ⟨z, ?_, fun s hs => ⟨?_, ?_⟩, ?_⟩
      · show X5 h 6 = _
        rw [y6]
        exact j1
      · show X5 (h + 4) s = _
        rw [g4 s (by omega)]
        exact (j2 s hs).1
      · show X5 (h + 5) s = _
        rw [g5 s (by omega)]
        exact (j2 s hs).2
      · show X5 h 7 = _
        rw [y7]
        exact j3
/-- what was read, as a line, a flow, a sight -/
def nt_ (E : Nat → Int) (j : Nat) : Nat := (E j).toNat
theorem EO0.d {E : Nat → Int} (h : EO0 E) : DOK (nt_ E) := by
  obtain ⟨e0, e1, e2, e3, e4, e5, e6, e7⟩ := h
  exact ⟨by unfold nt_; omega, by unfold nt_; omega, by unfold nt_; omega, fun k hk => by have := e3 k hk; unfold nt_; omega, fun k hk => by have := e4 k hk; unfold nt_; omega, fun k hk => by have := e5 k hk; unfold nt_; omega, fun k hk => by have := e6 k hk; unfold nt_; omega, fun k hk => by have := e7 k hk; unfold nt_; omega⟩
theorem zt_ {z : Int} (h : 0 ≤ z) : zI z = nI z.toNat := zI_n h
theorem CD0.v {E : Nat → Int} (h : CD0 M E) (he : EO0 E) : LnV M 54 (nt_ E) := by
  obtain ⟨⟨a0, a1, a2⟩, d1, d2, d3, d4, d5⟩ := h
  have hd := he.d
  obtain ⟨e0, e1, e2, e3, e4, e5, e6, e7⟩ := he
  refine ⟨hd, ⟨?_, ?_, ?_⟩, fun k hk => ?_, fun r hr => ⟨?_, ?_⟩, fun k hk => ?_, fun m q1 q2 => ?_⟩
  · rw [a0]
    exact zt_ (by omega)
  · rw [a1]
    exact zt_ (by omega)
  · rw [a2]
    exact zt_ (by omega)
  · have hk : k < (E 0).toNat := hk
    rw [d1 k (by omega)]
    exact zt_ (e3 k (by omega)).1
  · have hr : r < (E 2).toNat := hr
    rw [d2 r (by omega)]
    exact zt_ (e4 r (by omega)).1
  · have hr : r < (E 2).toNat := hr
    rw [d3 r (by omega)]
    exact zt_ (e5 r (by omega)).1
  · rw [d4 k hk]
    exact zt_ (e6 k hk).1
  · rw [d5 m q1 q2]
    have := e7 (m - 1) (by omega)
    rw [show 31 + (m - 1) = 30 + m by omega] at this
    exact zt_ this.1
theorem EO2.f {E : Nat → Int} (h : EO2 E) : FOK (nt_ E) := by
  obtain ⟨e0, e1⟩ := h
  exact ⟨by unfold nt_; omega, fun k hk => by have := e1 k hk; unfold nt_; omega⟩
theorem CD2.v {E : Nat → Int} (h : CD2 M E) (he : EO2 E) : FV_ M 65 (nt_ E) := by
  have hf := he.f
  obtain ⟨e0, e1⟩ := he
  refine ⟨hf, ?_, fun k hk => ?_⟩
  · rw [h.1]
    exact zt_ (by omega)
  · rw [h.2 k hk]
    exact zt_ (e1 k hk).1
theorem EO3.z {E : Nat → Int} {T : Nat} (h : EO3 E) (hT : T = orS E (E 1).toNat) (hlt : ¬ 2 ^ (E 0).toNat ≤ T) : SOK (nt_ E) := by
  obtain ⟨e0, e1, e2⟩ := h
  refine ⟨by unfold nt_; omega, by unfold nt_; omega, fun k hk => ?_⟩
  have hk : k < (E 1).toNat := hk
  have hh := e2 k (by omega)
  refine ⟨by unfold nt_; omega, ?_, by unfold nt_; omega⟩
  show (E (3 + 3 * k)).toNat < 2 ^ (E 0).toNat
  by_cases q : 2 ^ (E 0).toNat ≤ (E (3 + 3 * k)).toNat
  · exact absurd ((orS_tm (E := E) (E 1).toNat).mpr ⟨k, hk, decide_eq_true q⟩) (by rw [← hT]; exact hlt)
  · omega
theorem CD3.v {E : Nat → Int} (h : CD3 M E) (he : EO3 E) (hz : SOK (nt_ E)) : SJ_ M 70 (nt_ E) := by
  obtain ⟨⟨a0, a1, a5⟩, d1, d2, d3⟩ := h
  obtain ⟨e0, e1, e2⟩ := he
  refine ⟨⟨hz, ?_, ?_, fun k hk => ?_, fun k hk => ?_, fun k hk => ?_⟩, Or.inl a5⟩
  · rw [a0]
    exact zt_ (by omega)
  · rw [a1]
    exact zt_ (by omega)
  · have hk : k < (E 1).toNat := hk
    rw [d1 k (by omega)]
    exact zt_ (e2 k (by omega)).1.1
  · have hk : k < (E 1).toNat := hk
    have := (e2 k (by omega)).2.1
    rw [d2 k (by omega)]
    exact zt_ (by omega)
  · have hk : k < (E 1).toNat := hk
    have := (e2 k (by omega)).2.2
    rw [d3 k (by omega)]
    exact zt_ (by omega)
end CCS
