/-! the reference: feed, end, fault, count -/
def mRr (M M' : Mm) : Prop := (M'.1 = M.1 ∧ M'.2.2.2 = M.2.2.2) ∧ ∀ i, ¬ (98 ≤ i ∧ i ≤ 130) → M'.2.1 i = M.2.1 i ∧ M'.2.2.1 i = M.2.2.1 i
theorem mRr.tr {M M1 M2 : Mm} (h1 : mRr M M1) (h2 : mRr M1 M2) : mRr M M2 := ⟨⟨h2.1.1.trans h1.1.1, h2.1.2.trans h1.1.2⟩, fun i hi => ⟨(h2.2 i hi).1.trans (h1.2 i hi).1, (h2.2 i hi).2.trans (h1.2 i hi).2⟩⟩
theorem mQ.R {M M' : Mm} (h : mQ M M') : mRr M M' := ⟨h.1, fun i hi => h.2 i (by omega)⟩
theorem Fo.R {os : List Nat} {M M' : Mm} (h : Fo os M M') (ho : ∀ i, i ∈ os → 98 ≤ i ∧ i ≤ 130) : mRr M M' := ⟨h.1, fun i hi => h.2 i (fun q => hi (ho i q))⟩
def RMq (M M' : Mm) (s : Sg) : Prop := mRr M M' ∧ MSl M' 0 s ∧ Mso M M' ∧ M'.2.1 130 = M.2.1 130
section MFE
variable {C : Ct} {M : Mm} {s : Sg} {x y z u v : Int32}
theorem MSl.cod (h : MSl M 0 s) (hs : SgOK s) {k : Nat} {x : Int32} : MSl (M.1, up2 M.2.1 98 k x, M.2.2.1, M.2.2.2) 0 s := h.g hs (fun i h1 h2 => up2_ne (by omega))
theorem m_feedN (hK : KM M.1 M.2.2.2) (h : MSl M 0 s) (hs : SgOK s) (hn : ¬ s.len ≤ 580) : CG C 197 [.ref 98, .int x, .int y, .int z, .int u, .int v] M (fun w M' => w = some (.int (zI (-1))) ∧ mQ M M') := by
  have h1 := h.1.1
  have hs1 := hs.1
  refine CG_in (mL := 6) (hl := false) (lv := [some (.ref 98), some (.int x), some (.int y), some (.int z), some (.int u), some (.int v)]) (ll := []) rfl rfl rfl ?_
  refine G_S (pc := 0) f_197_0 rfl rfl rfl ?_
  refine G_ic (v := nI 0) (pc := 1) f_197_1 (by decide) ?_
  refine G_pI (pc := 2) f_197_2 rfl (by first | assumption | exact hK.1 _ _ rfl) ?_
  refine G_S (pc := 5) f_197_5 rfl rfl rfl ?_
  refine G_gR (pc := 6) f_197_6 (by decide) rfl (by first | assumption | exact hK.1 _ _ rfl) (by first | assumption | exact hK.2 _ _ _ rfl | (try dsimp only) <;> (repeat (first | exact up2_s | refine up2_o (by first | decide | omega) ?_)) <;> first | assumption | exact hK.2 _ _ _ rfl) ?_
  refine G_ic (v := nI 0) (pc := 9) f_197_9 (by decide) ?_
  refine G_iaN (pc := 10) f_197_10 (by first | assumption | exact hK.1 _ _ rfl) (by omega) (by omega) (by first | exact (mI_o (by omega) h1) | rfl) ?_
  refine G_bi (v := nI 20) (pc := 11) f_197_11 (by decide) ?_
  first | refine G_addN (pc := 13) f_197_13 ?_ | refine G_addZ (pc := 13) f_197_13 (by first | rfl | exact nI_zI _) (by first | rfl | exact nI_zI _) ?_ | refine G_S (pc := 13) f_197_13 rfl rfl rfl ?_
  refine G_si (v := nI 600) (pc := 14) f_197_14 (by decide) ?_
  refine G_jleZ (pc := 17) f_197_17 rfl (by first | exact nI_toInt (by omega) | exact zI_toInt (by omega) (by omega) | rfl) (by first | exact nI_toInt (by omega) | exact zI_toInt (by omega) (by omega) | rfl) (fun b1 => ?_) (fun b1 => ?_)
  · exfalso; omega
  · refine G_ic (v := zI (-1)) (pc := 20) f_197_20 (by decide) ?_
    refine G_ri (pc := 21) f_197_21 ?_
    exact ⟨rfl, mQ.cod⟩
theorem m_feedY (hK : KM M.1 M.2.2.2) (h : MSl M 0 s) (hs : SgOK s) (hn : s.len ≤ 580) : CG C 197 [.ref 98, .int x, .int y, .int z, .int u, .int v] M (fun w M' => w = some (.int (nI (s.len + 20))) ∧ RMq M M' (fdF s x y z u v)) := by
  have h1 := h.1.1
  have o1 := put4_ok (x := x) hs (by show s.len + 4 ≤ 600; omega)
  have o2 := put4_ok (x := y) o1 (by show s.len + 4 + 4 ≤ 600; omega)
  have o3 := put4_ok (x := z) o2 (by show s.len + 4 + 4 + 4 ≤ 600; omega)
  have o4 := put4_ok (x := u) o3 (by show s.len + 4 + 4 + 4 + 4 ≤ 600; omega)
  refine CG_in (mL := 6) (hl := false) (lv := [some (.ref 98), some (.int x), some (.int y), some (.int z), some (.int u), some (.int v)]) (ll := []) rfl rfl rfl ?_
  refine G_S (pc := 0) f_197_0 rfl rfl rfl ?_
  refine G_ic (v := nI 0) (pc := 1) f_197_1 (by decide) ?_
  refine G_pI (pc := 2) f_197_2 rfl (by first | assumption | exact hK.1 _ _ rfl) ?_
  refine G_S (pc := 5) f_197_5 rfl rfl rfl ?_
  refine G_gR (pc := 6) f_197_6 (by decide) rfl (by first | assumption | exact hK.1 _ _ rfl) (by first | assumption | exact hK.2 _ _ _ rfl | (try dsimp only) <;> (repeat (first | exact up2_s | refine up2_o (by first | decide | omega) ?_)) <;> first | assumption | exact hK.2 _ _ _ rfl) ?_
  refine G_ic (v := nI 0) (pc := 9) f_197_9 (by decide) ?_
  refine G_iaN (pc := 10) f_197_10 (by first | assumption | exact hK.1 _ _ rfl) (by omega) (by omega) (by first | exact (mI_o (by omega) h1) | rfl) ?_
  refine G_bi (v := nI 20) (pc := 11) f_197_11 (by decide) ?_
  first | refine G_addN (pc := 13) f_197_13 ?_ | refine G_addZ (pc := 13) f_197_13 (by first | rfl | exact nI_zI _) (by first | rfl | exact nI_zI _) ?_ | refine G_S (pc := 13) f_197_13 rfl rfl rfl ?_
  refine G_si (v := nI 600) (pc := 14) f_197_14 (by decide) ?_
  refine G_jleZ (pc := 17) f_197_17 rfl (by first | exact nI_toInt (by omega) | exact zI_toInt (by omega) (by omega) | rfl) (by first | exact nI_toInt (by omega) | exact zI_toInt (by omega) (by omega) | rfl) (fun b1 => ?_) (fun b1 => ?_)
  · refine G_S (pc := 22) f_197_22 rfl rfl rfl ?_
    refine G_S (pc := 23) f_197_23 rfl rfl rfl ?_
    refine G_CV (pc := 24) f_197_24 rfl rfl (by decide) rfl rfl (by first | assumption | exact hK.1 _ _ rfl) (by decide) ⟨Nat.le_of_ble_eq_true rfl, Nat.le_of_ble_eq_true rfl⟩ ?_
    refine CG.mono (m_put4 hK (h.cod hs) hs (by show s.len + 4 ≤ 600; omega)) ?_
    rintro _ M1 ⟨rfl, f1, c1, d1⟩
    have hK := f1.K hK
    refine G_S (pc := 27) f_197_27 rfl rfl rfl ?_
    refine G_S (pc := 28) f_197_28 rfl rfl rfl ?_
    refine G_CV (pc := 29) f_197_29 rfl rfl (by decide) rfl rfl (by first | assumption | exact hK.1 _ _ rfl) (by decide) ⟨Nat.le_of_ble_eq_true rfl, Nat.le_of_ble_eq_true rfl⟩ ?_
    refine CG.mono (m_put4 hK c1 o1 (by show s.len + 4 + 4 ≤ 600; omega)) ?_
    rintro _ M2 ⟨rfl, f2, c2, d2⟩
    have hK := f2.K hK
    refine G_S (pc := 32) f_197_32 rfl rfl rfl ?_
    refine G_S (pc := 33) f_197_33 rfl rfl rfl ?_
    refine G_CV (pc := 34) f_197_34 rfl rfl (by decide) rfl rfl (by first | assumption | exact hK.1 _ _ rfl) (by decide) ⟨Nat.le_of_ble_eq_true rfl, Nat.le_of_ble_eq_true rfl⟩ ?_
    refine CG.mono (m_put4 hK c2 o2 (by show s.len + 4 + 4 + 4 ≤ 600; omega)) ?_
    rintro _ M3 ⟨rfl, f3, c3, d3⟩
    have hK := f3.K hK
    refine G_S (pc := 37) f_197_37 rfl rfl rfl ?_
    refine G_S (pc := 38) f_197_38 rfl rfl rfl ?_
    refine G_CV (pc := 40) f_197_40 rfl rfl (by decide) rfl rfl (by first | assumption | exact hK.1 _ _ rfl) (by decide) ⟨Nat.le_of_ble_eq_true rfl, Nat.le_of_ble_eq_true rfl⟩ ?_
    refine CG.mono (m_put4 hK c3 o3 (by show s.len + 4 + 4 + 4 + 4 ≤ 600; omega)) ?_
    rintro _ M4 ⟨rfl, f4, c4, d4⟩
    have hK := f4.K hK
    refine G_S (pc := 43) f_197_43 rfl rfl rfl ?_
    refine G_S (pc := 44) f_197_44 rfl rfl rfl ?_
    refine G_CV (pc := 46) f_197_46 rfl rfl (by decide) rfl rfl (by first | assumption | exact hK.1 _ _ rfl) (by decide) ⟨Nat.le_of_ble_eq_true rfl, Nat.le_of_ble_eq_true rfl⟩ ?_
    refine CG.mono (m_put4 hK c4 o4 (by show s.len + 4 + 4 + 4 + 4 + 4 ≤ 600; omega)) ?_
    rintro _ M5 ⟨rfl, f5, c5, d5⟩
    have hK := f5.K hK
    refine G_S (pc := 49) f_197_49 rfl rfl rfl ?_
    refine G_gR (pc := 50) f_197_50 (by decide) rfl (by first | assumption | exact hK.1 _ _ rfl) (by first | assumption | exact hK.2 _ _ _ rfl | (try dsimp only) <;> (repeat (first | exact up2_s | refine up2_o (by first | decide | omega) ?_)) <;> first | assumption | exact hK.2 _ _ _ rfl) ?_
    refine G_ic (v := nI 0) (pc := 53) f_197_53 (by decide) ?_
    refine G_iaN (pc := 54) f_197_54 (by first | assumption | exact hK.1 _ _ rfl) (by omega) (by omega) (by first | exact c5.1.1 | rfl) ?_
    refine G_ri (pc := 55) f_197_55 ?_
    have f := f1.tr (f2.tr (f3.tr (f4.tr f5)))
    have q : mQ M (M.1, up2 M.2.1 98 0 (nI 0), M.2.2.1, M.2.2.2) := mQ.cod
    exact ⟨rfl, q.R.tr (f.R (by decide)), c5, Mso.tr (fun k _ _ => q.sl k) (d1.tr (d2.tr (d3.tr (d4.tr d5)))), (f.2 130 (by decide)).1.trans (q.2 130 (by decide)).1⟩
  · exfalso; omega
/-- the tape cut -/
def enF (s : Sg) (m : Nat) : Sg := (s.1, m, s.2.2)
theorem enF_ok {m : Nat} (h : SgOK s) (hm : m ≤ s.len) : SgOK (enF s m) := ⟨Nat.le_trans hm h.1, fun i hi => h.2.1 i (Nat.lt_of_lt_of_le hi hm), h.2.2⟩
theorem MSl.en {m : Nat} (h : MSl M 0 s) (hm : m ≤ s.len) : MSl (M.1, up2 M.2.1 100 0 (nI m), M.2.2.1, M.2.2.2) 0 (enF s m) := by
  obtain ⟨⟨h1, h2, h3⟩, ht, hc, hL, hP, hF, hZ⟩ := h
  unfold MSl
  dsimp only
  rw [up2_ne (a := 99) (by decide), up2_ne (a := 101) (by decide), up2_ne (a := 102) (by decide), up2_ne (a := 103) (by decide), up2_ne (a := 104) (by decide), up2_ne (a := 105) (by decide), up2_ne (a := 106) (by decide), up2_ne (a := 107) (by decide)]
  exact ⟨⟨up2_s, h2, h3⟩, fun i hi => ht i (Nat.lt_of_lt_of_le hi hm), hc, hL, hP, hF, hZ⟩
theorem Mso.up {x : Int32} : Mso M (M.1, up2 M.2.1 100 0 x, M.2.2.1, M.2.2.2) := by
  intro k hk h0
  unfold MQk
  dsimp only
  rw [up2_ne (a := 99) (by decide), up2_ne (a := 101) (by decide), up2_ne (a := 102) (by decide), up2_ne (a := 103) (by decide), up2_ne (a := 104) (by decide), up2_ne (a := 105) (by decide), up2_ne (a := 106) (by decide), up2_ne (a := 107) (by decide)]
  exact ⟨⟨up2_o (fun z => h0 z.2) rfl, rfl, rfl⟩, fun _ _ => Or.inl rfl, fun _ _ => rfl, fun _ _ => rfl, fun _ _ => rfl, fun _ _ => rfl, fun _ _ => rfl⟩
theorem m_endN (hK : KM M.1 M.2.2.2) (h : MSl M 0 s) (hs : SgOK s) (hx : ¬ (0 ≤ x.toInt ∧ x.toInt ≤ (s.len : Int))) : CG C 199 [.ref 98, .int x] M (fun w M' => w = some (.int (zI (-1))) ∧ mQ M M') := by
  have h1 := h.1.1
  have hs1 := hs.1
  refine CG_in (mL := 2) (hl := false) (lv := [some (.ref 98), some (.int x)]) (ll := []) rfl rfl rfl ?_
  refine G_S (pc := 0) f_199_0 rfl rfl rfl ?_
  refine G_ic (v := nI 0) (pc := 1) f_199_1 (by decide) ?_
  refine G_pI (pc := 2) f_199_2 rfl (by first | assumption | exact hK.1 _ _ rfl) ?_
  refine G_S (pc := 5) f_199_5 rfl rfl rfl ?_
  refine G_ic (v := nI 0) (pc := 6) f_199_6 (by decide) ?_
  refine G_S (pc := 7) f_199_7 rfl rfl rfl ?_
  refine G_gR (pc := 8) f_199_8 (by decide) rfl (by first | assumption | exact hK.1 _ _ rfl) (by first | assumption | exact hK.2 _ _ _ rfl | (try dsimp only) <;> (repeat (first | exact up2_s | refine up2_o (by first | decide | omega) ?_)) <;> first | assumption | exact hK.2 _ _ _ rfl) ?_
  refine G_ic (v := nI 0) (pc := 11) f_199_11 (by decide) ?_
  refine G_iaN (pc := 12) f_199_12 (by first | assumption | exact hK.1 _ _ rfl) (by omega) (by omega) (by first | exact (mI_o (by omega) h1) | rfl) ?_
  refine G_CS (pc := 13) f_199_13 rfl rfl (by decide) rfl rfl ⟨Nat.le_of_ble_eq_true rfl, Nat.le_of_ble_eq_true rfl⟩ ?_
  refine CG.go (m_inZ (by first | exact nI_toInt (by omega) | exact zI_toInt (by omega) (by omega) | rfl) (by first | exact nI_toInt (by omega) | exact zI_toInt (by omega) (by omega) | rfl) (by first | exact nI_toInt (by omega) | exact zI_toInt (by omega) (by omega) | rfl)) ?_
  first | refine G_bNe (pc := 16) f_199_16 rfl (fun b1 => ?_) (fun b1 => ?_) | refine G_zneZ (pc := 16) f_199_16 rfl (by first | exact nI_toInt (by omega) | exact zI_toInt (by omega) (by omega) | rfl) (fun b1 => ?_) (fun b1 => ?_)
  · exfalso; omega
  · refine G_ic (v := zI (-1)) (pc := 19) f_199_19 (by decide) ?_
    refine G_ri (pc := 20) f_199_20 ?_
    exact ⟨rfl, mQ.cod⟩
theorem m_endY {m : Nat} (hK : KM M.1 M.2.2.2) (h : MSl M 0 s) (hs : SgOK s) (hm : m ≤ s.len) : CG C 199 [.ref 98, .int (nI m)] M (fun w M' => w = some (.int (nI m)) ∧ RMq M M' (enF s m)) := by
  have h1 := h.1.1
  have hs1 := hs.1
  refine CG_in (mL := 2) (hl := false) (lv := [some (.ref 98), some (.int (nI m))]) (ll := []) rfl rfl rfl ?_
  refine G_S (pc := 0) f_199_0 rfl rfl rfl ?_
  refine G_ic (v := nI 0) (pc := 1) f_199_1 (by decide) ?_
  refine G_pI (pc := 2) f_199_2 rfl (by first | assumption | exact hK.1 _ _ rfl) ?_
  refine G_S (pc := 5) f_199_5 rfl rfl rfl ?_
  refine G_ic (v := nI 0) (pc := 6) f_199_6 (by decide) ?_
  refine G_S (pc := 7) f_199_7 rfl rfl rfl ?_
  refine G_gR (pc := 8) f_199_8 (by decide) rfl (by first | assumption | exact hK.1 _ _ rfl) (by first | assumption | exact hK.2 _ _ _ rfl | (try dsimp only) <;> (repeat (first | exact up2_s | refine up2_o (by first | decide | omega) ?_)) <;> first | assumption | exact hK.2 _ _ _ rfl) ?_
  refine G_ic (v := nI 0) (pc := 11) f_199_11 (by decide) ?_
  refine G_iaN (pc := 12) f_199_12 (by first | assumption | exact hK.1 _ _ rfl) (by omega) (by omega) (by first | exact (mI_o (by omega) h1) | rfl) ?_
  refine G_CS (pc := 13) f_199_13 rfl rfl (by decide) rfl rfl ⟨Nat.le_of_ble_eq_true rfl, Nat.le_of_ble_eq_true rfl⟩ ?_
  refine CG.go (m_inZ (by first | exact nI_toInt (by omega) | exact zI_toInt (by omega) (by omega) | rfl) (by first | exact nI_toInt (by omega) | exact zI_toInt (by omega) (by omega) | rfl) (by first | exact nI_toInt (by omega) | exact zI_toInt (by omega) (by omega) | rfl)) ?_
  first | refine G_bNe (pc := 16) f_199_16 rfl (fun b1 => ?_) (fun b1 => ?_) | refine G_zneZ (pc := 16) f_199_16 rfl (by first | exact nI_toInt (by omega) | exact zI_toInt (by omega) (by omega) | rfl) (fun b1 => ?_) (fun b1 => ?_)
  · refine G_S (pc := 21) f_199_21 rfl rfl rfl ?_
    refine G_gR (pc := 22) f_199_22 (by decide) rfl (by first | assumption | exact hK.1 _ _ rfl) (by first | assumption | exact hK.2 _ _ _ rfl | (try dsimp only) <;> (repeat (first | exact up2_s | refine up2_o (by first | decide | omega) ?_)) <;> first | assumption | exact hK.2 _ _ _ rfl) ?_
    refine G_ic (v := nI 0) (pc := 25) f_199_25 (by decide) ?_
    refine G_S (pc := 26) f_199_26 rfl rfl rfl ?_
    refine G_isN (pc := 27) f_199_27 (by first | assumption | exact hK.1 _ _ rfl) (by omega) (by omega) ?_
    refine G_S (pc := 28) f_199_28 rfl rfl rfl ?_
    refine G_ri (pc := 29) f_199_29 ?_
    have q : mQ M (M.1, up2 M.2.1 98 0 (nI 0), M.2.2.1, M.2.2.2) := mQ.cod
    have e := (h.cod hs (k := 0) (x := nI 0)).en hm
    have f : Fo [100] (M.1, up2 M.2.1 98 0 (nI 0), M.2.2.1, M.2.2.2) (M.1, up2 (up2 M.2.1 98 0 (nI 0)) 100 0 (nI m), M.2.2.1, M.2.2.2) := Fo.up (M := (M.1, up2 M.2.1 98 0 (nI 0), M.2.2.1, M.2.2.2)) (i := 100) (by decide)
    exact ⟨rfl, q.R.tr (f.R (by decide)), e, Mso.tr (fun k _ _ => q.sl k) (Mso.up (M := (M.1, up2 M.2.1 98 0 (nI 0), M.2.2.1, M.2.2.2))), (f.2 130 (by decide)).1.trans (q.2 130 (by decide)).1⟩
  · exfalso; omega
def aFlt (s : Sg) (x : Int32) : Int32 := if x.toInt = 0 then nI s.flt.1 else if x.toInt = 1 then plI s.flt else zI (-1)
theorem m_fault (hK : KM M.1 M.2.2.2) (h : MSl M 0 s) : CG C 224 [.ref 98, .int x] M (fun w M' => w = some (.int (aFlt s x)) ∧ mQ M M') := by
  have h2 := h.1.2.1
  have h3 := h.1.2.2
  unfold aFlt
  refine CG_in (mL := 2) (hl := false) (lv := [some (.ref 98), some (.int x)]) (ll := []) rfl rfl rfl ?_
  refine G_S (pc := 0) f_224_0 rfl rfl rfl ?_
  refine G_ic (v := nI 0) (pc := 1) f_224_1 (by decide) ?_
  refine G_pI (pc := 2) f_224_2 rfl (by first | assumption | exact hK.1 _ _ rfl) ?_
  refine G_S (pc := 5) f_224_5 rfl rfl rfl ?_
  first | refine G_bNe (pc := 6) f_224_6 rfl (fun b1 => ?_) (fun b1 => ?_) | refine G_zneZ (pc := 6) f_224_6 rfl (by first | exact nI_toInt (by omega) | exact zI_toInt (by omega) (by omega) | rfl) (fun b1 => ?_) (fun b1 => ?_)
  · refine G_S (pc := 18) f_224_18 rfl rfl rfl ?_
    refine G_ic (v := nI 1) (pc := 19) f_224_19 (by decide) ?_
    refine G_jneZ (pc := 20) f_224_20 rfl (by first | exact nI_toInt (by omega) | exact zI_toInt (by omega) (by omega) | rfl) (by first | exact nI_toInt (by omega) | exact zI_toInt (by omega) (by omega) | rfl) (fun b2 => ?_) (fun b2 => ?_)
    · refine G_ic (v := zI (-1)) (pc := 32) f_224_32 (by decide) ?_
      refine G_ri (pc := 33) f_224_33 ?_
      first
        | exact ⟨by rw [if_pos (by omega)], mQ.cod⟩
        | exact ⟨by rw [if_neg (by omega), if_pos (by omega)], mQ.cod⟩
        | exact ⟨by rw [if_neg (by omega), if_neg (by omega)], mQ.cod⟩
    · refine G_S (pc := 23) f_224_23 rfl rfl rfl ?_
      refine G_gR (pc := 24) f_224_24 (by decide) rfl (by first | assumption | exact hK.1 _ _ rfl) (by first | assumption | exact hK.2 _ _ _ rfl | (try dsimp only) <;> (repeat (first | exact up2_s | refine up2_o (by first | decide | omega) ?_)) <;> first | assumption | exact hK.2 _ _ _ rfl) ?_
      refine G_ic (v := nI 0) (pc := 27) f_224_27 (by decide) ?_
      refine G_iaN (pc := 28) f_224_28 (by first | assumption | exact hK.1 _ _ rfl) (by omega) (by omega) (by first | assumption | exact q1 _ (by omega) | exact q2 _ (by omega) | exact q3 _ (by omega) | exact q4 _ (by omega) | exact q5 _ (by omega) | exact vh _ (by omega) | exact (vr _ (by omega)).1 | exact (vr _ (by omega)).2 | exact vw _ (by omega) | exact vf _ (by omega) (by omega) | exact mI_s | ((refine mI_o (by first | decide | omega) ?_); (repeat (refine mI_o (by first | decide | omega) ?_)); first | exact mI_s | assumption | exact q1 _ (by omega) | exact q2 _ (by omega) | exact q3 _ (by omega) | exact q4 _ (by omega) | exact q5 _ (by omega) | exact vh _ (by omega) | exact (vr _ (by omega)).1 | exact (vr _ (by omega)).2 | exact vw _ (by omega) | exact vf _ (by omega) (by omega)) | rfl) ?_
      refine G_S (pc := 29) f_224_29 rfl rfl rfl ?_
      refine G_ri (pc := 33) f_224_33 ?_
      first
        | exact ⟨by rw [if_pos (by omega)], mQ.cod⟩
        | exact ⟨by rw [if_neg (by omega), if_pos (by omega)], mQ.cod⟩
        | exact ⟨by rw [if_neg (by omega), if_neg (by omega)], mQ.cod⟩
  · refine G_S (pc := 9) f_224_9 rfl rfl rfl ?_
    refine G_gR (pc := 10) f_224_10 (by decide) rfl (by first | assumption | exact hK.1 _ _ rfl) (by first | assumption | exact hK.2 _ _ _ rfl | (try dsimp only) <;> (repeat (first | exact up2_s | refine up2_o (by first | decide | omega) ?_)) <;> first | assumption | exact hK.2 _ _ _ rfl) ?_
    refine G_ic (v := nI 0) (pc := 13) f_224_13 (by decide) ?_
    refine G_iaN (pc := 14) f_224_14 (by first | assumption | exact hK.1 _ _ rfl) (by omega) (by omega) (by first | assumption | exact q1 _ (by omega) | exact q2 _ (by omega) | exact q3 _ (by omega) | exact q4 _ (by omega) | exact q5 _ (by omega) | exact vh _ (by omega) | exact (vr _ (by omega)).1 | exact (vr _ (by omega)).2 | exact vw _ (by omega) | exact vf _ (by omega) (by omega) | exact mI_s | ((refine mI_o (by first | decide | omega) ?_); (repeat (refine mI_o (by first | decide | omega) ?_)); first | exact mI_s | assumption | exact q1 _ (by omega) | exact q2 _ (by omega) | exact q3 _ (by omega) | exact q4 _ (by omega) | exact q5 _ (by omega) | exact vh _ (by omega) | exact (vr _ (by omega)).1 | exact (vr _ (by omega)).2 | exact vw _ (by omega) | exact vf _ (by omega) (by omega)) | rfl) ?_
    refine G_S (pc := 15) f_224_15 rfl rfl rfl ?_
    refine G_ri (pc := 33) f_224_33 ?_
    first
      | exact ⟨by rw [if_pos (by omega)], mQ.cod⟩
      | exact ⟨by rw [if_neg (by omega), if_pos (by omega)], mQ.cod⟩
      | exact ⟨by rw [if_neg (by omega), if_neg (by omega)], mQ.cod⟩
theorem nI_tt (h : 0 ≤ x.toInt) : ∃ n : Nat, x = nI n ∧ x.toInt = (n : Int) ∧ n < 2 ^ 31 := by
  have h2 := Int32.toInt_lt x
  refine ⟨x.toInt.toNat, ?_, by omega, by omega⟩
  apply Int32.toInt_inj.mp
  rw [nI_toInt (by omega)]
  omega
def aCnt (s : Sg) (x : Int32) : Int32 := if 0 ≤ x.toInt ∧ x.toInt ≤ 3 then nI (s.ct x.toInt.toNat) else zI (-2)
theorem m_count (hK : KM M.1 M.2.2.2) (h : MSl M 0 s) : CG C 319 [.ref 98, .int x] M (fun w M' => w = some (.int (aCnt s x)) ∧ mQ M M') := by
  unfold aCnt
  by_cases x0 : 0 ≤ x.toInt ∧ x.toInt ≤ 3
  · rw [if_pos x0]
    obtain ⟨n, rfl, e, -⟩ := nI_tt x0.1
    rw [e, Int.toNat_natCast]
    have hn : n ≤ 3 := by omega
    have hc := h.2.2.1 n (by omega)
    rw [Nat.mul_zero, Nat.zero_add] at hc
    refine CG_in (mL := 2) (hl := false) (lv := [some (.ref 98), some (.int (nI n))]) (ll := []) rfl rfl rfl ?_
    refine G_S (pc := 0) f_319_0 rfl rfl rfl ?_
    refine G_ic (v := nI 0) (pc := 1) f_319_1 (by decide) ?_
    refine G_pI (pc := 2) f_319_2 rfl (by first | assumption | exact hK.1 _ _ rfl) ?_
    refine G_S (pc := 5) f_319_5 rfl rfl rfl ?_
    refine G_ic (v := nI 0) (pc := 6) f_319_6 (by decide) ?_
    refine G_ic (v := nI 3) (pc := 7) f_319_7 (by decide) ?_
    refine G_CS (pc := 8) f_319_8 rfl rfl (by decide) rfl rfl ⟨Nat.le_of_ble_eq_true rfl, Nat.le_of_ble_eq_true rfl⟩ ?_
    refine CG.go (m_inZ (by first | exact nI_toInt (by omega) | exact zI_toInt (by omega) (by omega) | rfl) (by first | exact nI_toInt (by omega) | exact zI_toInt (by omega) (by omega) | rfl) (by first | exact nI_toInt (by omega) | exact zI_toInt (by omega) (by omega) | rfl)) ?_
    first | refine G_bEq (pc := 11) f_319_11 rfl (fun b1 => ?_) (fun b1 => ?_) | refine G_zeqZ (pc := 11) f_319_11 rfl (by first | exact nI_toInt (by omega) | exact zI_toInt (by omega) (by omega) | rfl) (fun b1 => ?_) (fun b1 => ?_)
    · exfalso; omega
    · refine G_S (pc := 14) f_319_14 rfl rfl rfl ?_
      refine G_gR (pc := 15) f_319_15 (by decide) rfl (by first | assumption | exact hK.1 _ _ rfl) (by first | assumption | exact hK.2 _ _ _ rfl | (try dsimp only) <;> (repeat (first | exact up2_s | refine up2_o (by first | decide | omega) ?_)) <;> first | assumption | exact hK.2 _ _ _ rfl) ?_
      refine G_S (pc := 18) f_319_18 rfl rfl rfl ?_
      refine G_iaN (pc := 19) f_319_19 (by first | assumption | exact hK.1 _ _ rfl) (by omega) (by omega) (by first | exact (mI_o (by omega) hc) | rfl) ?_
      refine G_S (pc := 20) f_319_20 rfl rfl rfl ?_
      refine G_ri (pc := 25) f_319_25 ?_
      exact ⟨rfl, mQ.cod⟩
  · rw [if_neg x0]
    refine CG_in (mL := 2) (hl := false) (lv := [some (.ref 98), some (.int x)]) (ll := []) rfl rfl rfl ?_
    refine G_S (pc := 0) f_319_0 rfl rfl rfl ?_
    refine G_ic (v := nI 0) (pc := 1) f_319_1 (by decide) ?_
    refine G_pI (pc := 2) f_319_2 rfl (by first | assumption | exact hK.1 _ _ rfl) ?_
    refine G_S (pc := 5) f_319_5 rfl rfl rfl ?_
    refine G_ic (v := nI 0) (pc := 6) f_319_6 (by decide) ?_
    refine G_ic (v := nI 3) (pc := 7) f_319_7 (by decide) ?_
    refine G_CS (pc := 8) f_319_8 rfl rfl (by decide) rfl rfl ⟨Nat.le_of_ble_eq_true rfl, Nat.le_of_ble_eq_true rfl⟩ ?_
    refine CG.go (m_inZ (by first | exact nI_toInt (by omega) | exact zI_toInt (by omega) (by omega) | rfl) (by first | exact nI_toInt (by omega) | exact zI_toInt (by omega) (by omega) | rfl) (by first | exact nI_toInt (by omega) | exact zI_toInt (by omega) (by omega) | rfl)) ?_
    first | refine G_bEq (pc := 11) f_319_11 rfl (fun b1 => ?_) (fun b1 => ?_) | refine G_zeqZ (pc := 11) f_319_11 rfl (by first | exact nI_toInt (by omega) | exact zI_toInt (by omega) (by omega) | rfl) (fun b1 => ?_) (fun b1 => ?_)
    · refine G_bi (v := zI (-2)) (pc := 23) f_319_23 (by decide) ?_
      refine G_ri (pc := 25) f_319_25 ?_
      exact ⟨rfl, mQ.cod⟩
    · exfalso; omega
end MFE
