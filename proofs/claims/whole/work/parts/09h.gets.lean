/-! the reference: a line taken to hand, who gets up -/
def RowD (M : Mm) (l : Nat) (D : Nat → Nat) : Prop := l < 8 ∧ DOK D ∧ ∀ j, j < 39 → M.2.1 104 (39 * l + j) = nI (D j)
theorem RowD.fo {os : List Nat} {M M' : Mm} {l : Nat} {D : Nat → Nat} (h : Fo os M M') (hH : RowD M l D) (h2 : 104 ∉ os) : RowD M' l D := by
  unfold RowD
  rw [(h.2 104 h2).1]
  exact hH
theorem HA.row {M : Mm} {l : Nat} {D : Nat → Nat} (h : HA M l D) : RowD M l D := h.2
section RG
variable {C : Ct} {M : Mm} {l S : Nat} {D b : Nat → Nat}
/-- hand(k), there is such a line -/
theorem m_handD {n : Nat} (hK : KM M.1 M.2.2.2) (hn : M.2.1 103 0 = nI n) (hn2 : n ≤ 2) (hl : l < n) (hD : RowD M l D) : CG C 226 [.ref 98, .int (nI l)] M (fun w M' => w = some (.int 1) ∧ Fo [98] M M' ∧ HA M' l D) := by
  have hk : 0 ≤ nI l ∧ nI l ≤ M.2.1 103 0 - 1 := by
    rw [hn, g_sub1 (by omega)]
    exact ⟨nI_pos' (by omega), nI_le (by omega) (by omega)⟩
  refine CG.mono (m_hand1 hK hk hD.1) ?_
  rintro w M' ⟨rfl, rfl⟩
  have e0 := hD.2.2 0 (by decide)
  have e1 := hD.2.2 1 (by decide)
  have e2 := hD.2.2 2 (by decide)
  refine ⟨rfl, ⟨⟨rfl, rfl⟩, fun i hi => ⟨?_, rfl⟩⟩, ⟨?_, ?_, ?_, ?_⟩, hD.1, hD.2.1, ?_⟩
  · have h98 : i ≠ 98 := fun q => hi (by rw [q]; exact List.mem_singleton.mpr rfl)
    show up2 (up2 (up2 (up2 M.2.1 98 23 _) 98 24 _) 98 25 _) 98 26 _ i = _
    rw [up2_ne h98, up2_ne h98, up2_ne h98, up2_ne h98]
  · simp [up2]
  · simp [up2]
    exact e0
  · simp [up2]
    exact e1
  · simp [up2]
    exact e2
  · intro j hj
    simp [up2]
    exact hD.2.2 j hj
/-- getsUp(set, more) -/
def gup (D : Nat → Nat) (S : Nat) (m : Int) : Prop := pc8 S ≤ D 1 ∧ (cmF D S (D 0) 0 (layN D m)).1 = D 0
theorem m_getsUp {x : Int32} (hK : KM M.1 M.2.2.2) (hH : HA M l D) (hS : S < 256) (hx1 : -100 ≤ x.toInt) (hx2 : x.toInt ≤ 100) : CG C 258 [.ref 98, .int (nI S), .int x] M (fun w M' => (∃ v : Int32, w = some (.int v) ∧ (v = 0 ∨ v = 1) ∧ (v = 1 ↔ gup D S x.toInt)) ∧ Fo [110] M M') := by
  refine CG_in (mL := 3) (hl := false) (lv := [some (.ref 98), some (.int (nI S)), some (.int x)]) (ll := []) rfl rfl rfl ?_
  have hnh : D 0 ≤ 8 := hH.2.2.1.1
  refine G_S (pc := 0) f_258_0 rfl rfl rfl ?_
  refine G_S (pc := 1) f_258_1 rfl rfl rfl ?_
  refine G_CV (pc := 2) f_258_2 rfl rfl (by decide) rfl rfl (by first | assumption | exact hK.1 _ _ rfl) (by decide) ⟨Nat.le_of_ble_eq_true rfl, Nat.le_of_ble_eq_true rfl⟩ ?_
  refine CG.mono (m_laySet hK hH hx1 hx2) ?_
  rintro _ M2 ⟨rfl, hF, hb⟩
  have hK := hF.K hK
  have hH := hH.fo hF (by decide) (by decide)
  refine G_S (pc := 5) f_258_5 rfl rfl rfl ?_
  refine G_S (pc := 6) f_258_6 rfl rfl rfl ?_
  refine G_CV (pc := 7) f_258_7 rfl rfl (by decide) rfl rfl (by first | assumption | exact hK.1 _ _ rfl) (by decide) ⟨Nat.le_of_ble_eq_true rfl, Nat.le_of_ble_eq_true rfl⟩ ?_
  refine CG.go (m_isSeated hK hH hS) ?_
  first | refine G_bEq (pc := 10) f_258_10 rfl (fun h10 => ?_) (fun h10 => ?_) | refine G_zeq (pc := 10) f_258_10 rfl (fun h10 => ?_) (fun h10 => ?_)
  · first
      | exact G_ic (v := 0) (pc := 30) f_258_30 rfl (G_rz (pc := 31) f_258_31 (Or.inl rfl) ⟨⟨0, rfl, Or.inl rfl, ⟨fun q => absurd q (by decide), fun q => absurd (congrArg nI q.2) h23⟩⟩, hF.tr hF2⟩)
      | exact G_ic (v := 0) (pc := 30) f_258_30 rfl (G_rz (pc := 31) f_258_31 (Or.inl rfl) ⟨⟨0, rfl, Or.inl rfl, ⟨fun q => absurd q (by decide), fun q => absurd q.1 h10⟩⟩, hF⟩)
  · refine G_S (pc := 13) f_258_13 rfl rfl rfl ?_
    refine G_S (pc := 14) f_258_14 rfl rfl rfl ?_
    refine G_ic (v := 0) (pc := 15) f_258_15 rfl ?_
    refine G_CV (pc := 16) f_258_16 rfl rfl (by decide) rfl rfl (by first | assumption | exact hK.1 _ _ rfl) (by decide) ⟨Nat.le_of_ble_eq_true rfl, Nat.le_of_ble_eq_true rfl⟩ ?_
    refine CG.mono (m_comes (k := 0) (b := layN D x.toInt) hK hH hS (fun r hr => ⟨hb r hr, by have := layN_le D x.toInt r; omega⟩) (Nat.zero_le _)) ?_
    rintro _ M16 ⟨rfl, hF2, hb2⟩
    have hK := hF2.K hK
    have hH := hH.fo hF2 (by decide) (by decide)
    have hle := (cmF_le D S (D 0) 0 (layN D x.toInt)).2.1
    rw [Nat.sub_zero]
    refine G_S (pc := 19) f_258_19 rfl rfl rfl ?_
    refine G_gI (pc := 20) f_258_20 (by decide) rfl (by decide) (by first | assumption | exact hK.1 _ _ rfl) ?_
    rw [hH.1.2.1]
    refine G_jne (pc := 23) f_258_23 rfl (fun h23 => ?_) (fun h23 => ?_)
    · first
        | exact G_ic (v := 0) (pc := 30) f_258_30 rfl (G_rz (pc := 31) f_258_31 (Or.inl rfl) ⟨⟨0, rfl, Or.inl rfl, ⟨fun q => absurd q (by decide), fun q => absurd (congrArg nI q.2) h23⟩⟩, hF.tr hF2⟩)
        | exact G_ic (v := 0) (pc := 30) f_258_30 rfl (G_rz (pc := 31) f_258_31 (Or.inl rfl) ⟨⟨0, rfl, Or.inl rfl, ⟨fun q => absurd q (by decide), fun q => absurd q.1 h10⟩⟩, hF⟩)
    · refine G_ic (v := 1) (pc := 26) f_258_26 rfl ?_
      refine G_S (pc := 27) f_258_27 rfl rfl rfl ?_
      exact G_rz (pc := 31) f_258_31 (by first | exact Or.inl rfl | exact Or.inr rfl | exact b2i_01 _) ⟨⟨1, rfl, Or.inr rfl, ⟨fun _ => ⟨h10, g_inj (by omega) (by omega) h23⟩, fun _ => rfl⟩⟩, hF.tr hF2⟩
end RG
