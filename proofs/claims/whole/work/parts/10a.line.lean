/-! the class: a line's object h holds the numbers D -/
def LnT (M : Mm) (h : Nat) : Prop := (M.1[h]? = some (4, 9) ∧ M.1[h + 1]? = some (50, 8) ∧ M.1[h + 2]? = some (50, 8) ∧ M.1[h + 3]? = some (50, 8) ∧ M.1[h + 4]? = some (50, 4) ∧ M.1[h + 5]? = some (50, 9) ∧ M.1[h + 6]? = some (50, 9)) ∧
  M.2.2.2 h 0 = some (h + 1) ∧ M.2.2.2 h 3 = some (h + 2) ∧ M.2.2.2 h 4 = some (h + 3) ∧ M.2.2.2 h 6 = some (h + 4) ∧ M.2.2.2 h 7 = some (h + 5) ∧ M.2.2.2 h 8 = some (h + 6)
def LnV (M : Mm) (h : Nat) (D : Nat → Nat) : Prop := DOK D ∧ (M.2.1 h 1 = nI (D 0) ∧ M.2.1 h 2 = nI (D 1) ∧ M.2.1 h 5 = nI (D 2)) ∧ (∀ k, k < D 0 → M.2.1 (h + 1) k = nI (D (3 + k))) ∧ (∀ r, r < D 2 → M.2.1 (h + 2) r = nI (D (11 + r)) ∧ M.2.1 (h + 3) r = nI (D (19 + r))) ∧ (∀ k, k < 4 → M.2.1 (h + 4) k = nI (D (27 + k))) ∧ ∀ n, 1 ≤ n → n ≤ 8 → M.2.1 (h + 5) n = nI (D (30 + n))
section CL
variable {C : Ct} {M : Mm} {h : Nat} {D : Nat → Nat}
/-- Line.pullOf(rider, ounces) -/
theorem c_pullOf {i x : Nat} (hT : LnT M h) (hV : LnV M h D) (hi : i < D 2) (hx : x < 256) : CG C 60 [.ref h, .int (nI i), .int (nI x)] M (fun w M' => w = some (.int (nI (pl (D (11 + i)) x))) ∧ M' = M) := by
  refine CG_in (mL := 3) (hl := false) (lv := [some (.ref h), some (.int (nI i)), some (.int (nI x))]) (ll := []) rfl rfl rfl ?_
  obtain ⟨⟨t0, t1, t2, t3, t4, t5, t6⟩, r0, r3, r4, r6, r7, r8⟩ := hT
  have hnr : D 2 ≤ 8 := hV.1.2.2.1
  have hk : D (11 + i) ≤ 3 := hV.1.2.2.2.2.1 i (by omega)
  have e : (nI i).toNatClampNeg = i := nI_clamp (by omega)
  have ek := (hV.2.2.2.1 i hi).1
  refine G_S (pc := 0) f_60_0 rfl rfl rfl ?_
  refine G_gR (pc := 1) f_60_1 (by decide) rfl (by first | assumption | exact hK.1 _ _ rfl) (by first | assumption | exact hK.2 _ _ _ rfl) ?_
  refine G_S (pc := 4) f_60_4 rfl rfl rfl ?_
  refine G_ia (pc := 5) f_60_5 (by first | assumption | exact hK.1 _ _ rfl) (by first | assumption | exact inn_nI (by omega) (by omega)) ?_
  rw [e, ek]
  generalize D (11 + i) = kd at hk ⊢
  rcases (show kd = 0 ∨ kd = 1 ∨ kd = 2 ∨ kd = 3 by omega) with rfl | rfl | rfl | rfl
  · refine G_S (pc := 6) f_60_6 rfl rfl rfl ?_
    refine G_S (pc := 32) f_60_32 rfl rfl rfl ?_
    exact G_ri (pc := 33) f_60_33 ⟨rfl, rfl⟩
  · refine G_S (pc := 6) f_60_6 rfl rfl rfl ?_
    refine G_ic (v := 2) (pc := 34) f_60_34 rfl ?_
    refine G_S (pc := 35) f_60_35 rfl rfl rfl ?_
    refine G_S (pc := 36) f_60_36 rfl rfl rfl ?_
    exact G_ri (pc := 37) f_60_37 ⟨congrArg (fun z => some (Value.int z)) (g_mul 2 x), rfl⟩
  · refine G_S (pc := 6) f_60_6 rfl rfl rfl ?_
    refine G_S (pc := 38) f_60_38 rfl rfl rfl ?_
    refine G_ic (v := 2) (pc := 39) f_60_39 rfl ?_
    refine G_div (pc := 40) f_60_40 (by decide) ?_
    exact G_ri (pc := 41) f_60_41 ⟨congrArg (fun z => some (Value.int z)) (half_at x hx), rfl⟩
  · refine G_S (pc := 6) f_60_6 rfl rfl rfl ?_
    refine G_ic (v := 0) (pc := 42) f_60_42 rfl ?_
    exact G_ri (pc := 43) f_60_43 ⟨rfl, rfl⟩
/-- Line.wornOf(rider, ounces) -/
theorem c_wornOf {i x : Nat} (hT : LnT M h) (hV : LnV M h D) (hi : i < D 2) (hx : x < 256) : CG C 61 [.ref h, .int (nI i), .int (nI x)] M (fun w M' => w = some (.int (nI (x - D (27 + D (11 + i))))) ∧ M' = M) := by
  refine CG_in (mL := 4) (hl := false) (lv := [some (.ref h), some (.int (nI i)), some (.int (nI x)), none]) (ll := []) rfl rfl rfl ?_
  obtain ⟨⟨t0, t1, t2, t3, t4, t5, t6⟩, r0, r3, r4, r6, r7, r8⟩ := hT
  have hnr : D 2 ≤ 8 := hV.1.2.2.1
  have hk : D (11 + i) ≤ 3 := hV.1.2.2.2.2.1 i (by omega)
  have hw : D (27 + D (11 + i)) ≤ 9 := hV.1.2.2.2.2.2.2.1 _ (by omega)
  have e : (nI i).toNatClampNeg = i := nI_clamp (by omega)
  have ek := (hV.2.2.2.1 i hi).1
  have e3 : (nI (D (11 + i))).toNatClampNeg = D (11 + i) := nI_clamp (by omega)
  have ew := hV.2.2.2.2.1 (D (11 + i)) (by omega)
  refine G_S (pc := 0) f_61_0 rfl rfl rfl ?_
  refine G_gR (pc := 1) f_61_1 (by decide) rfl (by first | assumption | exact hK.1 _ _ rfl) (by first | assumption | exact hK.2 _ _ _ rfl) ?_
  refine G_S (pc := 4) f_61_4 rfl rfl rfl ?_
  refine G_gR (pc := 5) f_61_5 (by decide) rfl (by first | assumption | exact hK.1 _ _ rfl) (by first | assumption | exact hK.2 _ _ _ rfl) ?_
  refine G_S (pc := 8) f_61_8 rfl rfl rfl ?_
  refine G_ia (pc := 9) f_61_9 (by first | assumption | exact hK.1 _ _ rfl) (by first | assumption | exact inn_nI (by omega) (by omega)) ?_
  rw [e, ek]
  refine G_ia (pc := 10) f_61_10 (by first | assumption | exact hK.1 _ _ rfl) (by first | assumption | exact inn_nI (by omega) (by omega)) ?_
  rw [e3, ew]
  refine G_S (pc := 11) f_61_11 rfl rfl rfl ?_
  refine G_S (pc := 12) f_61_12 rfl rfl rfl ?_
  refine G_S (pc := 13) f_61_13 rfl rfl rfl ?_
  refine G_jle (pc := 14) f_61_14 rfl (fun h14 => ?_) (fun h14 => ?_)
  · have hle : x ≤ D (27 + D (11 + i)) := by
      rcases Nat.lt_or_ge (D (27 + D (11 + i))) x with q | q
      · exact absurd h14 (nI_ge q (by omega))
      · exact q
    refine G_ic (v := 0) (pc := 23) f_61_23 rfl ?_
    exact G_ri (pc := 24) f_61_24 ⟨by rw [show x - D (27 + D (11 + i)) = 0 by omega]; rfl, rfl⟩
  · refine G_S (pc := 17) f_61_17 rfl rfl rfl ?_
    refine G_S (pc := 18) f_61_18 rfl rfl rfl ?_
    refine G_S (pc := 19) f_61_19 rfl rfl rfl ?_
    refine G_S (pc := 20) f_61_20 rfl rfl rfl ?_
    exact G_ri (pc := 24) f_61_24 ⟨by rw [pk_sub (show D (27 + D (11 + i)) ≤ x from by rcases Nat.lt_or_ge x (D (27 + D (11 + i))) with q | q; exact absurd (nI_le (Nat.le_of_lt q) (by omega)) h14; exact q)], rfl⟩
end CL
