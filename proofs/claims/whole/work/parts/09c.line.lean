/-! the reference: a line at hand -/
section RL
variable {C : Ct} {M : Mm}
/-- lesser(a, b) -/
theorem m_lesser {a b : Int32} : CG C 192 [.int a, .int b] M (fun w M' => w = some (.int (if b ≤ a then b else a)) ∧ M' = M) := by
  refine CG_in (mL := 2) (hl := false) (lv := [some (.int a), some (.int b)]) (ll := []) rfl rfl rfl ?_
  refine G_S (pc := 0) f_192_0 rfl rfl rfl ?_
  refine G_S (pc := 1) f_192_1 rfl rfl rfl ?_
  refine G_jge (pc := 2) f_192_2 rfl (fun h2 => ?_) (fun h2 => ?_)
  · refine G_S (pc := 9) f_192_9 rfl rfl rfl ?_
    exact G_ri (pc := 10) f_192_10 ⟨by rw [if_pos h2], rfl⟩
  · refine G_S (pc := 5) f_192_5 rfl rfl rfl ?_
    refine G_S (pc := 6) f_192_6 rfl rfl rfl ?_
    exact G_ri (pc := 10) f_192_10 ⟨by rw [if_neg h2], rfl⟩
/-- of(at): the line's number at a place -/
theorem m_of {l a : Nat} (hK : KM M.1 M.2.2.2) (hl : M.2.1 98 23 = nI l) (hb : 39 * l + a < 312) : CG C 225 [.ref 98, .int (nI a)] M (fun w M' => w = some (.int (M.2.1 104 (39 * l + a))) ∧ M' = M) := by
  refine CG_in (mL := 2) (hl := false) (lv := [some (.ref 98), some (.int (nI a))]) (ll := []) rfl rfl rfl ?_
  have e : (39 : Int32) * M.2.1 98 23 + nI a = nI (39 * l + a) := by
    rw [hl, show (39 : Int32) = nI 39 from rfl, g_mul, g_add]
  refine G_S (pc := 0) f_225_0 rfl rfl rfl ?_
  refine G_gR (pc := 1) f_225_1 (by decide) rfl (by first | assumption | exact hK.1 _ _ rfl) (by first | assumption | exact hK.2 _ _ _ rfl) ?_
  refine G_bi (v := 39) (pc := 4) f_225_4 (by decide) ?_
  refine G_S (pc := 6) f_225_6 rfl rfl rfl ?_
  refine G_gI (pc := 7) f_225_7 (by decide) rfl (by decide) (by first | assumption | exact hK.1 _ _ rfl) ?_
  refine G_S (pc := 10) f_225_10 rfl rfl rfl ?_
  refine G_S (pc := 11) f_225_11 rfl rfl rfl ?_
  refine G_S (pc := 12) f_225_12 rfl rfl rfl ?_
  refine G_ia (pc := 13) f_225_13 (by first | assumption | exact hK.1 _ _ rfl) (inn_of e hb (by decide)) ?_
  exact G_ri (pc := 14) f_225_14 ⟨by rw [e, nI_clamp (by omega)], rfl⟩
/-- is(sort, k): there is such a text -/
theorem m_is {so : Nat} {k : Int32} (hK : KM M.1 M.2.2.2) (hs : so < 4) : CG C 196 [.ref 98, .int (nI so), .int k] M (fun w M' => w = some (.int (b2i (0 ≤ k ∧ k ≤ M.2.1 103 so - 1))) ∧ M' = M) := by
  refine CG_in (mL := 3) (hl := false) (lv := [some (.ref 98), some (.int (nI so)), some (.int k)]) (ll := []) rfl rfl rfl ?_
  have e : (nI so).toNatClampNeg = so := nI_clamp (by omega)
  refine G_S (pc := 0) f_196_0 rfl rfl rfl ?_
  refine G_ic (v := 0) (pc := 1) f_196_1 rfl ?_
  refine G_S (pc := 2) f_196_2 rfl rfl rfl ?_
  refine G_gR (pc := 3) f_196_3 (by decide) rfl (by first | assumption | exact hK.1 _ _ rfl) (by first | assumption | exact hK.2 _ _ _ rfl) ?_
  refine G_S (pc := 6) f_196_6 rfl rfl rfl ?_
  refine G_ia (pc := 7) f_196_7 (by first | assumption | exact hK.1 _ _ rfl) (by first | assumption | exact inn_nI (by omega) (by omega)) ?_
  refine G_ic (v := 1) (pc := 8) f_196_8 rfl ?_
  refine G_S (pc := 9) f_196_9 rfl rfl rfl ?_
  refine G_CS (pc := 10) f_196_10 rfl rfl (by decide) rfl rfl ⟨Nat.le_of_ble_eq_true rfl, Nat.le_of_ble_eq_true rfl⟩ ?_
  refine CG.go (m_in) ?_
  exact G_rz (pc := 13) f_196_13 (by first | exact Or.inl rfl | exact Or.inr rfl | exact b2i_01 _) ⟨by rw [e], rfl⟩
end RL
