/-! the reference's small functions -/
section SM
variable {C : Ct} {M : Mm}
/-- in(v, low, high) -/
theorem m_in {v a b : Int32} : CG C 189 [.int v, .int a, .int b] M (fun w M' => w = some (.int (b2i (a ≤ v ∧ v ≤ b))) ∧ M' = M) := by
  refine CG_in (mL := 3) (hl := false) (lv := [some (.int v), some (.int a), some (.int b)]) (ll := []) rfl rfl rfl ?_
  refine G_S (pc := 0) f_189_0 rfl rfl rfl ?_
  refine G_S (pc := 1) f_189_1 rfl rfl rfl ?_
  refine G_jlt (pc := 2) f_189_2 rfl (fun h2 => ?_) (fun h2 => ?_)
  · have hb : b2i (a ≤ v ∧ v ≤ b) = 0 := b2i_neg (by first | exact fun q => Int32.not_le.mpr h2 q.1 | exact fun q => Int32.not_le.mpr h7 q.2)
    refine G_ic (v := 0) (pc := 14) f_189_14 rfl ?_
    exact G_rz (pc := 15) f_189_15 (Or.inl rfl) ⟨by rw [hb], rfl⟩
  · refine G_S (pc := 5) f_189_5 rfl rfl rfl ?_
    refine G_S (pc := 6) f_189_6 rfl rfl rfl ?_
    refine G_jgt (pc := 7) f_189_7 rfl (fun h7 => ?_) (fun h7 => ?_)
    · have hb : b2i (a ≤ v ∧ v ≤ b) = 0 := b2i_neg (by first | exact fun q => Int32.not_le.mpr h2 q.1 | exact fun q => Int32.not_le.mpr h7 q.2)
      refine G_ic (v := 0) (pc := 14) f_189_14 rfl ?_
      exact G_rz (pc := 15) f_189_15 (Or.inl rfl) ⟨by rw [hb], rfl⟩
    · refine G_ic (v := 1) (pc := 10) f_189_10 rfl ?_
      refine G_S (pc := 11) f_189_11 rfl rfl rfl ?_
      exact G_rz (pc := 15) f_189_15 (by first | exact Or.inl rfl | exact Or.inr rfl | exact b2i_01 _) ⟨by rw [b2i_pos ⟨Int32.not_lt.mp h2, Int32.not_lt.mp h7⟩], rfl⟩
/-- has(set, k) -/
theorem m_has {v k : Int32} : CG C 190 [.int v, .int k] M (fun w M' => w = some (.int (b2i (v >>> (k &&& 31) &&& 1 = 1))) ∧ M' = M) := by
  refine CG_in (mL := 2) (hl := false) (lv := [some (.int v), some (.int k)]) (ll := []) rfl rfl rfl ?_
  refine G_S (pc := 0) f_190_0 rfl rfl rfl ?_
  refine G_S (pc := 1) f_190_1 rfl rfl rfl ?_
  refine G_S (pc := 2) f_190_2 rfl rfl rfl ?_
  refine G_ic (v := 1) (pc := 3) f_190_3 rfl ?_
  refine G_S (pc := 4) f_190_4 rfl rfl rfl ?_
  refine G_ic (v := 1) (pc := 5) f_190_5 rfl ?_
  refine G_jne (pc := 6) f_190_6 rfl (fun h6 => ?_) (fun h6 => ?_)
  · refine G_ic (v := 0) (pc := 13) f_190_13 rfl ?_
    exact G_rz (pc := 14) f_190_14 (Or.inl rfl) ⟨by rw [b2i_neg h6], rfl⟩
  · refine G_ic (v := 1) (pc := 9) f_190_9 rfl ?_
    refine G_S (pc := 10) f_190_10 rfl rfl rfl ?_
    exact G_rz (pc := 14) f_190_14 (by first | exact Or.inl rfl | exact Or.inr rfl | exact b2i_01 _) ⟨by rw [b2i_pos h6], rfl⟩
/-- greater(a, b) -/
theorem m_greater {a b : Int32} : CG C 191 [.int a, .int b] M (fun w M' => w = some (.int (if a ≤ b then b else a)) ∧ M' = M) := by
  refine CG_in (mL := 2) (hl := false) (lv := [some (.int a), some (.int b)]) (ll := []) rfl rfl rfl ?_
  refine G_S (pc := 0) f_191_0 rfl rfl rfl ?_
  refine G_S (pc := 1) f_191_1 rfl rfl rfl ?_
  refine G_jle (pc := 2) f_191_2 rfl (fun h2 => ?_) (fun h2 => ?_)
  · refine G_S (pc := 9) f_191_9 rfl rfl rfl ?_
    exact G_ri (pc := 10) f_191_10 ⟨by rw [if_pos h2], rfl⟩
  · refine G_S (pc := 5) f_191_5 rfl rfl rfl ?_
    refine G_S (pc := 6) f_191_6 rfl rfl rfl ?_
    exact G_ri (pc := 10) f_191_10 ⟨by rw [if_neg h2], rfl⟩
/-- the first n sums of f -/
def sm (f : Nat → Int32) : Nat → Int32
  | 0 => 0
  | n + 1 => sm f n + f n
def bit (set : Int32) (k : Nat) : Prop := set >>> (nI k &&& 31) &&& 1 = 1
theorem ones_loop {set : Int32} : ∀ (d i : Nat), i + d = 8 → G C 193 (4, [some (.int set), some (.int (sm (fun k => b2i (set >>> (nI k &&& 31) &&& 1 = 1)) i)), some (.int (nI i))], [], [], M) (fun w M' => w = some (.int (sm (fun k => b2i (set >>> (nI k &&& 31) &&& 1 = 1)) 8)) ∧ M' = M) := by
  intro d
  induction d with
  | zero =>
    intro i hi
    have hi : i = 8 := by omega
    subst hi
    refine G_S (pc := 4) f_193_4 rfl rfl rfl ?_
    refine G_bi (v := 8) (pc := 5) f_193_5 (by decide) ?_
    refine G_jge (pc := 7) f_193_7 rfl (fun h7 => ?_) (fun h7 => ?_)
    · refine G_S (pc := 32) f_193_32 rfl rfl rfl ?_
      exact G_ri (pc := 33) f_193_33 ⟨rfl, rfl⟩
    · exact absurd (show (8 : Int32) ≤ nI 8 from by decide) h7
  | succ d ih =>
    intro i hi
    refine G_S (pc := 4) f_193_4 rfl rfl rfl ?_
    refine G_bi (v := 8) (pc := 5) f_193_5 (by decide) ?_
    refine G_jge (pc := 7) f_193_7 rfl (fun h7 => ?_) (fun h7 => ?_)
    · exact absurd h7 (nI_ge (a := i) (b := 8) (by omega) (by decide))
    · refine G_S (pc := 10) f_193_10 rfl rfl rfl ?_
      refine G_S (pc := 11) f_193_11 rfl rfl rfl ?_
      refine G_S (pc := 12) f_193_12 rfl rfl rfl ?_
      refine G_CS (pc := 13) f_193_13 rfl rfl (by decide) rfl rfl ⟨Nat.le_of_ble_eq_true rfl, Nat.le_of_ble_eq_true rfl⟩ ?_
      refine CG.go (m_has) ?_
      first | refine G_bEq (pc := 16) f_193_16 rfl (fun h16 => ?_) (fun h16 => ?_) | refine G_zeq (pc := 16) f_193_16 rfl (fun h16 => ?_) (fun h16 => ?_)
      · refine G_ic (v := 0) (pc := 23) f_193_23 rfl ?_
        refine G_S (pc := 24) f_193_24 rfl rfl rfl ?_
        refine G_S (pc := 25) f_193_25 rfl rfl rfl ?_
        refine G_inc1 (pc := 26) f_193_26 rfl ?_
        refine G_S (pc := 29) f_193_29 rfl rfl rfl ?_
        have e := ih (i + 1) (by omega)
        rw [sm, b2i_neg h16] at e
        exact e
      · refine G_ic (v := 1) (pc := 19) f_193_19 rfl ?_
        refine G_S (pc := 20) f_193_20 rfl rfl rfl ?_
        refine G_S (pc := 24) f_193_24 rfl rfl rfl ?_
        refine G_S (pc := 25) f_193_25 rfl rfl rfl ?_
        first | refine G_inc1 (pc := 26) f_193_26 rfl ?_ | refine G_S (pc := 26) f_193_26 rfl rfl rfl ?_
        refine G_S (pc := 29) f_193_29 rfl rfl rfl ?_
        have e := ih (i + 1) (by omega)
        rw [sm, b2i_pos h16] at e
        exact e
/-- ones(set) -/
theorem m_ones {set : Int32} : CG C 193 [.int set] M (fun w M' => w = some (.int (sm (fun k => b2i (set >>> (nI k &&& 31) &&& 1 = 1)) 8)) ∧ M' = M) := by
  refine CG_in (mL := 3) (hl := false) (lv := [some (.int set), none, none]) (ll := []) rfl rfl rfl ?_
  refine G_ic (v := 0) (pc := 0) f_193_0 rfl ?_
  refine G_S (pc := 1) f_193_1 rfl rfl rfl ?_
  refine G_ic (v := 0) (pc := 2) f_193_2 rfl ?_
  refine G_S (pc := 3) f_193_3 rfl rfl rfl ?_
  exact ones_loop 8 0 rfl
end SM
