/-! the program: image, again -/
theorem G_aa0 {C : Ct} {y pc len o : Nat} {lv : Lv} {ll : Ll} {st : List Value} {M : Mm} {Q : Option Value → Mm → Prop} {ret : Option FieldType} {kd r n i : Nat} (hf : fe y pc = some (.aaload, len, o, ret)) (hT : M.1[r]? = some (kd, n)) (hk : 54 ≤ kd ∧ kd ≤ 58) (hi : i < n) (hn : n < 2 ^ 31) (hR : M.2.2.2 r i = none) (K : G C y (pc + 1, lv, ll, .null :: st, M) Q) : G C y (pc, lv, ll, .int (nI i) :: .ref r :: st, M) Q := by
  refine G_aaN hf hT hk (inn_nI hi hn) ?_ K
  rw [nI_clamp (by omega), hR]
theorem G_nnJ {C : Ct} {y pc len o t a : Nat} {lv : Lv} {ll : Ll} {st : List Value} {M : Mm} {Q : Option Value → Mm → Prop} {ret : Option FieldType} {off : Int} (hf : fe y pc = some (.ifnonnull off, len, o, ret)) (ht : jmp pc off = some t) (ha : a < 1000000) (K : G C y (t, lv, ll, st, M) Q) : G C y (pc, lv, ll, .ref a :: st, M) Q := by
  refine G_S hf rfl rfl ?_ K
  simp only [stp, br, ht]
  rw [if_pos ha, if_pos trivial]
theorem R0_lt {i k a : Nat} (h : R0 i k = some a) : i < 131 ∧ i ≠ 52 := by
  have hall : (R0L.all fun q => decide (q.1 < 131 ∧ q.1 ≠ 52)) = true := by decide +kernel
  unfold R0 at h
  split at h
  · rename_i p q a' hf
    have h1 := List.mem_of_find?_eq_some hf
    have h2 := List.find?_some hf
    have h3 := of_decide_eq_true (List.all_eq_true.mp hall _ h1)
    simp only [Bool.and_eq_true, beq_iff_eq] at h2
    rw [← h2.1]
    exact h3
  · cases h
theorem KM.len {T : List (Nat × Nat)} {R : Nat → Nat → Option Nat} (hK : KM T R) : 131 ≤ T.length := by
  have h := hK.1 130 (52, 3) rfl
  exact (List.getElem?_eq_some_iff.mp h).1
theorem T0_lt {i : Nat} {q : Nat × Nat} (h : T0[i]? = some q) : i < 131 := (List.getElem?_eq_some_iff.mp h).1
theorem Bd.re {b : Nat} {M0 M M' : Mm} {T : List (Nat × Nat)} {R : List (Nat × Nat × Nat)} (h : Bd b M0 T R M) (e1 : M'.1 = M.1) (e2 : ∀ i, b ≤ i → M'.2.2.2 i = M.2.2.2 i) : Bd b M' T R M' := by
  obtain ⟨h1, h2, h3, h4⟩ := h
  refine ⟨by rw [e1]; exact h1, fun i hi => by rw [e1]; exact h2 i hi, fun q hq => by rw [e2 _ (Nat.le_add_right b q.1)]; exact h3 q hq, fun _ _ => ⟨rfl, rfl, rfl, rfl⟩⟩
theorem Bd.app {b : Nat} {M0 M : Mm} {T : List (Nat × Nat)} {R : List (Nat × Nat × Nat)} (h : Bd b M0 T R M) (hb : M0.1.length = b) : M.1 = M0.1 ++ T := by
  obtain ⟨h1, h2, _, h4⟩ := h
  refine List.ext_getElem? (fun i => ?_)
  by_cases q : i < b
  · rw [List.getElem?_append_left (by omega)]
    exact (h4 i q).1
  · by_cases z : i < b + T.length
    · rw [List.getElem?_append_right (by omega), hb]
      have e := h2 (i - b) (by omega)
      rwa [show b + (i - b) = i by omega] at e
    · rw [List.getElem?_eq_none (by omega), List.getElem?_eq_none (by rw [List.length_append]; omega)]
theorem u2_lt : ∀ i, i ∈ u2O → i < 131 := by decide
section CIM
variable {C : Ct} {M : Mm} {s : Sg} {j t : Nat} {k : Int32}
theorem c_imageN (hK : KM M.1 M.2.2.2) (hk : ¬ (0 ≤ k.toInt ∧ k.toInt ≤ 2)) : CG C 150 [.ref 0, .int k] M (fun w M' => w = some (.int 0) ∧ M' = M) := by
  by_cases h : 0 ≤ k.toInt
  · refine CG_in (mL := 2) (hl := false) (lv := [some (.ref 0), some (.int k)]) (ll := []) rfl rfl rfl ?_
    refine G_S (pc := 0) f_150_0 rfl rfl rfl ?_
    refine G_zltZ (pc := 1) f_150_1 rfl (by first | exact nI_toInt (by omega) | exact zI_toInt (by omega) (by omega) | rfl) (fun b1 => ?_) (fun b1 => ?_)
    · exfalso; omega
    · refine G_S (pc := 4) f_150_4 rfl rfl rfl ?_
      refine G_ic (v := nI 3) (pc := 5) f_150_5 (by decide) ?_
      refine G_jltZ (pc := 6) f_150_6 rfl (by first | exact nI_toInt (by omega) | exact zI_toInt (by omega) (by omega) | rfl) (by first | exact nI_toInt (by omega) | exact zI_toInt (by omega) (by omega) | rfl) (fun b2 => ?_) (fun b2 => ?_)
      · exfalso; omega
      · refine G_ic (v := nI 0) (pc := 9) f_150_9 (by decide) ?_
        refine G_rz (pc := 10) f_150_10 (by first | exact Or.inl rfl | exact Or.inr rfl | exact b2i_01 _ | assumption) ?_
        exact ⟨rfl, rfl⟩
  · refine CG_in (mL := 2) (hl := false) (lv := [some (.ref 0), some (.int k)]) (ll := []) rfl rfl rfl ?_
    refine G_S (pc := 0) f_150_0 rfl rfl rfl ?_
    refine G_zltZ (pc := 1) f_150_1 rfl (by first | exact nI_toInt (by omega) | exact zI_toInt (by omega) (by omega) | rfl) (fun b1 => ?_) (fun b1 => ?_)
    · refine G_ic (v := nI 0) (pc := 9) f_150_9 (by decide) ?_
      refine G_rz (pc := 10) f_150_10 (by first | exact Or.inl rfl | exact Or.inr rfl | exact b2i_01 _ | assumption) ?_
      exact ⟨rfl, rfl⟩
    · exfalso; omega
theorem c_imageO (hK : KM M.1 M.2.2.2) (h : CB M 1 s) (hs : SgOK s) (hj : j < 3) (hr : M.2.2.2 52 j = some t) (ht : 131 ≤ t ∧ t < 900000) (B : BT M t) : CG C 150 [.ref 0, .int (nI j)] M (fun w M' => w = some (.int 1) ∧ FoB t M M' ∧ CB M' t s) := by
  have B1 := BT_1 hK
  have hx := B.1.1
  refine CG_in (mL := 2) (hl := false) (lv := [some (.ref 0), some (.int (nI j))]) (ll := []) rfl rfl rfl ?_
  refine G_S (pc := 0) f_150_0 rfl rfl rfl ?_
  refine G_zltZ (pc := 1) f_150_1 rfl (by first | exact nI_toInt (by omega) | exact zI_toInt (by omega) (by omega) | rfl) (fun b1 => ?_) (fun b1 => ?_)
  · exfalso; omega
  · refine G_S (pc := 4) f_150_4 rfl rfl rfl ?_
    refine G_ic (v := nI 3) (pc := 5) f_150_5 (by decide) ?_
    refine G_jltZ (pc := 6) f_150_6 rfl (by first | exact nI_toInt (by omega) | exact zI_toInt (by omega) (by omega) | rfl) (by first | exact nI_toInt (by omega) | exact zI_toInt (by omega) (by omega) | rfl) (fun b2 => ?_) (fun b2 => ?_)
    · refine G_S (pc := 11) f_150_11 rfl rfl rfl ?_
      refine G_gR (pc := 12) f_150_12 (by decide) rfl (by first | assumption | exact hK.1 _ _ rfl) (by first | assumption | exact hK.2 _ _ _ rfl | (try dsimp only) <;> (repeat (first | exact up2_s | refine up2_o (by first | decide | omega) ?_)) <;> first | assumption | exact hK.2 _ _ _ rfl) ?_
      refine G_S (pc := 15) f_150_15 rfl rfl rfl ?_
      refine G_aaN2 (pc := 16) f_150_16 (by first | assumption | exact hK.1 _ _ rfl) (by decide) (by omega) (by omega) (by first | exact hr | assumption) ?_
      refine G_nnJ (pc := 17) f_150_17 rfl (by omega) ?_
      refine G_S (pc := 33) f_150_33 rfl rfl rfl ?_
      refine G_gR (pc := 34) f_150_34 (by decide) rfl (by first | assumption | exact hK.1 _ _ rfl) (by first | assumption | exact hK.2 _ _ _ rfl | (try dsimp only) <;> (repeat (first | exact up2_s | refine up2_o (by first | decide | omega) ?_)) <;> first | assumption | exact hK.2 _ _ _ rfl) ?_
      refine G_S (pc := 37) f_150_37 rfl rfl rfl ?_
      refine G_aaN2 (pc := 38) f_150_38 (by first | assumption | exact hK.1 _ _ rfl) (by decide) (by omega) (by omega) (by first | exact hr | assumption) ?_
      refine G_S (pc := 39) f_150_39 rfl rfl rfl ?_
      refine G_gR (pc := 40) f_150_40 (by decide) rfl (by first | assumption | exact hK.1 _ _ rfl) (by first | assumption | exact hK.2 _ _ _ rfl | (try dsimp only) <;> (repeat (first | exact up2_s | refine up2_o (by first | decide | omega) ?_)) <;> first | assumption | exact hK.2 _ _ _ rfl) ?_
      refine G_CV (pc := 43) f_150_43 rfl rfl (by decide) rfl rfl (by first | assumption | exact hK.1 _ _ rfl) (by decide) ⟨Nat.le_of_ble_eq_true rfl, Nat.le_of_ble_eq_true rfl⟩ ?_
      refine CG.mono (c_toldCopy B B1 (by omega) (by omega) h.2.2.2.2) ?_
      rintro _ M1 ⟨rfl, hF, hQ⟩
      refine G_ic (v := nI 1) (pc := 46) f_150_46 (by decide) ?_
      refine G_rz (pc := 47) f_150_47 (by first | exact Or.inl rfl | exact Or.inr rfl | exact b2i_01 _ | assumption) ?_
      exact ⟨rfl, hF, h.eq hs hQ⟩
    · exfalso; omega
/-- what a first image leaves -/
def INq (j : Nat) (s : Sg) (M M' : Mm) : Prop := M'.1 = M.1 ++ TTd ∧ (∀ i, i < M.1.length → M'.2.1 i = M.2.1 i ∧ M'.2.2.1 i = M.2.2.1 i) ∧ (∀ i k, i < M.1.length → ¬ (i = 52 ∧ k = j) → M'.2.2.2 i k = M.2.2.2 i k) ∧ M'.2.2.2 52 j = some M.1.length ∧ BT M' M.1.length ∧ CB M' M.1.length s
theorem c_imageF (hK : KM M.1 M.2.2.2) (h : CB M 1 s) (hs : SgOK s) (hj : j < 3) (hr : M.2.2.2 52 j = none) (hl : M.1.length < 800000) : CG C 150 [.ref 0, .int (nI j)] M (fun w M' => w = some (.int 1) ∧ INq j s M M') := by
  have h131 := hK.len
  refine CG_in (mL := 2) (hl := false) (lv := [some (.ref 0), some (.int (nI j))]) (ll := []) rfl rfl rfl ?_
  refine G_S (pc := 0) f_150_0 rfl rfl rfl ?_
  refine G_zltZ (pc := 1) f_150_1 rfl (by first | exact nI_toInt (by omega) | exact zI_toInt (by omega) (by omega) | rfl) (fun b1 => ?_) (fun b1 => ?_)
  · exfalso; omega
  · refine G_S (pc := 4) f_150_4 rfl rfl rfl ?_
    refine G_ic (v := nI 3) (pc := 5) f_150_5 (by decide) ?_
    refine G_jltZ (pc := 6) f_150_6 rfl (by first | exact nI_toInt (by omega) | exact zI_toInt (by omega) (by omega) | rfl) (by first | exact nI_toInt (by omega) | exact zI_toInt (by omega) (by omega) | rfl) (fun b2 => ?_) (fun b2 => ?_)
    · refine G_S (pc := 11) f_150_11 rfl rfl rfl ?_
      refine G_gR (pc := 12) f_150_12 (by decide) rfl (by first | assumption | exact hK.1 _ _ rfl) (by first | assumption | exact hK.2 _ _ _ rfl | (try dsimp only) <;> (repeat (first | exact up2_s | refine up2_o (by first | decide | omega) ?_)) <;> first | assumption | exact hK.2 _ _ _ rfl) ?_
      refine G_S (pc := 15) f_150_15 rfl rfl rfl ?_
      refine G_aa0 (pc := 16) f_150_16 (hK.1 52 _ rfl) (by decide) hj (by decide) hr ?_
      refine G_S (pc := 17) f_150_17 rfl rfl rfl ?_
      refine G_S (pc := 20) f_150_20 rfl rfl rfl ?_
      refine G_gR (pc := 21) f_150_21 (by decide) rfl (hK.1 0 _ rfl) (hK.2 0 1 _ rfl) ?_
      refine G_S (pc := 24) f_150_24 rfl rfl rfl ?_
      refine B_nn (m := 0) (n := 9) Bd.start (pc := 25) f_150_25 rfl (by decide) rfl rfl (by decide) (by omega) rfl (fun M0 hB => ?_)
      refine G_S (pc := 28) f_150_28 rfl rfl rfl ?_
      refine G_CI (pc := 29) f_150_29 rfl rfl (by decide) rfl rfl (by omega) ⟨Nat.le_of_ble_eq_true rfl, Nat.le_of_ble_eq_true rfl⟩ ?_
      refine CG.mono (c_tdNew hB (by omega)) ?_
      rintro _ M1 ⟨rfl, hB1⟩
      have hB : Bd M.1.length M TTd RTd M1 := hB1
      have eT : M1.1 = M.1 ++ TTd := hB.app rfl
      have g := hB.2.2.2
      refine G_as (pc := 32) (a := M.1.length) f_150_32 (show M1.1[52]? = some (58, 3) from (g 52 (by omega)).1.trans (hK.1 52 _ rfl)) (show M1.1[M.1.length]? = some (8, 9) from hB.ty (i := 0) rfl) ⟨by decide, rfl⟩ hj (by decide) ?_
      obtain ⟨M2, e2⟩ : ∃ M2 : Mm, M2 = (M1.1, M1.2.1, M1.2.2.1, up2 M1.2.2.2 52 j (some M.1.length)) := ⟨_, rfl⟩
      have q1 : M2.1 = M1.1 := by rw [e2]
      have q2 : M2.2.1 = M1.2.1 := by rw [e2]
      have q3 : M2.2.2.1 = M1.2.2.1 := by rw [e2]
      have q4 : ∀ i k, ¬ (i = 52 ∧ k = j) → M2.2.2.2 i k = M1.2.2.2 i k := fun i k z => by rw [e2]; exact up2_o z rfl
      have q5 : M2.2.2.2 52 j = some M.1.length := by rw [e2]; dsimp only; exact up2_s
      have q6 : ∀ i, i ≠ 52 → M2.2.2.2 i = M1.2.2.2 i := fun i z => by rw [e2]; exact up2_ne z
      rw [← e2]
      have hK2 : KM M2.1 M2.2.2.2 := ⟨fun i q z => by
        have := T0_lt z
        rw [q1, (g i (by omega)).1]
        exact hK.1 i q z, fun i k a z => by
        have := R0_lt z
        rw [q6 i this.2, (g i (by omega)).2.2.2]
        exact hK.2 i k a z⟩
      have hB2 := hB.re q1 (fun i z => q6 i (by omega))
      have B := BT_new hB2
      have hx := B.1.1
      have B1 := BT_1 hK2
      have hj2 : ∀ l, l < 2 → M2.2.1 (1 + 7 + 22 * l + 16) 5 = 0 ∨ M2.2.1 (1 + 7 + 22 * l + 16) 5 = 1 := fun l hl => by
        rw [q2, (g _ (by omega)).2.1]
        exact h.2.2.2.2 l hl
      have h2 : CB M2 1 s := h.c1 hs (fun i hi => by
        have := u2_lt i hi
        rw [q2]
        exact (g i (by omega)).2.1)
      have hK := hK2
      have hM2 : M2.2.2.2 52 j = some M.1.length := q5
      refine G_S (pc := 33) f_150_33 rfl rfl rfl ?_
      refine G_gR (pc := 34) f_150_34 (by decide) rfl (by first | assumption | exact hK.1 _ _ rfl) (by first | assumption | exact hK.2 _ _ _ rfl | (try dsimp only) <;> (repeat (first | exact up2_s | refine up2_o (by first | decide | omega) ?_)) <;> first | assumption | exact hK.2 _ _ _ rfl) ?_
      refine G_S (pc := 37) f_150_37 rfl rfl rfl ?_
      refine G_aaN2 (pc := 38) f_150_38 (by first | assumption | exact hK.1 _ _ rfl) (by decide) (by omega) (by omega) (by first | exact q5 | assumption) ?_
      refine G_S (pc := 39) f_150_39 rfl rfl rfl ?_
      refine G_gR (pc := 40) f_150_40 (by decide) rfl (by first | assumption | exact hK.1 _ _ rfl) (by first | assumption | exact hK.2 _ _ _ rfl | (try dsimp only) <;> (repeat (first | exact up2_s | refine up2_o (by first | decide | omega) ?_)) <;> first | assumption | exact hK.2 _ _ _ rfl) ?_
      refine G_CV (pc := 43) f_150_43 rfl rfl (by decide) rfl rfl (by first | assumption | exact hK.1 _ _ rfl) (by decide) ⟨Nat.le_of_ble_eq_true rfl, Nat.le_of_ble_eq_true rfl⟩ ?_
      refine CG.mono (c_toldCopy B B1 (by omega) (by omega) hj2) ?_
      rintro _ M3 ⟨rfl, hF, hQ⟩
      refine G_ic (v := nI 1) (pc := 46) f_150_46 (by decide) ?_
      refine G_rz (pc := 47) f_150_47 (by first | exact Or.inl rfl | exact Or.inr rfl | exact b2i_01 _ | assumption) ?_
      refine ⟨rfl, hF.1.1.trans (q1.trans eT), fun i hi => ?_, fun i k hi hn => ?_, by rw [hF.1.2]; exact q5, B.sm hF.1.1 hF.1.2, h2.eq hs hQ⟩
      · have a := hF.2 i (by omega)
        rw [a.1, a.2, q2, q3]
        exact ⟨(g i hi).2.1, (g i hi).2.2.1⟩
      · rw [hF.1.2, q4 i k hn, (g i hi).2.2.2]
    · exfalso; omega
theorem c_againN (hK : KM M.1 M.2.2.2) (hk : ¬ (0 ≤ k.toInt ∧ k.toInt ≤ 2)) : CG C 151 [.ref 0, .int k] M (fun w M' => w = some (.int 0) ∧ M' = M) := by
  by_cases h : 0 ≤ k.toInt
  · refine CG_in (mL := 2) (hl := false) (lv := [some (.ref 0), some (.int k)]) (ll := []) rfl rfl rfl ?_
    refine G_S (pc := 0) f_151_0 rfl rfl rfl ?_
    refine G_zltZ (pc := 1) f_151_1 rfl (by first | exact nI_toInt (by omega) | exact zI_toInt (by omega) (by omega) | rfl) (fun b1 => ?_) (fun b1 => ?_)
    · exfalso; omega
    · refine G_S (pc := 4) f_151_4 rfl rfl rfl ?_
      refine G_ic (v := nI 3) (pc := 5) f_151_5 (by decide) ?_
      refine G_jgeZ (pc := 6) f_151_6 rfl (by first | exact nI_toInt (by omega) | exact zI_toInt (by omega) (by omega) | rfl) (by first | exact nI_toInt (by omega) | exact zI_toInt (by omega) (by omega) | rfl) (fun b2 => ?_) (fun b2 => ?_)
      · refine G_ic (v := nI 0) (pc := 18) f_151_18 (by decide) ?_
        refine G_rz (pc := 19) f_151_19 (by first | exact Or.inl rfl | exact Or.inr rfl | exact b2i_01 _ | assumption) ?_
        exact ⟨rfl, rfl⟩
      · exfalso; omega
  · refine CG_in (mL := 2) (hl := false) (lv := [some (.ref 0), some (.int k)]) (ll := []) rfl rfl rfl ?_
    refine G_S (pc := 0) f_151_0 rfl rfl rfl ?_
    refine G_zltZ (pc := 1) f_151_1 rfl (by first | exact nI_toInt (by omega) | exact zI_toInt (by omega) (by omega) | rfl) (fun b1 => ?_) (fun b1 => ?_)
    · refine G_ic (v := nI 0) (pc := 18) f_151_18 (by decide) ?_
      refine G_rz (pc := 19) f_151_19 (by first | exact Or.inl rfl | exact Or.inr rfl | exact b2i_01 _ | assumption) ?_
      exact ⟨rfl, rfl⟩
    · exfalso; omega
theorem c_again0 (hK : KM M.1 M.2.2.2) (hj : j < 3) (hr : M.2.2.2 52 j = none) : CG C 151 [.ref 0, .int (nI j)] M (fun w M' => w = some (.int 0) ∧ M' = M) := by
  refine CG_in (mL := 2) (hl := false) (lv := [some (.ref 0), some (.int (nI j))]) (ll := []) rfl rfl rfl ?_
  refine G_S (pc := 0) f_151_0 rfl rfl rfl ?_
  refine G_zltZ (pc := 1) f_151_1 rfl (by first | exact nI_toInt (by omega) | exact zI_toInt (by omega) (by omega) | rfl) (fun b1 => ?_) (fun b1 => ?_)
  · exfalso; omega
  · refine G_S (pc := 4) f_151_4 rfl rfl rfl ?_
    refine G_ic (v := nI 3) (pc := 5) f_151_5 (by decide) ?_
    refine G_jgeZ (pc := 6) f_151_6 rfl (by first | exact nI_toInt (by omega) | exact zI_toInt (by omega) (by omega) | rfl) (by first | exact nI_toInt (by omega) | exact zI_toInt (by omega) (by omega) | rfl) (fun b2 => ?_) (fun b2 => ?_)
    · exfalso; omega
    · refine G_S (pc := 9) f_151_9 rfl rfl rfl ?_
      refine G_gR (pc := 10) f_151_10 (by decide) rfl (by first | assumption | exact hK.1 _ _ rfl) (by first | assumption | exact hK.2 _ _ _ rfl | (try dsimp only) <;> (repeat (first | exact up2_s | refine up2_o (by first | decide | omega) ?_)) <;> first | assumption | exact hK.2 _ _ _ rfl) ?_
      refine G_S (pc := 13) f_151_13 rfl rfl rfl ?_
      refine G_aa0 (pc := 14) f_151_14 (hK.1 52 _ rfl) (by decide) hj (by decide) hr ?_
      refine G_S (pc := 15) f_151_15 rfl rfl rfl ?_
      refine G_ic (v := nI 0) (pc := 18) f_151_18 (by decide) ?_
      refine G_rz (pc := 19) f_151_19 (by first | exact Or.inl rfl | exact Or.inr rfl | exact b2i_01 _ | assumption) ?_
      exact ⟨rfl, rfl⟩
theorem c_again1 {i : Sg} (hK : KM M.1 M.2.2.2) (h : CB M t i) (hs : SgOK i) (hj : j < 3) (hr : M.2.2.2 52 j = some t) (ht : 131 ≤ t ∧ t < 900000) (B : BT M t) : CG C 151 [.ref 0, .int (nI j)] M (fun w M' => w = some (.int 1) ∧ FoB 1 M M' ∧ CB M' 1 i) := by
  have B1 := BT_1 hK
  have hx := B.1.1
  refine CG_in (mL := 2) (hl := false) (lv := [some (.ref 0), some (.int (nI j))]) (ll := []) rfl rfl rfl ?_
  refine G_S (pc := 0) f_151_0 rfl rfl rfl ?_
  refine G_zltZ (pc := 1) f_151_1 rfl (by first | exact nI_toInt (by omega) | exact zI_toInt (by omega) (by omega) | rfl) (fun b1 => ?_) (fun b1 => ?_)
  · exfalso; omega
  · refine G_S (pc := 4) f_151_4 rfl rfl rfl ?_
    refine G_ic (v := nI 3) (pc := 5) f_151_5 (by decide) ?_
    refine G_jgeZ (pc := 6) f_151_6 rfl (by first | exact nI_toInt (by omega) | exact zI_toInt (by omega) (by omega) | rfl) (by first | exact nI_toInt (by omega) | exact zI_toInt (by omega) (by omega) | rfl) (fun b2 => ?_) (fun b2 => ?_)
    · exfalso; omega
    · refine G_S (pc := 9) f_151_9 rfl rfl rfl ?_
      refine G_gR (pc := 10) f_151_10 (by decide) rfl (by first | assumption | exact hK.1 _ _ rfl) (by first | assumption | exact hK.2 _ _ _ rfl | (try dsimp only) <;> (repeat (first | exact up2_s | refine up2_o (by first | decide | omega) ?_)) <;> first | assumption | exact hK.2 _ _ _ rfl) ?_
      refine G_S (pc := 13) f_151_13 rfl rfl rfl ?_
      refine G_aaN2 (pc := 14) f_151_14 (by first | assumption | exact hK.1 _ _ rfl) (by decide) (by omega) (by omega) (by first | exact hr | assumption) ?_
      refine G_nnJ (pc := 15) f_151_15 rfl (by omega) ?_
      refine G_S (pc := 20) f_151_20 rfl rfl rfl ?_
      refine G_gR (pc := 21) f_151_21 (by decide) rfl (by first | assumption | exact hK.1 _ _ rfl) (by first | assumption | exact hK.2 _ _ _ rfl | (try dsimp only) <;> (repeat (first | exact up2_s | refine up2_o (by first | decide | omega) ?_)) <;> first | assumption | exact hK.2 _ _ _ rfl) ?_
      refine G_S (pc := 24) f_151_24 rfl rfl rfl ?_
      refine G_gR (pc := 25) f_151_25 (by decide) rfl (by first | assumption | exact hK.1 _ _ rfl) (by first | assumption | exact hK.2 _ _ _ rfl | (try dsimp only) <;> (repeat (first | exact up2_s | refine up2_o (by first | decide | omega) ?_)) <;> first | assumption | exact hK.2 _ _ _ rfl) ?_
      refine G_S (pc := 28) f_151_28 rfl rfl rfl ?_
      refine G_aaN2 (pc := 29) f_151_29 (by first | assumption | exact hK.1 _ _ rfl) (by decide) (by omega) (by omega) (by first | exact hr | assumption) ?_
      refine G_CV (pc := 30) f_151_30 rfl rfl (by decide) rfl rfl (by first | assumption | exact hK.1 _ _ rfl) (by decide) ⟨Nat.le_of_ble_eq_true rfl, Nat.le_of_ble_eq_true rfl⟩ ?_
      refine CG.mono (c_toldCopy B1 B (by omega) (by omega) h.2.2.2.2) ?_
      rintro _ M1 ⟨rfl, hF, hQ⟩
      refine G_ic (v := nI 1) (pc := 33) f_151_33 (by decide) ?_
      refine G_rz (pc := 34) f_151_34 (by first | exact Or.inl rfl | exact Or.inr rfl | exact b2i_01 _ | assumption) ?_
      exact ⟨rfl, hF, h.eq hs hQ⟩
end CIM
