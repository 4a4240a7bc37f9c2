/-! constants: texts and tables -/
theorem con_none {M : Mm} {r : Nat} (h : M.1.length ≤ 600000) (hr : 1000000 ≤ r) : M.1[r]? = none := List.getElem?_eq_none (by omega)
section GCN
variable {C : Ct} {y pc len o t : Nat} {lv : Lv} {ll : Ll} {st : List Value} {M : Mm} {Q : Option Value → Mm → Prop} {ret : Option FieldType}
theorem G_CVs {ins : Instr} {kd y' np mL oc r : Nat} {hl : Bool} {as rest : List Value} (hf : fe y pc = some (ins, len, o, ret)) (hn : isRet ins = false) (hc : callOf o ins = some (kd, y', np)) (hk : kd < 2) (hi : ci y y' = some (mL, oc, hl)) (hs : spl st (npop kd np) = some (.ref r :: as, rest)) (hT : M.1[r]? = none) (ho : oc = 14) (hr : 1000000 ≤ r ∧ r < 1000022) (h8 : (rest.map fun v => v.category).sum ≤ 8 ∧ (enV (.ref r :: as)).length ≤ mL)
    (K : CG C y' (.ref r :: as) M (fun v M' => G C y (pc + 3, lv, ll, v.toList ++ rest, M') Q)) : G C y (pc, lv, ll, st, M) Q :=
  G_C hf hn hc hi hs (by
    unfold rcv
    rw [if_neg (by omega)]
    dsimp only
    rw [if_neg (by omega), hT]
    dsimp only
    exact decide_eq_true ⟨ho, hr⟩) h8 K
theorem G_gs9 {r : Nat} (hf : fe y pc = some (.getfield 9, len, 14, ret)) (hr : 1000000 ≤ r ∧ r < 1000022) (K : G C y (pc + 3, lv, ll, .ref (r + 100) :: st, M) Q) : G C y (pc, lv, ll, .ref r :: st, M) Q := by
  refine G_S hf rfl rfl ?_ K
  have hg : gf 14 9 r M = some (.ref (r + 100)) := by
    unfold gf
    rw [if_pos rfl, if_pos hr, if_pos rfl]
  simp only [stp, hg, push]
theorem G_gs15 {r : Nat} (hf : fe y pc = some (.getfield 15, len, 14, ret)) (hr : 1000000 ≤ r ∧ r < 1000022) (K : G C y (pc + 3, lv, ll, .int 0 :: st, M) Q) : G C y (pc, lv, ll, .ref r :: st, M) Q := by
  refine G_S hf rfl rfl ?_ K
  have hg : gf 14 15 r M = some (.int 0) := by
    unfold gf
    rw [if_pos rfl, if_pos hr, if_neg (by decide), if_pos rfl]
  simp only [stp, hg, push]
theorem G_lenC {r kd n : Nat} {f : Nat → Int32} (hf : fe y pc = some (.arraylength, len, o, ret)) (hT : M.1[r]? = none) (hC : C r = some (kd, n, f)) (hk : 50 ≤ kd ∧ kd ≤ 58) (K : G C y (pc + 1, lv, ll, .int (nI n) :: st, M) Q) : G C y (pc, lv, ll, .ref r :: st, M) Q := by
  refine G_S hf rfl rfl ?_ K
  simp only [stp, ar, hT, hC]
  exact if_pos hk
theorem G_iacN {r n i : Nat} {f : Nat → Int32} {x : Int32} (hf : fe y pc = some (.iaload, len, o, ret)) (hT : M.1[r]? = none) (hC : C r = some (50, n, f)) (hi : i < n) (hn : n < 2 ^ 31) (hv : f i = x) (K : G C y (pc + 1, lv, ll, .int x :: st, M) Q) : G C y (pc, lv, ll, .int (nI i) :: .ref r :: st, M) Q := by
  refine G_iac hf hT hC (inn_nI hi hn) ?_
  rw [nI_clamp (by omega), hv]
  exact K
theorem G_bacN {r n i : Nat} {f : Nat → Int32} {x : Int32} (hf : fe y pc = some (.baload, len, o, ret)) (hT : M.1[r]? = none) (hC : C r = some (51, n, f)) (hi : i < n) (hn : n < 2 ^ 31) (hv : f i = x) (K : G C y (pc + 1, lv, ll, .int x :: st, M) Q) : G C y (pc, lv, ll, .int (nI i) :: .ref r :: st, M) Q := by
  refine G_bac hf hT hC (inn_nI hi hn) ?_
  rw [nI_clamp (by omega), hv]
  exact K
end GCN
/-- the constants that the reader uses -/
def CK (C : Ct) : Prop := C 1000200 = some (50, 5, fun j => FFS.getD j 0) ∧ C 1000201 = some (50, 108, fun j => FMS.getD j 0) ∧ ∀ i, i < 22 → C (1000000 + i + 100) = some (51, (TXL.getD i []).length, fun j => (TXL.getD i []).getD j 0)
theorem CK_CT (L : Nat) (xs : Nat → Int32) : CK (CT L xs) := by
  refine ⟨rfl, rfl, fun i hi => ?_⟩
  unfold CT
  rw [if_neg (by omega), if_neg (by omega), if_neg (by omega), if_pos (by omega), show 1000000 + i + 100 - 1000100 = i by omega]
def ln (i : Nat) : Nat := (TXL.getD i []).length
def wl (i j : Nat) : Nat := ((TXL.getD i []).getD j 0).toInt.toNat
theorem ln_at : ∀ i, i < 22 → 2 ≤ ln i ∧ ln i ≤ 7 := by decide +kernel
theorem wl_at : ∀ i, i < 22 → ∀ j, j < ln i → (TXL.getD i []).getD j 0 = nI (wl i j) ∧ 97 ≤ wl i j ∧ wl i j ≤ 122 := by
  have h : ∀ i, i < 22 → ∀ j, j < 8 → j < ln i → (TXL.getD i []).getD j 0 = nI (wl i j) ∧ 97 ≤ wl i j ∧ wl i j ≤ 122 := by decide +kernel
  intro i hi j hj
  exact h i hi j (by have := ln_at i hi; omega) hj
section WRD
variable {C : Ct} {M : Mm} {i j : Nat}
theorem s_coder (hM : M.1.length ≤ 600000) (hi : i < 22) : CG C 326 [.ref (1000000 + i)] M (fun w M' => w = some (.int (nI 0)) ∧ M' = M) := by
  refine CG_in (mL := 1) (hl := false) (lv := [some (.ref (1000000 + i))]) (ll := []) rfl rfl rfl ?_
  refine G_S (pc := 0) f_326_0 rfl rfl rfl ?_
  refine G_zeqZ (pc := 3) f_326_3 rfl (za := 1) rfl (fun h => absurd h (by decide)) (fun _ => ?_)
  refine G_S (pc := 6) f_326_6 rfl rfl rfl ?_
  refine G_gs15 (pc := 7) f_326_7 (by omega) ?_
  refine G_S (pc := 10) f_326_10 rfl rfl rfl ?_
  refine G_rn (pc := 14) f_326_14 (by rfl) ?_
  exact ⟨rfl, rfl⟩
theorem s_latin (hM : M.1.length ≤ 600000) (hi : i < 22) : CG C 327 [.ref (1000000 + i)] M (fun w M' => w = some (.int (b2i (True))) ∧ M' = M) := by
  refine CG_in (mL := 1) (hl := false) (lv := [some (.ref (1000000 + i))]) (ll := []) rfl rfl rfl ?_
  refine G_S (pc := 0) f_327_0 rfl rfl rfl ?_
  refine G_zeqZ (pc := 3) f_327_3 rfl (za := 1) rfl (fun h => absurd h (by decide)) (fun _ => ?_)
  refine G_S (pc := 6) f_327_6 rfl rfl rfl ?_
  refine G_gs15 (pc := 7) f_327_7 (by omega) ?_
  refine G_zneZ (pc := 10) f_327_10 rfl (za := 0) rfl (fun h => absurd rfl h) (fun _ => ?_)
  refine G_S (pc := 13) f_327_13 rfl rfl rfl ?_
  refine G_S (pc := 14) f_327_14 rfl rfl rfl ?_
  refine G_rz (pc := 18) f_327_18 (Or.inr rfl) ?_
  exact ⟨rfl, rfl⟩
theorem shr0 : ∀ n, n < 8 → nI n >>> (nI 0 &&& 31) = nI n := by decide
theorem s_length (hC : CK C) (hM : M.1.length ≤ 600000) (hi : i < 22) : CG C 324 [.ref (1000000 + i)] M (fun w M' => w = some (.int (nI (ln i))) ∧ M' = M) := by
  have hl := ln_at i hi
  refine CG_in (mL := 1) (hl := false) (lv := [some (.ref (1000000 + i))]) (ll := []) rfl rfl rfl ?_
  refine G_S (pc := 0) f_324_0 rfl rfl rfl ?_
  refine G_gs9 (pc := 1) f_324_1 (by omega) ?_
  refine G_lenC (pc := 4) f_324_4 (con_none hM (by omega)) (hC.2.2 i hi) (by decide) ?_
  refine G_S (pc := 5) f_324_5 rfl rfl rfl ?_
  refine G_CVs (pc := 6) f_324_6 rfl rfl (by decide) rfl rfl (con_none hM (by omega)) rfl (by omega) ⟨Nat.le_of_ble_eq_true rfl, Nat.le_of_ble_eq_true rfl⟩ ?_
  refine CG.go (s_coder hM hi) ?_
  refine G_S (pc := 9) f_324_9 rfl rfl rfl ?_
  refine G_ri (pc := 10) f_324_10 ?_
  refine ⟨?_, rfl⟩
  congr 2
  exact shr0 (ln i) (by omega)
theorem s_check3 {a b r : Nat} (ha : a < b) (hb : b < 2 ^ 31) : CG C 330 [.int (nI a), .int (nI b), .ref r] M (fun w M' => w = some (.int (nI a)) ∧ M' = M) := by
  refine CG_in (mL := 3) (hl := false) (lv := [some (.int (nI a)), some (.int (nI b)), some (.ref r)]) (ll := []) rfl rfl rfl ?_
  refine G_S (pc := 0) f_330_0 rfl rfl rfl ?_
  refine G_zltZ (pc := 1) f_330_1 rfl (by first | exact nI_toInt (by omega) | exact zI_toInt (by omega) (by omega) | rfl) (fun b1 => ?_) (fun b1 => ?_)
  · exfalso; omega
  · refine G_S (pc := 4) f_330_4 rfl rfl rfl ?_
    refine G_S (pc := 5) f_330_5 rfl rfl rfl ?_
    refine G_jltZ (pc := 6) f_330_6 rfl (by first | exact nI_toInt (by omega) | exact zI_toInt (by omega) (by omega) | rfl) (by first | exact nI_toInt (by omega) | exact zI_toInt (by omega) (by omega) | rfl) (fun b2 => ?_) (fun b2 => ?_)
    · refine G_S (pc := 16) f_330_16 rfl rfl rfl ?_
      refine G_ri (pc := 17) f_330_17 ?_
      exact ⟨rfl, rfl⟩
    · exfalso; omega
theorem s_check2 {a b : Nat} (ha : a < b) (hb : b < 2 ^ 31) : CG C 328 [.int (nI a), .int (nI b)] M (fun w M' => w = none ∧ M' = M) := by
  refine CG_in (mL := 2) (hl := false) (lv := [some (.int (nI a)), some (.int (nI b))]) (ll := []) rfl rfl rfl ?_
  refine G_S (pc := 0) f_328_0 rfl rfl rfl ?_
  refine G_S (pc := 1) f_328_1 rfl rfl rfl ?_
  refine G_S (pc := 2) f_328_2 rfl rfl rfl ?_
  refine G_CS (pc := 5) f_328_5 rfl rfl (by decide) rfl rfl ⟨Nat.le_of_ble_eq_true rfl, Nat.le_of_ble_eq_true rfl⟩ ?_
  refine CG.go (s_check3 ha hb) ?_
  refine G_S (pc := 8) f_328_8 rfl rfl rfl ?_
  refine G_rv (pc := 9) f_328_9 ?_
  exact ⟨rfl, rfl⟩
theorem chr_at : ∀ c, c < 128 → (((nI c &&& nI 255).toUInt32) % 65536).toInt32 = nI c := by decide +kernel
theorem chr_nw : ∀ c, c < 128 → narrow .char (.int (nI c)) = .int (nI c) := by decide +kernel
theorem s_char1 (hC : CK C) (hM : M.1.length ≤ 600000) (hi : i < 22) (hj : j < ln i) : CG C 329 [.ref (1000000 + i + 100), .int (nI j)] M (fun w M' => w = some (.int (nI (wl i j))) ∧ M' = M) := by
  have hl := ln_at i hi
  have hw := wl_at i hi j hj
  refine CG_in (mL := 2) (hl := false) (lv := [some (.ref (1000000 + i + 100)), some (.int (nI j))]) (ll := []) rfl rfl rfl ?_
  refine G_S (pc := 0) f_329_0 rfl rfl rfl ?_
  refine G_S (pc := 1) f_329_1 rfl rfl rfl ?_
  refine G_lenC (pc := 2) f_329_2 (con_none hM (by omega)) (hC.2.2 i hi) (by decide) ?_
  refine G_CS (pc := 3) f_329_3 rfl rfl (by decide) rfl rfl ⟨Nat.le_of_ble_eq_true rfl, Nat.le_of_ble_eq_true rfl⟩ ?_
  refine CG.go (s_check2 hj (show ln i < 2 ^ 31 by omega)) ?_
  refine G_S (pc := 6) f_329_6 rfl rfl rfl ?_
  refine G_S (pc := 7) f_329_7 rfl rfl rfl ?_
  refine G_bacN (pc := 8) f_329_8 (con_none hM (by omega)) (hC.2.2 i hi) hj (show ln i < 2 ^ 31 by omega) hw.1 ?_
  refine G_si (v := nI 255) (pc := 9) f_329_9 (by decide) ?_
  refine G_S (pc := 12) f_329_12 rfl rfl rfl ?_
  refine G_S (pc := 13) f_329_13 rfl rfl rfl ?_
  rw [chr_at (wl i j) (by omega)]
  refine G_rn (pc := 14) f_329_14 (chr_nw (wl i j) (by omega)) ?_
  exact ⟨rfl, rfl⟩
theorem s_char (hC : CK C) (hM : M.1.length ≤ 600000) (hi : i < 22) (hj : j < ln i) : CG C 325 [.ref (1000000 + i), .int (nI j)] M (fun w M' => w = some (.int (nI (wl i j))) ∧ M' = M) := by
  refine CG_in (mL := 2) (hl := false) (lv := [some (.ref (1000000 + i)), some (.int (nI j))]) (ll := []) rfl rfl rfl ?_
  refine G_S (pc := 0) f_325_0 rfl rfl rfl ?_
  refine G_CVs (pc := 1) f_325_1 rfl rfl (by decide) rfl rfl (con_none hM (by omega)) rfl (by omega) ⟨Nat.le_of_ble_eq_true rfl, Nat.le_of_ble_eq_true rfl⟩ ?_
  refine CG.go (s_latin hM hi) ?_
  refine G_bEq (pc := 4) f_325_4 rfl (fun h => absurd trivial h) (fun _ => ?_)
  refine G_S (pc := 7) f_325_7 rfl rfl rfl ?_
  refine G_gs9 (pc := 8) f_325_8 (by omega) ?_
  refine G_S (pc := 11) f_325_11 rfl rfl rfl ?_
  refine G_CS (pc := 12) f_325_12 rfl rfl (by decide) rfl rfl ⟨Nat.le_of_ble_eq_true rfl, Nat.le_of_ble_eq_true rfl⟩ ?_
  refine CG.go (s_char1 hC hM hi hj) ?_
  refine G_rn (pc := 15) f_325_15 (chr_nw (wl i j) (by have := wl_at i hi j hj; omega)) ?_
  exact ⟨rfl, rfl⟩
theorem k_word (hi : i < 4) : CG C 87 [.int (nI i)] M (fun w M' => w = some (.ref (1000000 + (18 + i))) ∧ M' = M) := by
  refine CG_in (mL := 1) (hl := false) (lv := [some (.int (nI i))]) (ll := []) rfl rfl rfl ?_
  refine G_S (pc := 0) f_87_0 rfl rfl rfl ?_
  rcases (show i = 0 ∨ i = 1 ∨ i = 2 ∨ i = 3 by omega) with rfl | rfl | rfl | rfl
  · refine G_S (pc := 1) f_87_1 rfl rfl rfl ?_
    refine G_S (pc := 28) f_87_28 rfl rfl rfl ?_
    first | refine G_ra (pc := 30) f_87_30 ?_ | refine G_rnl (pc := 30) f_87_30 ?_
    exact ⟨rfl, rfl⟩
  · refine G_S (pc := 1) f_87_1 rfl rfl rfl ?_
    refine G_S (pc := 31) f_87_31 rfl rfl rfl ?_
    first | refine G_ra (pc := 33) f_87_33 ?_ | refine G_rnl (pc := 33) f_87_33 ?_
    exact ⟨rfl, rfl⟩
  · refine G_S (pc := 1) f_87_1 rfl rfl rfl ?_
    refine G_S (pc := 34) f_87_34 rfl rfl rfl ?_
    first | refine G_ra (pc := 36) f_87_36 ?_ | refine G_rnl (pc := 36) f_87_36 ?_
    exact ⟨rfl, rfl⟩
  · refine G_tsO (pc := 1) f_87_1 rfl ((Or.inr (by decide))) ?_
    refine G_S (pc := 37) f_87_37 rfl rfl rfl ?_
    first | refine G_ra (pc := 39) f_87_39 ?_ | refine G_rnl (pc := 39) f_87_39 ?_
    exact ⟨rfl, rfl⟩
theorem k_form (hi : i < 18) : CG C 88 [.int (nI i)] M (fun w M' => w = some (.ref (1000000 + i)) ∧ M' = M) := by
  refine CG_in (mL := 1) (hl := false) (lv := [some (.int (nI i))]) (ll := []) rfl rfl rfl ?_
  refine G_S (pc := 0) f_88_0 rfl rfl rfl ?_
  rcases (show i = 0 ∨ i = 1 ∨ i = 2 ∨ i = 3 ∨ i = 4 ∨ i = 5 ∨ i = 6 ∨ i = 7 ∨ i = 8 ∨ i = 9 ∨ i = 10 ∨ i = 11 ∨ i = 12 ∨ i = 13 ∨ i = 14 ∨ i = 15 ∨ i = 16 ∨ i = 17 by omega) with rfl | rfl | rfl | rfl | rfl | rfl | rfl | rfl | rfl | rfl | rfl | rfl | rfl | rfl | rfl | rfl | rfl | rfl
  · refine G_S (pc := 1) f_88_1 rfl rfl rfl ?_
    refine G_S (pc := 84) f_88_84 rfl rfl rfl ?_
    first | refine G_ra (pc := 86) f_88_86 ?_ | refine G_rnl (pc := 86) f_88_86 ?_
    exact ⟨rfl, rfl⟩
  · refine G_S (pc := 1) f_88_1 rfl rfl rfl ?_
    refine G_S (pc := 87) f_88_87 rfl rfl rfl ?_
    first | refine G_ra (pc := 89) f_88_89 ?_ | refine G_rnl (pc := 89) f_88_89 ?_
    exact ⟨rfl, rfl⟩
  · refine G_S (pc := 1) f_88_1 rfl rfl rfl ?_
    refine G_S (pc := 90) f_88_90 rfl rfl rfl ?_
    first | refine G_ra (pc := 92) f_88_92 ?_ | refine G_rnl (pc := 92) f_88_92 ?_
    exact ⟨rfl, rfl⟩
  · refine G_S (pc := 1) f_88_1 rfl rfl rfl ?_
    refine G_S (pc := 93) f_88_93 rfl rfl rfl ?_
    first | refine G_ra (pc := 95) f_88_95 ?_ | refine G_rnl (pc := 95) f_88_95 ?_
    exact ⟨rfl, rfl⟩
  · refine G_S (pc := 1) f_88_1 rfl rfl rfl ?_
    refine G_S (pc := 96) f_88_96 rfl rfl rfl ?_
    first | refine G_ra (pc := 98) f_88_98 ?_ | refine G_rnl (pc := 98) f_88_98 ?_
    exact ⟨rfl, rfl⟩
  · refine G_S (pc := 1) f_88_1 rfl rfl rfl ?_
    refine G_S (pc := 99) f_88_99 rfl rfl rfl ?_
    first | refine G_ra (pc := 101) f_88_101 ?_ | refine G_rnl (pc := 101) f_88_101 ?_
    exact ⟨rfl, rfl⟩
  · refine G_S (pc := 1) f_88_1 rfl rfl rfl ?_
    refine G_S (pc := 102) f_88_102 rfl rfl rfl ?_
    first | refine G_ra (pc := 104) f_88_104 ?_ | refine G_rnl (pc := 104) f_88_104 ?_
    exact ⟨rfl, rfl⟩
  · refine G_S (pc := 1) f_88_1 rfl rfl rfl ?_
    refine G_S (pc := 105) f_88_105 rfl rfl rfl ?_
    first | refine G_ra (pc := 107) f_88_107 ?_ | refine G_rnl (pc := 107) f_88_107 ?_
    exact ⟨rfl, rfl⟩
  · refine G_S (pc := 1) f_88_1 rfl rfl rfl ?_
    refine G_S (pc := 108) f_88_108 rfl rfl rfl ?_
    first | refine G_ra (pc := 110) f_88_110 ?_ | refine G_rnl (pc := 110) f_88_110 ?_
    exact ⟨rfl, rfl⟩
  · refine G_S (pc := 1) f_88_1 rfl rfl rfl ?_
    refine G_S (pc := 111) f_88_111 rfl rfl rfl ?_
    first | refine G_ra (pc := 113) f_88_113 ?_ | refine G_rnl (pc := 113) f_88_113 ?_
    exact ⟨rfl, rfl⟩
  · refine G_S (pc := 1) f_88_1 rfl rfl rfl ?_
    refine G_S (pc := 114) f_88_114 rfl rfl rfl ?_
    first | refine G_ra (pc := 116) f_88_116 ?_ | refine G_rnl (pc := 116) f_88_116 ?_
    exact ⟨rfl, rfl⟩
  · refine G_S (pc := 1) f_88_1 rfl rfl rfl ?_
    refine G_S (pc := 117) f_88_117 rfl rfl rfl ?_
    first | refine G_ra (pc := 119) f_88_119 ?_ | refine G_rnl (pc := 119) f_88_119 ?_
    exact ⟨rfl, rfl⟩
  · refine G_S (pc := 1) f_88_1 rfl rfl rfl ?_
    refine G_S (pc := 120) f_88_120 rfl rfl rfl ?_
    first | refine G_ra (pc := 122) f_88_122 ?_ | refine G_rnl (pc := 122) f_88_122 ?_
    exact ⟨rfl, rfl⟩
  · refine G_S (pc := 1) f_88_1 rfl rfl rfl ?_
    refine G_S (pc := 123) f_88_123 rfl rfl rfl ?_
    first | refine G_ra (pc := 125) f_88_125 ?_ | refine G_rnl (pc := 125) f_88_125 ?_
    exact ⟨rfl, rfl⟩
  · refine G_S (pc := 1) f_88_1 rfl rfl rfl ?_
    refine G_S (pc := 126) f_88_126 rfl rfl rfl ?_
    first | refine G_ra (pc := 128) f_88_128 ?_ | refine G_rnl (pc := 128) f_88_128 ?_
    exact ⟨rfl, rfl⟩
  · refine G_S (pc := 1) f_88_1 rfl rfl rfl ?_
    refine G_S (pc := 129) f_88_129 rfl rfl rfl ?_
    first | refine G_ra (pc := 131) f_88_131 ?_ | refine G_rnl (pc := 131) f_88_131 ?_
    exact ⟨rfl, rfl⟩
  · refine G_S (pc := 1) f_88_1 rfl rfl rfl ?_
    refine G_S (pc := 132) f_88_132 rfl rfl rfl ?_
    first | refine G_ra (pc := 134) f_88_134 ?_ | refine G_rnl (pc := 134) f_88_134 ?_
    exact ⟨rfl, rfl⟩
  · refine G_tsO (pc := 1) f_88_1 rfl ((Or.inr (by decide))) ?_
    refine G_S (pc := 135) f_88_135 rfl rfl rfl ?_
    first | refine G_ra (pc := 137) f_88_137 ?_ | refine G_rnl (pc := 137) f_88_137 ?_
    exact ⟨rfl, rfl⟩
end WRD
