/-! second form of the rows: numbers by their values -/
def zI (z : Int) : Int32 := Int32.ofInt z
theorem zI_toInt {z : Int} (h1 : -2147483648 ≤ z) (h2 : z < 2147483648) : (zI z).toInt = z := Int32.toInt_ofInt_of_le h1 h2
theorem nI_zI (n : Nat) : nI n = zI n := by
  show Int32.ofNat n = Int32.ofInt n
  exact Int32.ofInt_eq_ofNat.symm
theorem zI_add (a b : Int) : zI a + zI b = zI (a + b) := (Int32.ofInt_add a b).symm
theorem zI_sub (a b : Int) : zI a - zI b = zI (a - b) := (Int32.ofInt_sub a b).symm
theorem zI_mul (a b : Int) : zI a * zI b = zI (a * b) := (Int32.ofInt_mul a b).symm
theorem zI_neg (a : Int) : -zI a = zI (-a) := (Int32.ofInt_neg a).symm
theorem zI_of (x : Int32) : x = zI x.toInt := (Int32.ofInt_toInt x).symm
theorem zI_n {z : Int} (h : 0 ≤ z) : zI z = nI z.toNat := by
  rw [nI_zI, Int.toNat_of_nonneg h]
theorem zI_inj {a b : Int} (h1 : -2147483648 ≤ a) (h2 : a < 2147483648) (h3 : -2147483648 ≤ b) (h4 : b < 2147483648) (h : zI a = zI b) : a = b := by
  have := congrArg Int32.toInt h
  rwa [zI_toInt h1 h2, zI_toInt h3 h4] at this
section GZ
variable {C : Ct} {y pc len o t : Nat} {lv : Lv} {ll : Ll} {st : List Value} {M : Mm} {Q : Option Value → Mm → Prop} {ret : Option FieldType} {off : Int} {a b : Int32} {za zb : Int}
theorem G_jeqZ (hf : fe y pc = some (.if_icmp .eq off, len, o, ret)) (ht : jmp pc off = some t) (ea : a.toInt = za) (eb : b.toInt = zb) (k1 : za = zb → G C y (t, lv, ll, st, M) Q) (k2 : za ≠ zb → G C y (pc + 3, lv, ll, st, M) Q) : G C y (pc, lv, ll, .int b :: .int a :: st, M) Q :=
  G_jeq hf ht (fun h => k1 (by rw [← ea, ← eb, h])) (fun h => k2 (fun q => h (Int32.toInt_inj.mp (by rw [ea, eb, q]))))
theorem G_jneZ (hf : fe y pc = some (.if_icmp .ne off, len, o, ret)) (ht : jmp pc off = some t) (ea : a.toInt = za) (eb : b.toInt = zb) (k1 : za ≠ zb → G C y (t, lv, ll, st, M) Q) (k2 : za = zb → G C y (pc + 3, lv, ll, st, M) Q) : G C y (pc, lv, ll, .int b :: .int a :: st, M) Q :=
  G_jne hf ht (fun h => k1 (fun q => h (Int32.toInt_inj.mp (by rw [ea, eb, q])))) (fun h => k2 (by rw [← ea, ← eb, h]))
theorem G_jltZ (hf : fe y pc = some (.if_icmp .lt off, len, o, ret)) (ht : jmp pc off = some t) (ea : a.toInt = za) (eb : b.toInt = zb) (k1 : za < zb → G C y (t, lv, ll, st, M) Q) (k2 : zb ≤ za → G C y (pc + 3, lv, ll, st, M) Q) : G C y (pc, lv, ll, .int b :: .int a :: st, M) Q :=
  G_jlt hf ht (fun h => k1 (by rw [← ea, ← eb]; exact Int32.lt_iff_toInt_lt.mp h)) (fun h => k2 (by rw [← ea, ← eb]; exact Int.not_lt.mp (fun q => h (Int32.lt_iff_toInt_lt.mpr q))))
theorem G_jgeZ (hf : fe y pc = some (.if_icmp .ge off, len, o, ret)) (ht : jmp pc off = some t) (ea : a.toInt = za) (eb : b.toInt = zb) (k1 : zb ≤ za → G C y (t, lv, ll, st, M) Q) (k2 : za < zb → G C y (pc + 3, lv, ll, st, M) Q) : G C y (pc, lv, ll, .int b :: .int a :: st, M) Q :=
  G_jge hf ht (fun h => k1 (by rw [← ea, ← eb]; exact Int32.le_iff_toInt_le.mp h)) (fun h => k2 (by rw [← ea, ← eb]; exact Int.not_le.mp (fun q => h (Int32.le_iff_toInt_le.mpr q))))
theorem G_jgtZ (hf : fe y pc = some (.if_icmp .gt off, len, o, ret)) (ht : jmp pc off = some t) (ea : a.toInt = za) (eb : b.toInt = zb) (k1 : zb < za → G C y (t, lv, ll, st, M) Q) (k2 : za ≤ zb → G C y (pc + 3, lv, ll, st, M) Q) : G C y (pc, lv, ll, .int b :: .int a :: st, M) Q :=
  G_jgt hf ht (fun h => k1 (by rw [← ea, ← eb]; exact Int32.lt_iff_toInt_lt.mp h)) (fun h => k2 (by rw [← ea, ← eb]; exact Int.not_lt.mp (fun q => h (Int32.lt_iff_toInt_lt.mpr q))))
theorem G_jleZ (hf : fe y pc = some (.if_icmp .le off, len, o, ret)) (ht : jmp pc off = some t) (ea : a.toInt = za) (eb : b.toInt = zb) (k1 : za ≤ zb → G C y (t, lv, ll, st, M) Q) (k2 : zb < za → G C y (pc + 3, lv, ll, st, M) Q) : G C y (pc, lv, ll, .int b :: .int a :: st, M) Q :=
  G_jle hf ht (fun h => k1 (by rw [← ea, ← eb]; exact Int32.le_iff_toInt_le.mp h)) (fun h => k2 (by rw [← ea, ← eb]; exact Int.not_le.mp (fun q => h (Int32.le_iff_toInt_le.mpr q))))
theorem G_zeqZ (hf : fe y pc = some (.ifCond .eq off, len, o, ret)) (ht : jmp pc off = some t) (ea : a.toInt = za) (k1 : za = 0 → G C y (t, lv, ll, st, M) Q) (k2 : za ≠ 0 → G C y (pc + 3, lv, ll, st, M) Q) : G C y (pc, lv, ll, .int a :: st, M) Q :=
  G_zeq hf ht (fun h => k1 (by rw [← ea, h]; rfl)) (fun h => k2 (fun q => h (Int32.toInt_inj.mp (by rw [ea, q]; rfl))))
theorem G_zneZ (hf : fe y pc = some (.ifCond .ne off, len, o, ret)) (ht : jmp pc off = some t) (ea : a.toInt = za) (k1 : za ≠ 0 → G C y (t, lv, ll, st, M) Q) (k2 : za = 0 → G C y (pc + 3, lv, ll, st, M) Q) : G C y (pc, lv, ll, .int a :: st, M) Q :=
  G_zne hf ht (fun h => k1 (fun q => h (Int32.toInt_inj.mp (by rw [ea, q]; rfl)))) (fun h => k2 (by rw [← ea, h]; rfl))
theorem G_zltZ (hf : fe y pc = some (.ifCond .lt off, len, o, ret)) (ht : jmp pc off = some t) (ea : a.toInt = za) (k1 : za < 0 → G C y (t, lv, ll, st, M) Q) (k2 : 0 ≤ za → G C y (pc + 3, lv, ll, st, M) Q) : G C y (pc, lv, ll, .int a :: st, M) Q :=
  G_zlt hf ht (fun h => k1 (by rw [← ea]; exact Int32.lt_iff_toInt_lt.mp h)) (fun h => k2 (by rw [← ea]; exact Int.not_lt.mp (fun q => h (Int32.lt_iff_toInt_lt.mpr q))))
theorem G_zgeZ (hf : fe y pc = some (.ifCond .ge off, len, o, ret)) (ht : jmp pc off = some t) (ea : a.toInt = za) (k1 : 0 ≤ za → G C y (t, lv, ll, st, M) Q) (k2 : za < 0 → G C y (pc + 3, lv, ll, st, M) Q) : G C y (pc, lv, ll, .int a :: st, M) Q :=
  G_zge hf ht (fun h => k1 (by rw [← ea]; exact Int32.le_iff_toInt_le.mp h)) (fun h => k2 (by rw [← ea]; exact Int.not_le.mp (fun q => h (Int32.le_iff_toInt_le.mpr q))))
theorem G_zgtZ (hf : fe y pc = some (.ifCond .gt off, len, o, ret)) (ht : jmp pc off = some t) (ea : a.toInt = za) (k1 : 0 < za → G C y (t, lv, ll, st, M) Q) (k2 : za ≤ 0 → G C y (pc + 3, lv, ll, st, M) Q) : G C y (pc, lv, ll, .int a :: st, M) Q :=
  G_zgt hf ht (fun h => k1 (by rw [← ea]; exact Int32.lt_iff_toInt_lt.mp h)) (fun h => k2 (by rw [← ea]; exact Int.not_lt.mp (fun q => h (Int32.lt_iff_toInt_lt.mpr q))))
theorem G_zleZ (hf : fe y pc = some (.ifCond .le off, len, o, ret)) (ht : jmp pc off = some t) (ea : a.toInt = za) (k1 : za ≤ 0 → G C y (t, lv, ll, st, M) Q) (k2 : 0 < za → G C y (pc + 3, lv, ll, st, M) Q) : G C y (pc, lv, ll, .int a :: st, M) Q :=
  G_zle hf ht (fun h => k1 (by rw [← ea]; exact Int32.le_iff_toInt_le.mp h)) (fun h => k2 (by rw [← ea]; exact Int.not_le.mp (fun q => h (Int32.le_iff_toInt_le.mpr q))))
variable {ix c k q r n i j : Nat} {x : Int32}
theorem G_gIv (hf : fe y pc = some (.getfield ix, len, o, ret)) (ho : o ≠ 14) (hl : fld o ix = some (c, k, q)) (hq : q < 2) (hT : M.1[r]? = some (c, n)) (hv : M.2.1 r k = x) (K : G C y (pc + 3, lv, ll, .int x :: st, M) Q) : G C y (pc, lv, ll, .ref r :: st, M) Q := by
  subst hv
  exact G_gI hf ho hl hq hT K
theorem G_iaN (hf : fe y pc = some (.iaload, len, o, ret)) (hT : M.1[r]? = some (50, n)) (hi : i < n) (hn : n < 2 ^ 31) (hv : M.2.1 r i = x) (K : G C y (pc + 1, lv, ll, .int x :: st, M) Q) : G C y (pc, lv, ll, .int (nI i) :: .ref r :: st, M) Q := by
  refine G_ia hf hT (inn_nI hi hn) ?_
  rw [nI_clamp (by omega), hv]
  exact K
theorem G_laN {x : Int64} (hf : fe y pc = some (.laload, len, o, ret)) (hT : M.1[r]? = some (53, n)) (hi : i < n) (hn : n < 2 ^ 31) (hv : M.2.2.1 r i = x) (K : G C y (pc + 1, lv, ll, .long x :: st, M) Q) : G C y (pc, lv, ll, .int (nI i) :: .ref r :: st, M) Q := by
  refine G_la hf hT (inn_nI hi hn) ?_
  rw [nI_clamp (by omega), hv]
  exact K
theorem G_baN {kd : Nat} (hf : fe y pc = some (.baload, len, o, ret)) (hT : M.1[r]? = some (kd, n)) (hk : kd = 51 ∨ kd = 52) (hi : i < n) (hn : n < 2 ^ 31) (hv : M.2.1 r i = x) (K : G C y (pc + 1, lv, ll, .int x :: st, M) Q) : G C y (pc, lv, ll, .int (nI i) :: .ref r :: st, M) Q := by
  refine G_ba hf hT hk (inn_nI hi hn) ?_
  rw [nI_clamp (by omega), hv]
  exact K
theorem G_aaN2 {kd r' : Nat} (hf : fe y pc = some (.aaload, len, o, ret)) (hT : M.1[r]? = some (kd, n)) (hk : 54 ≤ kd ∧ kd ≤ 58) (hi : i < n) (hn : n < 2 ^ 31) (hR : M.2.2.2 r i = some r') (K : G C y (pc + 1, lv, ll, .ref r' :: st, M) Q) : G C y (pc, lv, ll, .int (nI i) :: .ref r :: st, M) Q := by
  refine G_aa hf hT hk (inn_nI hi hn) ?_ K
  rw [nI_clamp (by omega), hR]
theorem G_isN (hf : fe y pc = some (.iastore, len, o, ret)) (hT : M.1[r]? = some (50, n)) (hi : i < n) (hn : n < 2 ^ 31) (K : G C y (pc + 1, lv, ll, st, (M.1, up2 M.2.1 r i x, M.2.2.1, M.2.2.2)) Q) : G C y (pc, lv, ll, .int x :: .int (nI i) :: .ref r :: st, M) Q := by
  refine G_is hf hT (inn_nI hi hn) ?_
  rw [nI_clamp (by omega)]
  exact K
theorem G_bsN (hf : fe y pc = some (.bastore, len, o, ret)) (hT : M.1[r]? = some (51, n)) (hi : i < n) (hn : n < 2 ^ 31) (K : G C y (pc + 1, lv, ll, st, (M.1, up2 M.2.1 r i x.toInt8.toInt32, M.2.2.1, M.2.2.2)) Q) : G C y (pc, lv, ll, .int x :: .int (nI i) :: .ref r :: st, M) Q := by
  refine G_bs hf hT (inn_nI hi hn) ?_
  rw [nI_clamp (by omega)]
  exact K
theorem G_zsN (hf : fe y pc = some (.bastore, len, o, ret)) (hT : M.1[r]? = some (52, n)) (hi : i < n) (hn : n < 2 ^ 31) (hx : x = 0 ∨ x = 1) (K : G C y (pc + 1, lv, ll, st, (M.1, up2 M.2.1 r i x, M.2.2.1, M.2.2.2)) Q) : G C y (pc, lv, ll, .int x :: .int (nI i) :: .ref r :: st, M) Q := by
  refine G_zs hf hT (inn_nI hi hn) ?_
  have e : x &&& 1 = x := by rcases hx with rfl | rfl <;> rfl
  rw [nI_clamp (by omega), e]
  exact K
theorem G_lsN {x : Int64} (hf : fe y pc = some (.lastore, len, o, ret)) (hT : M.1[r]? = some (53, n)) (hi : i < n) (hn : n < 2 ^ 31) (K : G C y (pc + 1, lv, ll, st, (M.1, M.2.1, up2 M.2.2.1 r i x, M.2.2.2)) Q) : G C y (pc, lv, ll, .long x :: .int (nI i) :: .ref r :: st, M) Q := by
  refine G_ls hf hT (inn_nI hi hn) ?_
  rw [nI_clamp (by omega)]
  exact K
theorem G_divN (hf : fe y pc = some (.idiv, len, o, ret)) (hi : i < 2 ^ 31) (h0 : 0 < j) (hj : j < 2 ^ 31) (K : G C y (pc + 1, lv, ll, .int (nI (i / j)) :: st, M) Q) : G C y (pc, lv, ll, .int (nI j) :: .int (nI i) :: st, M) Q := by
  refine G_div hf (nI_ne0 h0 hj) ?_
  rw [pk_div hi h0 hj]
  exact K
theorem G_remN (hf : fe y pc = some (.irem, len, o, ret)) (hi : i < 2 ^ 31) (h0 : 0 < j) (hj : j < 2 ^ 31) (K : G C y (pc + 1, lv, ll, .int (nI (i % j)) :: st, M) Q) : G C y (pc, lv, ll, .int (nI j) :: .int (nI i) :: st, M) Q := by
  refine G_rem hf (nI_ne0 h0 hj) ?_
  rw [pk_rem hi h0 hj]
  exact K
theorem G_addN (hf : fe y pc = some (.iadd, len, o, ret)) (K : G C y (pc + 1, lv, ll, .int (nI (i + j)) :: st, M) Q) : G C y (pc, lv, ll, .int (nI j) :: .int (nI i) :: st, M) Q := by
  rw [← g_add] at K
  exact G_S hf rfl rfl rfl K
theorem G_mulN (hf : fe y pc = some (.imul, len, o, ret)) (K : G C y (pc + 1, lv, ll, .int (nI (i * j)) :: st, M) Q) : G C y (pc, lv, ll, .int (nI j) :: .int (nI i) :: st, M) Q := by
  rw [← g_mul] at K
  exact G_S hf rfl rfl rfl K
theorem G_subN (hf : fe y pc = some (.isub, len, o, ret)) (h : j ≤ i) (K : G C y (pc + 1, lv, ll, .int (nI (i - j)) :: st, M) Q) : G C y (pc, lv, ll, .int (nI j) :: .int (nI i) :: st, M) Q := by
  rw [← pk_sub h] at K
  exact G_S hf rfl rfl rfl K
theorem G_addZ (hf : fe y pc = some (.iadd, len, o, ret)) (ea : a = zI za) (eb : b = zI zb) (K : G C y (pc + 1, lv, ll, .int (zI (za + zb)) :: st, M) Q) : G C y (pc, lv, ll, .int b :: .int a :: st, M) Q := by
  rw [← zI_add, ← ea, ← eb] at K
  exact G_S hf rfl rfl rfl K
theorem G_subZ (hf : fe y pc = some (.isub, len, o, ret)) (ea : a = zI za) (eb : b = zI zb) (K : G C y (pc + 1, lv, ll, .int (zI (za - zb)) :: st, M) Q) : G C y (pc, lv, ll, .int b :: .int a :: st, M) Q := by
  rw [← zI_sub, ← ea, ← eb] at K
  exact G_S hf rfl rfl rfl K
theorem G_mulZ (hf : fe y pc = some (.imul, len, o, ret)) (ea : a = zI za) (eb : b = zI zb) (K : G C y (pc + 1, lv, ll, .int (zI (za * zb)) :: st, M) Q) : G C y (pc, lv, ll, .int b :: .int a :: st, M) Q := by
  rw [← zI_mul, ← ea, ← eb] at K
  exact G_S hf rfl rfl rfl K
theorem G_dec1 (hf : fe y pc = some (.iinc k (-1), len, o, ret)) (hl : lv[k]? = some (some (.int (nI i)))) (h : 1 ≤ i) (K : G C y (pc + 3, lv.set k (some (.int (nI (i - 1)))), cl1 ll k, st, M) Q) : G C y (pc, lv, ll, st, M) Q := by
  refine G_S hf rfl rfl ?_ K
  simp only [stp, hl]
  have e : nI i + Int32.ofInt (-1) = nI (i - 1) := sb_m1 h
  rw [e]
theorem G_maxN (hf : fe y pc = some (.invokestatic ix, len, o, ret)) (hc : callOf o (.invokestatic ix) = none) (hs : stp C o (.invokestatic ix) len pc lv ll (.int (nI j) :: .int (nI i) :: st) M = some (pc + 3, lv, ll, .int (if nI i < nI j then nI j else nI i) :: st, M)) (hi : i < 2 ^ 31) (hj : j < 2 ^ 31) (K : G C y (pc + 3, lv, ll, .int (nI (max i j)) :: st, M) Q) : G C y (pc, lv, ll, .int (nI j) :: .int (nI i) :: st, M) Q := by
  refine G_S hf rfl hc hs ?_
  by_cases h : i < j
  · rw [if_pos (nI_lt h hj)]
    rwa [Nat.max_eq_right (by omega)] at K
  · rw [if_neg (nI_nlt (by omega) (by omega))]
    rwa [Nat.max_eq_left (by omega)] at K
theorem G_minN (hf : fe y pc = some (.invokestatic ix, len, o, ret)) (hc : callOf o (.invokestatic ix) = none) (hs : stp C o (.invokestatic ix) len pc lv ll (.int (nI j) :: .int (nI i) :: st) M = some (pc + 3, lv, ll, .int (if nI j < nI i then nI j else nI i) :: st, M)) (hi : i < 2 ^ 31) (hj : j < 2 ^ 31) (K : G C y (pc + 3, lv, ll, .int (nI (min i j)) :: st, M) Q) : G C y (pc, lv, ll, .int (nI j) :: .int (nI i) :: st, M) Q := by
  refine G_S hf rfl hc hs ?_
  rw [min_nI hi hj]
  exact K
end GZ
/-! worlds -/
/-- the class's line object h holds D -/
def LW (M : Mm) (h : Nat) (D : Nat → Nat) : Prop := KM M.1 M.2.2.2 ∧ LnT M h ∧ LnV M h D ∧ Lsep h ∧ h < 1000000
theorem LW.fc {os : List Nat} {M M' : Mm} {h : Nat} {D : Nat → Nat} (W : LW M h D) (hF : Fc os M M') (hs : ∀ i, i ∈ os → 78 ≤ i ∧ i ≤ 97) : LW M' h D := by
  obtain ⟨hK, hT, hV, hse, hh⟩ := W
  have hs2 : ∀ j, j < 6 → h + j ∉ os := by
    intro j hj q
    have := hs _ q
    unfold Lsep at hse
    omega
  exact ⟨hF.K hK, hT.fc hF (hs2 0 (by decide)), hV.fc hF hs2, hse, hh⟩
/-- the crew sits on that line and bears b -/
def CW (M : Mm) (h : Nat) (D b : Nat → Nat) : Prop := LW M h D ∧ M.2.2.2 82 0 = some h ∧ ∀ r, r < D 2 → M.2.1 83 r = nI (b r) ∧ b r < 256
/-- the model's frame: objects os, and fields fs of the model itself -/
def Fm (os fs : List Nat) (M M' : Mm) : Prop := (M'.1 = M.1 ∧ M'.2.2.2 = M.2.2.2) ∧ (∀ i, i ≠ 98 → i ∉ os → M'.2.1 i = M.2.1 i ∧ M'.2.2.1 i = M.2.2.1 i) ∧ ∀ k, k ∉ fs → M'.2.1 98 k = M.2.1 98 k
theorem Fm.rf {os fs : List Nat} {M : Mm} : Fm os fs M M := ⟨⟨rfl, rfl⟩, fun _ _ _ => ⟨rfl, rfl⟩, fun _ _ => rfl⟩
theorem Fm.tr {os fs : List Nat} {M M1 M2 : Mm} (h1 : Fm os fs M M1) (h2 : Fm os fs M1 M2) : Fm os fs M M2 := ⟨⟨h2.1.1.trans h1.1.1, h2.1.2.trans h1.1.2⟩, fun i h hi => ⟨(h2.2.1 i h hi).1.trans (h1.2.1 i h hi).1, (h2.2.1 i h hi).2.trans (h1.2.1 i h hi).2⟩, fun k hk => (h2.2.2 k hk).trans (h1.2.2 k hk)⟩
theorem Fm.sub {os fs os' fs' : List Nat} {M M' : Mm} (h : Fm os fs M M') (hs : ∀ i, i ∈ os → i ∈ os') (hf : ∀ i, i ∈ fs → i ∈ fs') : Fm os' fs' M M' := ⟨h.1, fun i h0 hi => h.2.1 i h0 (fun q => hi (hs i q)), fun k hk => h.2.2 k (fun q => hk (hf k q))⟩
theorem Fm.up {os fs : List Nat} {M : Mm} {i k : Nat} {x : Int32} (hi : i ∈ os) (h98 : i ≠ 98) : Fm os fs M (M.1, up2 M.2.1 i k x, M.2.2.1, M.2.2.2) := ⟨⟨rfl, rfl⟩, fun j _ hj => ⟨up2_ne (fun q => hj (q ▸ hi)), rfl⟩, fun _ _ => by show up2 M.2.1 i k x 98 _ = _; rw [up2_ne (fun q => h98 q.symm)]⟩
theorem Fm.upL {os fs : List Nat} {M : Mm} {i k : Nat} {x : Int64} (hi : i ∈ os) : Fm os fs M (M.1, M.2.1, up2 M.2.2.1 i k x, M.2.2.2) := ⟨⟨rfl, rfl⟩, fun j _ hj => ⟨rfl, up2_ne (fun q => hj (q ▸ hi))⟩, fun _ _ => rfl⟩
theorem Fm.upf {os fs : List Nat} {M : Mm} {k : Nat} {x : Int32} (hk : k ∈ fs) : Fm os fs M (M.1, up2 M.2.1 98 k x, M.2.2.1, M.2.2.2) := ⟨⟨rfl, rfl⟩, fun j h98 _ => ⟨up2_ne h98, rfl⟩, fun k' hk' => by
  show up2 M.2.1 98 k x 98 k' = _
  rw [up2_at]
  split
  · rename_i q
    subst q
    exact absurd hk hk'
  · rfl⟩
theorem Fo.m {os : List Nat} {M M' : Mm} (h : Fo os M M') (h98 : 98 ∉ os) : Fm os [] M M' := ⟨h.1, fun i _ hi => h.2 i hi, fun k _ => by rw [(h.2 98 h98).1]⟩
theorem Fm.K {os fs : List Nat} {M M' : Mm} (h : Fm os fs M M') (hK : KM M.1 M.2.2.2) : KM M'.1 M'.2.2.2 := by
  rw [h.1.1, h.1.2]
  exact hK
/-- the model with line l = D at hand -/
def mH (M : Mm) (l : Nat) (D : Nat → Nat) : Prop := KM M.1 M.2.2.2 ∧ HA M l D
theorem mH.fm {os fs : List Nat} {M M' : Mm} {l : Nat} {D : Nat → Nat} (W : mH M l D) (h : Fm os fs M M') (h1 : 104 ∉ os) (h2 : ∀ k, k ∈ fs → k < 23 ∨ 26 < k) : mH M' l D := by
  refine ⟨h.K W.1, ?_⟩
  unfold HA
  have e : ∀ k, 23 ≤ k → k ≤ 26 → M'.2.1 98 k = M.2.1 98 k := fun k a b => h.2.2 k (fun q => by have := h2 k q; omega)
  rw [(h.2.1 104 (by decide) h1).1, e 23 (by decide) (by decide), e 24 (by decide) (by decide), e 25 (by decide) (by decide), e 26 (by decide) (by decide)]
  exact W.2
