/-! more rows, and words for loops -/
theorem up2_s {α : Type} {f : Nat → Nat → α} {i k : Nat} {x : α} : up2 f i k x i k = x := by simp [up2]
theorem up2_o {α : Type} {f : Nat → Nat → α} {i k a b : Nat} {x v : α} (h : ¬ (a = i ∧ b = k)) (hv : f a b = v) : up2 f i k x a b = v := by
  unfold up2
  split
  · rename_i h1
    rw [if_neg (fun q => h ⟨h1, q⟩), hv]
  · exact hv
theorem upto {n : Nat} {P : Nat → Prop} (h : ∀ i, i ≤ n → (i < n → P (i + 1)) → P i) : ∀ i, i ≤ n → P i := by
  have key : ∀ d i, i + d = n → P i := by
    intro d
    induction d with
    | zero => intro i hi; exact h i (by omega) (fun q => absurd q (by omega))
    | succ d ih => intro i hi; exact h i (by omega) (fun _ => ih (i + 1) (by omega))
  exact fun i hi => key (n - i) i (by omega)
theorem downto {P : Nat → Prop} (h : ∀ i, (∀ j, j + 1 = i → P j) → P i) : ∀ i, P i := by
  intro i
  induction i with
  | zero => exact h 0 (fun j hj => absurd hj (by omega))
  | succ i ih => exact h (i + 1) (fun j hj => by have : j = i := by omega
                                                 subst this
                                                 exact ih)
/-- a number or none -/
def oI : Option Nat → Int32
  | none => zI (-1)
  | some n => nI n
/-- the best of the first n by p, of several the first -/
def bestF (p : Nat → Bool) (lt : Nat → Nat → Bool) : Nat → Option Nat
  | 0 => none
  | n + 1 => match bestF p lt n with
    | none => if p n then some n else none
    | some b => if p n && lt n b then some n else some b
theorem bestF_lt {p : Nat → Bool} {lt : Nat → Nat → Bool} : ∀ {n b : Nat}, bestF p lt n = some b → b < n ∧ p b = true
  | 0, b, h => by cases h
  | n + 1, b, h => by
    unfold bestF at h
    split at h
    · split at h
      · cases h
        rename_i hp
        exact ⟨Nat.lt_succ_self _, hp⟩
      · cases h
    · rename_i c hc
      split at h
      · cases h
        rename_i hp
        simp only [Bool.and_eq_true] at hp
        exact ⟨Nat.lt_succ_self _, hp.1⟩
      · cases h
        have := bestF_lt hc
        exact ⟨by omega, this.2⟩
/-- the least number from k on, of f numbers -/
def leastF (p : Nat → Bool) : Nat → Nat → Option Nat
  | 0, _ => none
  | f + 1, k => if p k then some k else leastF p f (k + 1)
section GZ2
variable {C : Ct} {y pc len o t : Nat} {lv : Lv} {ll : Ll} {st : List Value} {M : Mm} {Q : Option Value → Mm → Prop} {ret : Option FieldType} {off : Int} {a b : Int32} {za zb z : Int} {k i c r n ix : Nat}
theorem G_gLv {x : Int64} (hf : fe y pc = some (.getfield ix, len, o, ret)) (ho : o ≠ 14) (hl : fld o ix = some (c, k, 2)) (hT : M.1[r]? = some (c, n)) (hv : M.2.2.1 r k = x) (K : G C y (pc + 3, lv, ll, .long x :: st, M) Q) : G C y (pc, lv, ll, .ref r :: st, M) Q := by
  subst hv
  exact G_gL hf ho hl hT K
theorem G_incZ (hf : fe y pc = some (.iinc k z, len, o, ret)) (hl : lv[k]? = some (some (.int a))) (ea : a = zI za) (K : G C y (pc + 3, lv.set k (some (.int (zI (za + z)))), cl1 ll k, st, M) Q) : G C y (pc, lv, ll, st, M) Q := by
  refine G_S hf rfl rfl ?_ K
  simp only [stp, hl]
  rw [ea, ← zI_add]
  rfl
theorem G_incN (hf : fe y pc = some (.iinc k z, len, o, ret)) (hl : lv[k]? = some (some (.int (nI i)))) (hz : 0 ≤ z) (K : G C y (pc + 3, lv.set k (some (.int (nI (i + z.toNat)))), cl1 ll k, st, M) Q) : G C y (pc, lv, ll, st, M) Q := by
  refine G_S hf rfl rfl ?_ K
  simp only [stp, hl]
  have e : nI (i + z.toNat) = nI i + Int32.ofInt z := by
    rw [← nI_add, nI_zI z.toNat, Int.toNat_of_nonneg hz]
    rfl
  rw [e]
theorem zmax (ea : a.toInt = za) (eb : b.toInt = zb) : (if a < b then b else a) = zI (max za zb) := by
  subst ea eb
  by_cases h : a < b
  · rw [if_pos h, Int.max_eq_right (Int.le_of_lt (Int32.lt_iff_toInt_lt.mp h)), ← zI_of]
  · rw [if_neg h, Int.max_eq_left (Int.not_lt.mp (fun q => h (Int32.lt_iff_toInt_lt.mpr q))), ← zI_of]
theorem zmin (ea : a.toInt = za) (eb : b.toInt = zb) : (if b < a then b else a) = zI (min za zb) := by
  subst ea eb
  by_cases h : b < a
  · rw [if_pos h, Int.min_eq_right (Int.le_of_lt (Int32.lt_iff_toInt_lt.mp h)), ← zI_of]
  · rw [if_neg h, Int.min_eq_left (Int.not_lt.mp (fun q => h (Int32.lt_iff_toInt_lt.mpr q))), ← zI_of]
theorem G_maxZ (hf : fe y pc = some (.invokestatic ix, len, o, ret)) (hc : callOf o (.invokestatic ix) = none) (hs : stp C o (.invokestatic ix) len pc lv ll (.int b :: .int a :: st) M = some (pc + 3, lv, ll, .int (if a < b then b else a) :: st, M)) (ea : a.toInt = za) (eb : b.toInt = zb) (K : G C y (pc + 3, lv, ll, .int (zI (max za zb)) :: st, M) Q) : G C y (pc, lv, ll, .int b :: .int a :: st, M) Q := by
  refine G_S hf rfl hc hs ?_
  rw [zmax ea eb]
  exact K
theorem G_minZ (hf : fe y pc = some (.invokestatic ix, len, o, ret)) (hc : callOf o (.invokestatic ix) = none) (hs : stp C o (.invokestatic ix) len pc lv ll (.int b :: .int a :: st) M = some (pc + 3, lv, ll, .int (if b < a then b else a) :: st, M)) (ea : a.toInt = za) (eb : b.toInt = zb) (K : G C y (pc + 3, lv, ll, .int (zI (min za zb)) :: st, M) Q) : G C y (pc, lv, ll, .int b :: .int a :: st, M) Q := by
  refine G_S hf rfl hc hs ?_
  rw [zmin ea eb]
  exact K
end GZ2
/-! a crew in its world -/
section CW1
variable {C : Ct} {M : Mm} {h S : Nat} {D b : Nat → Nat}
theorem LW.sep (W : LW M h D) {os : List Nat} (ho : ∀ i, i ∈ os → 78 ≤ i ∧ i ≤ 97) : ∀ j, j < 6 → h + j ∉ os := by
  intro j hj q
  have := ho _ q
  have hse := W.2.2.2.1
  unfold Lsep at hse
  omega
theorem o83 : ∀ i, i ∈ [83] → 78 ≤ i ∧ i ≤ 97 := by decide
theorem o8283 : ∀ i, i ∈ [82, 83] → 78 ≤ i ∧ i ≤ 97 := by decide
theorem CW.mk1 {b' : Nat → Nat} {M' : Mm} (W : CW M h D b) (hF : Fc [83] M M') (hw : ∀ r, r < D 2 → M'.2.1 83 r = nI (b' r)) (hb : ∀ r, r < D 2 → b' r < 256) : CW M' h D b' :=
  ⟨W.1.fc hF o83, (hF.2.1 82 0 (Or.inl (by decide))).trans W.2.1, fun r hr => ⟨hw r hr, hb r hr⟩⟩
theorem k_begin (W : LW M h D) : CG C 15 [.ref 82, .ref h] M (fun w M' => w = none ∧ Fc [82, 83] M M' ∧ CW M' h D (layN D 0)) := by
  refine CG.mono (c_begin W.1 W.2.1 W.2.2.2.1 W.2.2.2.2) ?_
  rintro w M' ⟨rfl, hF, hL, hw⟩
  have hD := W.2.2.1.1
  refine ⟨rfl, hF, W.fc hF o8283, hL, fun r hr => ?_⟩
  have hr8 : r < 8 := by have := hD.2.2.1; omega
  rw [layN_0 hD hr8, hw r hr8]
  exact ⟨(W.2.2.1.2.2.2.1 r hr).2, by have := hD.2.2.2.2.2.1 r hr8; omega⟩
theorem k_pulls (W : CW M h D b) (hS : S < 256) : CG C 17 [.ref 82, .int (nI S)] M (fun w M' => w = some (.int (nI (plS D b S (D 2)))) ∧ M' = M) :=
  c_pulls W.1.1 W.2.1 W.1.2.1 W.1.2.2.1 hS W.2.2
theorem k_wear (W : CW M h D b) (hS : S < 256) : CG C 18 [.ref 82, .int (nI S)] M (fun w M' => w = none ∧ Fc [83] M M' ∧ CW M' h D (wn D b S)) := by
  refine CG.mono (c_wearOff W.1.1 W.2.1 W.1.2.1 W.1.2.2.1 W.1.2.2.2.1 hS W.2.2) ?_
  rintro w M' ⟨rfl, hF, hw⟩
  refine ⟨rfl, hF, W.mk1 hF hw (fun r hr => ?_)⟩
  have := (W.2.2 r hr).2
  unfold wn
  split <;> omega
theorem k_climb {k : Nat} (W : CW M h D b) (hS : S < 256) (hk : k ≤ D 0) : CG C 19 [.ref 82, .int (nI S), .int (nI k)] M (fun w M' => w = some (.int (nI (cmF D S (D 0 - k) k b).1)) ∧ Fc [83] M M' ∧ CW M' h D (cmF D S (D 0 - k) k b).2) := by
  refine CG.mono (c_climb W.1.1 W.2.1 W.1.2.1 W.1.2.2.1 W.1.2.2.2.1 hS W.2.2 hk) ?_
  rintro w M' ⟨rfl, hF, hw⟩
  refine ⟨rfl, hF, W.mk1 hF hw (fun r hr => ?_)⟩
  have := (W.2.2 r hr).2
  have := (cmF_le D S (D 0 - k) k b).2.2 r
  omega
theorem k_gets (W : CW M h D b) (hS : S < 256) : CG C 20 [.ref 82, .int (nI S)] M (fun w M' => w = some (.int (b2i ((cmF D S (D 0) 0 b).1 = D 0))) ∧ Fc [83] M M' ∧ CW M' h D (cmF D S (D 0) 0 b).2) := by
  refine CG.mono (c_getsThere W.1.1 W.2.1 W.1.2.1 W.1.2.2.1 W.1.2.2.2.1 hS W.2.2) ?_
  rintro w M' ⟨rfl, hF, hw⟩
  refine ⟨rfl, hF, W.mk1 hF hw (fun r hr => ?_)⟩
  have := (W.2.2 r hr).2
  have := (cmF_le D S (D 0) 0 b).2.2 r
  omega
/-- gets up, with so many ounces more -/
def gB (D : Nat → Nat) (S : Nat) (m : Int) : Bool := decide (pc8 S ≤ D 1) && decide ((cmF D S (D 0) 0 (layN D m)).1 = D 0)
theorem gB_iff {m : Int} : gB D S m = true ↔ pc8 S ≤ D 1 ∧ (cmF D S (D 0) 0 (layN D m)).1 = D 0 := by
  unfold gB
  rw [Bool.and_eq_true, decide_eq_true_eq, decide_eq_true_eq]
theorem pw2 (hn : D 2 ≤ 8) (hS : S < 2 ^ D 2) : S < 256 := Nat.lt_of_lt_of_le hS (pw_le (D 2) (by omega))
theorem k_up (W : LW M h D) (hS : S < 2 ^ D 2) : CG C 21 [.ref 82, .ref h, .int (nI S)] M (fun w M' => w = some (.int (b2i (gB D S 0 = true))) ∧ Fc [82, 83] M M') := by
  refine CG.mono (c_getsUp W.1 W.2.1 W.2.2.1 W.2.2.2.1 W.2.2.2.2 hS) ?_
  rintro w M' ⟨⟨v, rfl, h01, hv⟩, hF⟩
  refine ⟨?_, hF⟩
  have hD := W.2.2.1.1
  have e : (cmF D S (D 0) 0 (fun r => D (19 + r))).1 = (cmF D S (D 0) 0 (layN D 0)).1 := (cmF_cong (D 0) 0 (fun r hr => (layN_0 hD (by have := hD.2.2.1; omega)).symm)).1
  rw [e] at hv
  congr 2
  rcases h01 with rfl | rfl
  · rw [b2i_neg (fun q => absurd (hv.mpr (gB_iff.mp q)) (by decide))]
  · rw [b2i_pos (gB_iff.mpr (hv.mp rfl))]
/-- within(n, 0, 99) -/
theorem c_within {z : Int} (h1 : -100000 ≤ z) (h2 : z ≤ 100000) : CG C 184 [.int (zI z), .int (nI 0), .int (nI 99)] M (fun w M' => w = some (.int (nI (max 0 (min 99 z)).toNat)) ∧ M' = M) := by
  refine CG_in (mL := 3) (hl := false) (lv := [some (.int (zI z)), some (.int (nI 0)), some (.int (nI 99))]) (ll := []) rfl rfl rfl ?_
  refine G_S (pc := 0) f_184_0 rfl rfl rfl ?_
  refine G_S (pc := 1) f_184_1 rfl rfl rfl ?_
  refine G_S (pc := 2) f_184_2 rfl rfl rfl ?_
  first | refine G_minN (pc := 3) f_184_3 rfl rfl (by omega) (by omega) ?_ | refine G_minZ (pc := 3) f_184_3 rfl rfl (by first | exact nI_toInt (by omega) | exact zI_toInt (by omega) (by omega) | rfl) (by first | exact nI_toInt (by omega) | exact zI_toInt (by omega) (by omega) | rfl) ?_
  first | refine G_maxN (pc := 6) f_184_6 rfl rfl (by omega) (by omega) ?_ | refine G_maxZ (pc := 6) f_184_6 rfl rfl (by first | exact nI_toInt (by omega) | exact zI_toInt (by omega) (by omega) | rfl) (by first | exact nI_toInt (by omega) | exact zI_toInt (by omega) (by omega) | rfl) ?_
  refine G_ri (pc := 9) f_184_9 ?_
  refine ⟨?_, rfl⟩
  rw [zI_n (by omega)]
  rfl
end CW1
