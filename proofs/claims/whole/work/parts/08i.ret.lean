/-! returns and other rows -/
section GRT
variable {C : Ct} {y pc len o t : Nat} {lv : Lv} {ll : Ll} {st : List Value} {M : Mm} {Q : Option Value → Mm → Prop} {ret : Option FieldType} {off : Int}
theorem G_ri {x : Int32} (hf : fe y pc = some (.ireturn, len, o, some .int)) (hq : Q (some (.int x)) M) : G C y (pc, lv, ll, [.int x], M) Q := G_R hf rfl (if_pos rfl) hq
theorem G_rz {x : Int32} (hf : fe y pc = some (.ireturn, len, o, some .boolean)) (hx : x = 0 ∨ x = 1) (hq : Q (some (.int x)) M) : G C y (pc, lv, ll, [.int x], M) Q := G_R hf rfl (if_pos (by rcases hx with rfl | rfl <;> rfl)) hq
theorem G_rn {x : Int32} {ty : FieldType} (hf : fe y pc = some (.ireturn, len, o, some ty)) (hx : narrow ty (.int x) = .int x) (hq : Q (some (.int x)) M) : G C y (pc, lv, ll, [.int x], M) Q := G_R hf rfl (if_pos hx) hq
theorem G_rv (hf : fe y pc = some (.return_, len, o, none)) (hq : Q none M) : G C y (pc, lv, ll, [], M) Q := G_R hf rfl rfl hq
theorem G_rl {x : Int64} (hf : fe y pc = some (.lreturn, len, o, some .long)) (hq : Q (some (.long x)) M) : G C y (pc, lv, ll, [.long x], M) Q := G_R hf rfl rfl hq
theorem G_ra {r : Nat} {E : String} (hf : fe y pc = some (.areturn, len, o, some (.object E))) (hq : Q (some (.ref r)) M) : G C y (pc, lv, ll, [.ref r], M) Q := G_R hf rfl rfl hq
theorem G_rnl {E : String} (hf : fe y pc = some (.areturn, len, o, some (.object E))) (hq : Q (some .null) M) : G C y (pc, lv, ll, [.null], M) Q := G_R hf rfl rfl hq
theorem G_div {a b : Int32} (hf : fe y pc = some (.idiv, len, o, ret)) (hb : ¬ b = 0) (K : G C y (pc + 1, lv, ll, .int (a / b) :: st, M) Q) : G C y (pc, lv, ll, .int b :: .int a :: st, M) Q := G_S hf rfl rfl (if_neg hb) K
theorem G_rem {a b : Int32} (hf : fe y pc = some (.irem, len, o, ret)) (hb : ¬ b = 0) (K : G C y (pc + 1, lv, ll, .int (a - a / b * b) :: st, M) Q) : G C y (pc, lv, ll, .int b :: .int a :: st, M) Q := G_S hf rfl rfl (if_neg hb) K
theorem G_ic {n : Int} {v : Int32} (hf : fe y pc = some (.iconst n, len, o, ret)) (hv : Int32.ofInt n = v) (K : G C y (pc + 1, lv, ll, .int v :: st, M) Q) : G C y (pc, lv, ll, st, M) Q := by
  subst hv
  exact G_S hf rfl rfl rfl K
theorem G_bi {n : Int} {v : Int32} (hf : fe y pc = some (.bipush n, len, o, ret)) (hv : (Int8.ofInt n).toInt32 = v) (K : G C y (pc + 2, lv, ll, .int v :: st, M) Q) : G C y (pc, lv, ll, st, M) Q := by
  subst hv
  exact G_S hf rfl rfl rfl K
theorem G_si {n : Int} {v : Int32} (hf : fe y pc = some (.sipush n, len, o, ret)) (hv : (Int16.ofInt n).toInt32 = v) (K : G C y (pc + 3, lv, ll, .int v :: st, M) Q) : G C y (pc, lv, ll, st, M) Q := by
  subst hv
  exact G_S hf rfl rfl rfl K
theorem nI_add1 (i : Nat) : nI i + Int32.ofInt 1 = nI (i + 1) := (nI_succ i).symm
theorem G_inc1 {k i : Nat} (hf : fe y pc = some (.iinc k 1, len, o, ret)) (hl : lv[k]? = some (some (.int (nI i)))) (K : G C y (pc + 3, lv.set k (some (.int (nI (i + 1)))), cl1 ll k, st, M) Q) : G C y (pc, lv, ll, st, M) Q := by
  refine G_S hf rfl rfl ?_ K
  simp only [stp, hl]
  rw [nI_add1]
/-- the sign test of a switch's number -/
theorem G_tsO {dflt lo hi : Int} {offs : Array Int} {x : Int32} (hf : fe y pc = some (.tableswitch dflt lo hi offs, len, o, ret)) (ht : jmp pc dflt = some t) (h : x.toInt < lo ∨ hi < x.toInt) (K : G C y (t, lv, ll, st, M) Q) : G C y (pc, lv, ll, .int x :: st, M) Q := by
  refine G_S hf rfl rfl ?_ K
  simp only [stp, ht]
  exact if_pos h
theorem G_tsI {dflt lo hi off : Int} {offs : Array Int} {x : Int32} (hf : fe y pc = some (.tableswitch dflt lo hi offs, len, o, ret)) (h : ¬ (x.toInt < lo ∨ hi < x.toInt)) (ho : offs[(x.toInt - lo).toNat]? = some off) (ht : jmp pc off = some t) (K : G C y (t, lv, ll, st, M) Q) : G C y (pc, lv, ll, .int x :: st, M) Q := by
  refine G_S hf rfl rfl ?_ K
  simp only [stp]
  rw [if_neg h, ho]
  simp only [ht]
/-- a copy of a row -/
theorem G_cp {ix d s k0 n0 n1 yy np pos : Nat} {n dp sp : Int32} (hf : fe y pc = some (.invokestatic ix, len, o, ret)) (hl : lk CRL o ix = some (6, yy, np, pos)) (hT0 : M.1[s]? = some (k0, n0)) (hT1 : M.1[d]? = some (k0, n1)) (hk : k0 = 50 ∨ k0 = 51) (h0 : ¬ sp < 0 ∧ ¬ dp < 0 ∧ ¬ n < 0) (h1 : sp.toNatClampNeg + n.toNatClampNeg ≤ n0) (h2 : dp.toNatClampNeg + n.toNatClampNeg ≤ n1)
    (K : G C y (pc + 3, lv, ll, [], (M.1, up1 M.2.1 d (va_cpy (M.2.1 s) (M.2.1 d) sp.toNatClampNeg dp.toNatClampNeg n.toNatClampNeg), M.2.2.1, M.2.2.2)) Q) : G C y (pc, lv, ll, [.int n, .int dp, .ref d, .int sp, .ref s], M) Q := by
  refine G_S hf rfl (by simp [callOf, hl]) ?_ K
  simp only [stp, hl, hT0, hT1]
  rw [if_pos trivial]
  exact if_pos ⟨⟨trivial, hk⟩, h0, h1, h2⟩
end GRT
