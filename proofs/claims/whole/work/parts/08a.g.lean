/-! THE PURE SIDE: a method, by the interpreter, comes to an end with Q -/
def G (C : Ct) (y : Nat) (g : Cg) (Q : Option Value → Mm → Prop) : Prop := ∃ n v Mf, ev C n y g = some (v, Mf) ∧ Q v Mf
theorem G.mono {C : Ct} {y : Nat} {g : Cg} {Q Q' : Option Value → Mm → Prop} (h : G C y g Q) (hq : ∀ v M, Q v M → Q' v M) : G C y g Q' := by
  obtain ⟨n, v, Mf, h1, h2⟩ := h
  exact ⟨n, v, Mf, h1, hq v Mf h2⟩
/-- the instruction at a place: itself, its length, its class, its method's answer -/
def fe (y pc : Nat) : Option (Instr × Nat × Nat × Option FieldType) := match PGL[y]? with
  | none => none
  | some pm => match pm.2.2.2.2.2.2.2.2.lookup pc with
    | none => none
    | some q => some (q.1, q.2, pm.2.2.2.2.1, pm.2.2.2.1)
theorem fe_some {y pc len o : Nat} {ins : Instr} {ret : Option FieldType} (h : fe y pc = some (ins, len, o, ret)) : ∃ pm, PGL[y]? = some pm ∧ pm.2.2.2.2.2.2.2.2.lookup pc = some (ins, len) ∧ pm.2.2.2.2.1 = o ∧ pm.2.2.2.1 = ret := by
  unfold fe at h
  split at h
  · cases h
  · rename_i pm hy
    split at h
    · cases h
    · rename_i q hq
      cases h
      exact ⟨pm, hy, hq, rfl, rfl⟩
section GR
variable {C : Ct} {y pc len o : Nat} {lv : Lv} {ll : Ll} {st : List Value} {M : Mm} {Q : Option Value → Mm → Prop} {ins : Instr} {ret : Option FieldType}
theorem G_S {g' : Cg} (hf : fe y pc = some (ins, len, o, ret)) (hn : isRet ins = false) (hc : callOf o ins = none) (hs : stp C o ins len pc lv ll st M = some g') (K : G C y g' Q) : G C y (pc, lv, ll, st, M) Q := by
  obtain ⟨n, v, Mf, h1, h2⟩ := K
  obtain ⟨pm, hy, hl, rfl, rfl⟩ := fe_some hf
  refine ⟨n + 1, v, Mf, ?_, h2⟩
  show evB C (ev C n) y (pc, lv, ll, st, M) = _
  unfold evB
  rw [hy]
  dsimp only
  rw [hl]
  dsimp only
  rw [hn, if_neg (by decide), hc]
  dsimp only
  rw [hs]
  exact h1
theorem G_R {v : Option Value} (hf : fe y pc = some (ins, len, o, ret)) (hn : isRet ins = true) (hv : rtn ret ins st = some v) (hq : Q v M) : G C y (pc, lv, ll, st, M) Q := by
  obtain ⟨pm, hy, hl, rfl, rfl⟩ := fe_some hf
  refine ⟨1, v, M, ?_, hq⟩
  show evB C (ev C 0) y (pc, lv, ll, st, M) = _
  unfold evB
  rw [hy]
  dsimp only
  rw [hl]
  dsimp only
  rw [hn, if_pos rfl, hv]
/-- a callee as a method called: its locals' number, its class, whether it has longs -/
def ci (y y' : Nat) : Option (Nat × Nat × Bool) := match PGL[y]? with
  | none => none
  | some pm => match PGL[y']? with
    | none => none
    | some pm' => if pm'.2.2.2.2.2.1 < pm.2.2.2.2.2.1 then some (pm'.2.2.1, pm'.2.2.2.2.1, pm'.2.2.2.2.2.2.1) else none
def spl (st : List Value) (k : Nat) : Option (List Value × List Value) := if k ≤ st.length then some ((st.take k).reverse, st.drop k) else none
/-- a method called with these arguments -/
def CG (C : Ct) (y : Nat) (as : List Value) (M : Mm) (Q : Option Value → Mm → Prop) : Prop := ∃ mL hl, (∃ pm, PGL[y]? = some pm ∧ pm.2.2.1 = mL ∧ pm.2.2.2.2.2.2.1 = hl) ∧ G C y (0, entV as mL, entL as mL hl, [], M) Q
theorem CG.mono {as : List Value} {Q' : Option Value → Mm → Prop} (h : CG C y as M Q) (hq : ∀ v M, Q v M → Q' v M) : CG C y as M Q' := by
  obtain ⟨mL, hl, h1, h2⟩ := h
  exact ⟨mL, hl, h1, h2.mono hq⟩
def mi (y : Nat) : Option (Nat × Bool) := match PGL[y]? with
  | none => none
  | some pm => some (pm.2.2.1, pm.2.2.2.2.2.2.1)
theorem CG_in {as : List Value} {mL : Nat} {hl : Bool} (hm : mi y = some (mL, hl)) (hv : entV as mL = lv) (hll : entL as mL hl = ll) (K : G C y (0, lv, ll, [], M) Q) : CG C y as M Q := by
  unfold mi at hm
  split at hm
  · cases hm
  · rename_i pm hy
    cases hm
    exact ⟨_, _, ⟨pm, hy, rfl, rfl⟩, by rw [hv, hll]; exact K⟩
theorem G_C {kd y' np mL oc : Nat} {hl : Bool} {as rest : List Value} (hf : fe y pc = some (ins, len, o, ret)) (hn : isRet ins = false) (hc : callOf o ins = some (kd, y', np)) (hi : ci y y' = some (mL, oc, hl)) (hs : spl st (npop kd np) = some (as, rest)) (hr : rcv kd oc as M = true) (h8 : (rest.map fun v => v.category).sum ≤ 8 ∧ (enV as).length ≤ mL)
    (K : CG C y' as M (fun v M' => G C y (pc + 3, lv, ll, v.toList ++ rest, M') Q)) : G C y (pc, lv, ll, st, M) Q := by
  obtain ⟨mL2, hl2, ⟨pm2, hy2, e1, e2⟩, n, v, M1, h1, n2, v2, Mf, h2, h3⟩ := K
  obtain ⟨pm, hy, hlk, rfl, rfl⟩ := fe_some hf
  unfold ci at hi
  rw [hy] at hi
  dsimp only at hi
  rw [hy2] at hi
  dsimp only at hi
  split at hi
  · rename_i hdep
    obtain ⟨g1, g2⟩ := Prod.mk.inj (Option.some.inj hi)
    obtain ⟨g2, g3⟩ := Prod.mk.inj g2
    subst g1 g2 g3 e1 e2
    unfold spl at hs
    split at hs
    · rename_i hle
      obtain ⟨a1, a2⟩ := Prod.mk.inj (Option.some.inj hs)
      subst a1 a2
      refine ⟨max n n2 + 1, v2, Mf, ?_, h3⟩
      show evB C (ev C (max n n2)) y (pc, lv, ll, st, M) = _
      unfold evB
      rw [hy]
      dsimp only
      rw [hlk]
      dsimp only
      rw [hn, if_neg (by decide), hc]
      dsimp only
      rw [hy2]
      dsimp only
      rw [if_pos ⟨⟨hdep, hle⟩, hr, h8⟩, ev_le (Nat.le_max_left n n2) h1]
      dsimp only
      exact ev_le (Nat.le_max_right n n2) h2
    · cases hs
  · cases hi
/-- fields -/
def fld (o ix : Nat) : Option (Nat × Nat × Nat) := match lk FRL o ix with
  | none => none
  | some (c, k, _, _) => match fk c k with
    | none => none
    | some q => some (c, k, q)
theorem fld_some {ix c k q : Nat} (h : fld o ix = some (c, k, q)) : (∃ n p, lk FRL o ix = some (c, k, n, p)) ∧ fk c k = some q := by
  unfold fld at h
  split at h
  · cases h
  · rename_i c' k' n p hl
    split at h
    · cases h
    · rename_i q' hq
      cases h
      exact ⟨⟨n, p, hl⟩, hq⟩
variable {ix c k q r n : Nat}
theorem G_gI (hf : fe y pc = some (.getfield ix, len, o, ret)) (ho : o ≠ 14) (hl : fld o ix = some (c, k, q)) (hq : q < 2) (hT : M.1[r]? = some (c, n)) (K : G C y (pc + 3, lv, ll, .int (M.2.1 r k) :: st, M) Q) : G C y (pc, lv, ll, .ref r :: st, M) Q := by
  obtain ⟨⟨a, b, h1⟩, h2⟩ := fld_some hl
  refine G_S hf rfl rfl ?_ K
  have hg : gf o ix r M = some (.int (M.2.1 r k)) := by
    unfold gf
    rw [if_neg ho, h1]
    dsimp only
    rw [hT]
    dsimp only
    rw [if_pos rfl, h2]
    rcases (show q = 0 ∨ q = 1 by omega) with rfl | rfl <;> rfl
  simp only [stp, hg, push]
theorem G_gL (hf : fe y pc = some (.getfield ix, len, o, ret)) (ho : o ≠ 14) (hl : fld o ix = some (c, k, 2)) (hT : M.1[r]? = some (c, n)) (K : G C y (pc + 3, lv, ll, .long (M.2.2.1 r k) :: st, M) Q) : G C y (pc, lv, ll, .ref r :: st, M) Q := by
  obtain ⟨⟨a, b, h1⟩, h2⟩ := fld_some hl
  refine G_S hf rfl rfl ?_ K
  have hg : gf o ix r M = some (.long (M.2.2.1 r k)) := by
    unfold gf
    rw [if_neg ho, h1]
    dsimp only
    rw [hT]
    dsimp only
    rw [if_pos rfl, h2]
    rfl
  simp only [stp, hg, push]
theorem G_gR {r' : Nat} (hf : fe y pc = some (.getfield ix, len, o, ret)) (ho : o ≠ 14) (hl : fld o ix = some (c, k, 3)) (hT : M.1[r]? = some (c, n)) (hR : M.2.2.2 r k = some r') (K : G C y (pc + 3, lv, ll, .ref r' :: st, M) Q) : G C y (pc, lv, ll, .ref r :: st, M) Q := by
  obtain ⟨⟨a, b, h1⟩, h2⟩ := fld_some hl
  refine G_S hf rfl rfl ?_ K
  have hg : gf o ix r M = some (.ref r') := by
    unfold gf
    rw [if_neg ho, h1]
    dsimp only
    rw [hT]
    dsimp only
    rw [if_pos rfl, h2, hR]
    rfl
  simp only [stp, hg, push]
theorem G_pI {x : Int32} (hf : fe y pc = some (.putfield ix, len, o, ret)) (hl : fld o ix = some (c, k, 0)) (hT : M.1[r]? = some (c, n)) (K : G C y (pc + 3, lv, ll, st, (M.1, up2 M.2.1 r k x, M.2.2.1, M.2.2.2)) Q) : G C y (pc, lv, ll, .int x :: .ref r :: st, M) Q := by
  obtain ⟨⟨a, b, h1⟩, h2⟩ := fld_some hl
  refine G_S hf rfl rfl ?_ K
  have hg : pf o ix r (.int x) M = some (M.1, up2 M.2.1 r k x, M.2.2.1, M.2.2.2) := by
    unfold pf
    rw [h1]
    dsimp only
    rw [hT]
    dsimp only
    rw [if_pos rfl, h2]
    rfl
  simp only [stp, hg]
theorem G_pZ {x : Int32} (hf : fe y pc = some (.putfield ix, len, o, ret)) (hl : fld o ix = some (c, k, 1)) (hT : M.1[r]? = some (c, n)) (hx : x = 0 ∨ x = 1) (K : G C y (pc + 3, lv, ll, st, (M.1, up2 M.2.1 r k x, M.2.2.1, M.2.2.2)) Q) : G C y (pc, lv, ll, .int x :: .ref r :: st, M) Q := by
  obtain ⟨⟨a, b, h1⟩, h2⟩ := fld_some hl
  refine G_S hf rfl rfl ?_ K
  have hg : pf o ix r (.int x) M = some (M.1, up2 M.2.1 r k x, M.2.2.1, M.2.2.2) := by
    unfold pf
    rw [h1]
    dsimp only
    rw [hT]
    dsimp only
    rw [if_pos rfl, h2]
    exact if_pos hx
  simp only [stp, hg]
theorem G_pL {x : Int64} (hf : fe y pc = some (.putfield ix, len, o, ret)) (hl : fld o ix = some (c, k, 2)) (hT : M.1[r]? = some (c, n)) (K : G C y (pc + 3, lv, ll, st, (M.1, M.2.1, up2 M.2.2.1 r k x, M.2.2.2)) Q) : G C y (pc, lv, ll, .long x :: .ref r :: st, M) Q := by
  obtain ⟨⟨a, b, h1⟩, h2⟩ := fld_some hl
  refine G_S hf rfl rfl ?_ K
  have hg : pf o ix r (.long x) M = some (M.1, M.2.1, up2 M.2.2.1 r k x, M.2.2.2) := by
    unfold pf
    rw [h1]
    dsimp only
    rw [hT]
    dsimp only
    rw [if_pos rfl, h2]
    rfl
  simp only [stp, hg]
theorem G_pR {a0 : Nat} (hf : fe y pc = some (.putfield ix, len, o, ret)) (hl : fld o ix = some (c, k, 3)) (hT : M.1[r]? = some (c, n)) (ha : a0 < 1000000) (K : G C y (pc + 3, lv, ll, st, (M.1, M.2.1, M.2.2.1, up2 M.2.2.2 r k (some a0))) Q) : G C y (pc, lv, ll, .ref a0 :: .ref r :: st, M) Q := by
  obtain ⟨⟨a, b, h1⟩, h2⟩ := fld_some hl
  refine G_S hf rfl rfl ?_ K
  have hg : pf o ix r (.ref a0) M = some (M.1, M.2.1, M.2.2.1, up2 M.2.2.2 r k (some a0)) := by
    unfold pf
    rw [h1]
    dsimp only
    rw [hT]
    dsimp only
    rw [if_pos rfl, h2]
    exact if_pos ha
  simp only [stp, hg]
variable {j x : Int32}
/-- an index within a row -/
def inn (j : Int32) (n : Nat) : Prop := ¬ (j < 0 ∨ n ≤ j.toNatClampNeg)
theorem inn_nI {i n : Nat} (h : i < n) (hn : n < 2 ^ 31) : inn (nI i) n := nI_in h hn
theorem G_ia (hf : fe y pc = some (.iaload, len, o, ret)) (hT : M.1[r]? = some (50, n)) (hin : inn j n) (K : G C y (pc + 1, lv, ll, .int (M.2.1 r j.toNatClampNeg) :: st, M) Q) : G C y (pc, lv, ll, .int j :: .ref r :: st, M) Q := by
  refine G_S hf rfl rfl ?_ K
  simp only [stp, ar, hT]
  exact if_pos ⟨trivial, hin⟩
theorem G_iac {f : Nat → Int32} (hf : fe y pc = some (.iaload, len, o, ret)) (hT : M.1[r]? = none) (hC : C r = some (50, n, f)) (hin : inn j n) (K : G C y (pc + 1, lv, ll, .int (f j.toNatClampNeg) :: st, M) Q) : G C y (pc, lv, ll, .int j :: .ref r :: st, M) Q := by
  refine G_S hf rfl rfl ?_ K
  simp only [stp, ar, hT, hC]
  exact if_pos ⟨trivial, hin⟩
theorem G_ba {kd : Nat} (hf : fe y pc = some (.baload, len, o, ret)) (hT : M.1[r]? = some (kd, n)) (hk : kd = 51 ∨ kd = 52) (hin : inn j n) (K : G C y (pc + 1, lv, ll, .int (M.2.1 r j.toNatClampNeg) :: st, M) Q) : G C y (pc, lv, ll, .int j :: .ref r :: st, M) Q := by
  refine G_S hf rfl rfl ?_ K
  simp only [stp, ar, hT]
  exact if_pos ⟨hk, hin⟩
theorem G_bac {f : Nat → Int32} (hf : fe y pc = some (.baload, len, o, ret)) (hT : M.1[r]? = none) (hC : C r = some (51, n, f)) (hin : inn j n) (K : G C y (pc + 1, lv, ll, .int (f j.toNatClampNeg) :: st, M) Q) : G C y (pc, lv, ll, .int j :: .ref r :: st, M) Q := by
  refine G_S hf rfl rfl ?_ K
  simp only [stp, ar, hT, hC]
  exact if_pos ⟨Or.inl trivial, hin⟩
theorem G_la (hf : fe y pc = some (.laload, len, o, ret)) (hT : M.1[r]? = some (53, n)) (hin : inn j n) (K : G C y (pc + 1, lv, ll, .long (M.2.2.1 r j.toNatClampNeg) :: st, M) Q) : G C y (pc, lv, ll, .int j :: .ref r :: st, M) Q := by
  refine G_S hf rfl rfl ?_ K
  simp only [stp, hT]
  exact if_pos ⟨trivial, hin⟩
theorem G_aa {kd r' : Nat} (hf : fe y pc = some (.aaload, len, o, ret)) (hT : M.1[r]? = some (kd, n)) (hk : 54 ≤ kd ∧ kd ≤ 58) (hin : inn j n) (hR : M.2.2.2 r j.toNatClampNeg = some r') (K : G C y (pc + 1, lv, ll, .ref r' :: st, M) Q) : G C y (pc, lv, ll, .int j :: .ref r :: st, M) Q := by
  refine G_S hf rfl rfl ?_ K
  simp only [stp, hT, hR]
  exact if_pos ⟨hk, hin⟩
theorem G_aaN {kd : Nat} (hf : fe y pc = some (.aaload, len, o, ret)) (hT : M.1[r]? = some (kd, n)) (hk : 54 ≤ kd ∧ kd ≤ 58) (hin : inn j n) (hR : M.2.2.2 r j.toNatClampNeg = none) (K : G C y (pc + 1, lv, ll, .null :: st, M) Q) : G C y (pc, lv, ll, .int j :: .ref r :: st, M) Q := by
  refine G_S hf rfl rfl ?_ K
  simp only [stp, hT, hR]
  exact if_pos ⟨hk, hin⟩
theorem G_is (hf : fe y pc = some (.iastore, len, o, ret)) (hT : M.1[r]? = some (50, n)) (hin : inn j n) (K : G C y (pc + 1, lv, ll, st, (M.1, up2 M.2.1 r j.toNatClampNeg x, M.2.2.1, M.2.2.2)) Q) : G C y (pc, lv, ll, .int x :: .int j :: .ref r :: st, M) Q := by
  refine G_S hf rfl rfl ?_ K
  simp only [stp, hT]
  exact if_pos ⟨trivial, hin⟩
theorem G_bs (hf : fe y pc = some (.bastore, len, o, ret)) (hT : M.1[r]? = some (51, n)) (hin : inn j n) (K : G C y (pc + 1, lv, ll, st, (M.1, up2 M.2.1 r j.toNatClampNeg x.toInt8.toInt32, M.2.2.1, M.2.2.2)) Q) : G C y (pc, lv, ll, .int x :: .int j :: .ref r :: st, M) Q := by
  refine G_S hf rfl rfl ?_ K
  simp only [stp, hT]
  rw [if_pos ⟨Or.inl trivial, hin⟩, if_pos trivial]
theorem G_zs (hf : fe y pc = some (.bastore, len, o, ret)) (hT : M.1[r]? = some (52, n)) (hin : inn j n) (K : G C y (pc + 1, lv, ll, st, (M.1, up2 M.2.1 r j.toNatClampNeg (x &&& 1), M.2.2.1, M.2.2.2)) Q) : G C y (pc, lv, ll, .int x :: .int j :: .ref r :: st, M) Q := by
  refine G_S hf rfl rfl ?_ K
  simp only [stp, hT]
  exact if_pos ⟨Or.inr trivial, hin⟩
theorem G_ls {x : Int64} (hf : fe y pc = some (.lastore, len, o, ret)) (hT : M.1[r]? = some (53, n)) (hin : inn j n) (K : G C y (pc + 1, lv, ll, st, (M.1, M.2.1, up2 M.2.2.1 r j.toNatClampNeg x, M.2.2.2)) Q) : G C y (pc, lv, ll, .long x :: .int j :: .ref r :: st, M) Q := by
  refine G_S hf rfl rfl ?_ K
  simp only [stp, hT]
  exact if_pos ⟨trivial, hin⟩
theorem G_len {kd : Nat} (hf : fe y pc = some (.arraylength, len, o, ret)) (hT : M.1[r]? = some (kd, n)) (hk : 50 ≤ kd ∧ kd ≤ 58) (K : G C y (pc + 1, lv, ll, .int (nI n) :: st, M) Q) : G C y (pc, lv, ll, .ref r :: st, M) Q := by
  refine G_S hf rfl rfl ?_ K
  simp only [stp, ar, hT]
  exact if_pos hk
end GR
