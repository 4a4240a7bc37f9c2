/-! new objects on any memory -/
/-- a memory with a new cell behind it -/
def nwM (M : Mm) (kd n : Nat) : Mm := (M.1 ++ [(kd, n)], up1 M.2.1 M.1.length (fun _ => 0), up1 M.2.2.1 M.1.length (fun _ => 0), up1 M.2.2.2 M.1.length (fun _ => none))
theorem nw_eq {M : Mm} {kd n : Nat} (hL : M.1.length < 999999) (hn : n ≤ 100000) : nw M kd n = some (M.1.length, nwM M kd n) := if_pos ⟨hL, hn⟩
/-- from b on the cells T, with the references R among them; all below is as it was -/
def Bd (b : Nat) (M0 : Mm) (T : List (Nat × Nat)) (R : List (Nat × Nat × Nat)) (M : Mm) : Prop := M.1.length = b + T.length ∧ (∀ i, i < T.length → M.1[b + i]? = T[i]?) ∧ (∀ q, q ∈ R → M.2.2.2 (b + q.1) q.2.1 = some (b + q.2.2)) ∧ ∀ i, i < b → M.1[i]? = M0.1[i]? ∧ M.2.1 i = M0.2.1 i ∧ M.2.2.1 i = M0.2.2.1 i ∧ M.2.2.2 i = M0.2.2.2 i
section BDS
variable {b m : Nat} {M0 M M' : Mm} {T : List (Nat × Nat)} {R : List (Nat × Nat × Nat)}
theorem Bd.start : Bd M.1.length M [] [] M := ⟨rfl, fun i hi => absurd hi (Nat.not_lt_zero i), fun q hq => (by cases hq), fun _ _ => ⟨rfl, rfl, rfl, rfl⟩⟩
theorem Bd.ty {i : Nat} {x : Nat × Nat} (h : Bd b M0 T R M) (hx : T[i]? = some x) : M.1[b + i]? = some x := by
  have hi : i < T.length := (List.getElem?_eq_some_iff.mp hx).1
  rw [h.2.1 i hi, hx]
theorem Bd.rf {i k a : Nat} (h : Bd b M0 T R M) (hx : (i, k, a) ∈ R) : M.2.2.2 (b + i) k = some (b + a) := h.2.2.1 _ hx
theorem Bd.new {kd n : Nat} (h : Bd b M0 T R M) (hT : T.length = m) (hR : (R.all fun q => decide (q.1 < m)) = true) : Bd b M0 (T ++ [(kd, n)]) R (nwM M kd n) := by
  obtain ⟨h1, h2, h3, h4⟩ := h
  have hR' : ∀ q, q ∈ R → q.1 < m := fun q hq => of_decide_eq_true (List.all_eq_true.mp hR q hq)
  unfold nwM
  refine ⟨?_, fun i hi => ?_, fun q hq => ?_, fun i hi => ⟨?_, ?_, ?_, ?_⟩⟩
  · simp only [List.length_append, List.length_cons, List.length_nil]
    omega
  · dsimp only
    simp only [List.length_append, List.length_cons, List.length_nil] at hi
    by_cases q : i < T.length
    · rw [List.getElem?_append_left (by omega), List.getElem?_append_left q]
      exact h2 i q
    · rw [List.getElem?_append_right (by omega), List.getElem?_append_right (by omega)]
      congr 1
      omega
  · dsimp only
    rw [up1_o (by have := hR' q hq; omega) rfl]
    exact h3 q hq
  · dsimp only
    rw [List.getElem?_append_left (by omega)]
    exact (h4 i hi).1
  · exact up1_o (by omega) (h4 i hi).2.1
  · exact up1_o (by omega) (h4 i hi).2.2.1
  · exact up1_o (by omega) (h4 i hi).2.2.2
theorem Bd.put {i k a : Nat} (h : Bd b M0 T R M) (hR : (R.all fun q => decide (¬ (q.1 = i ∧ q.2.1 = k))) = true) : Bd b M0 T (R ++ [(i, k, a)]) (M.1, M.2.1, M.2.2.1, up2 M.2.2.2 (b + i) k (some (b + a))) := by
  obtain ⟨h1, h2, h3, h4⟩ := h
  have hR' : ∀ q, q ∈ R → ¬ (q.1 = i ∧ q.2.1 = k) := fun q hq => of_decide_eq_true (List.all_eq_true.mp hR q hq)
  refine ⟨h1, h2, fun q hq => ?_, fun j hj => ⟨(h4 j hj).1, (h4 j hj).2.1, (h4 j hj).2.2.1, ?_⟩⟩
  · rcases List.mem_append.mp hq with hq | hq
    · exact up2_o (fun z => hR' q hq ⟨by omega, z.2⟩) (h3 q hq)
    · obtain rfl := List.mem_singleton.mp hq
      exact up2_s
  · dsimp only
    rw [up2_ne (by omega)]
    exact (h4 j hj).2.2.2
/-- a frame: only numbers from b on change -/
def Fge (b : Nat) (M M' : Mm) : Prop := (M'.1 = M.1 ∧ M'.2.2.2 = M.2.2.2) ∧ ∀ i, i < b → M'.2.1 i = M.2.1 i ∧ M'.2.2.1 i = M.2.2.1 i
theorem Fge.tr {M1 M2 : Mm} (h1 : Fge b M M1) (h2 : Fge b M1 M2) : Fge b M M2 := ⟨⟨h2.1.1.trans h1.1.1, h2.1.2.trans h1.1.2⟩, fun i hi => ⟨(h2.2 i hi).1.trans (h1.2 i hi).1, (h2.2 i hi).2.trans (h1.2 i hi).2⟩⟩
theorem Fge.up {i k : Nat} {x : Int32} (h : b ≤ i) : Fge b M (M.1, up2 M.2.1 i k x, M.2.2.1, M.2.2.2) := ⟨⟨rfl, rfl⟩, fun j hj => ⟨up2_ne (by omega), rfl⟩⟩
theorem Bd.ge (h : Bd b M0 T R M) (hF : Fge b M M') : Bd b M0 T R M' := by
  obtain ⟨h1, h2, h3, h4⟩ := h
  obtain ⟨⟨e1, e2⟩, e3⟩ := hF
  unfold Bd
  rw [e1, e2]
  exact ⟨h1, h2, h3, fun i hi => ⟨(h4 i hi).1, (e3 i hi).1.trans (h4 i hi).2.1, (e3 i hi).2.trans (h4 i hi).2.2.1, (h4 i hi).2.2.2⟩⟩
/-- the last cell, seen alone -/
theorem Bd.last {x : Nat × Nat} (h : Bd b M0 T R M) (hT : T.length = m + 1) (hx : T[m]? = some x) : Bd (b + m) M [x] [] M := ⟨by rw [h.1, hT]; rfl, fun i hi => by
    obtain rfl : i = 0 := Nat.lt_one_iff.mp hi
    exact h.ty hx, fun q hq => (by cases hq), fun _ _ => ⟨rfl, rfl, rfl, rfl⟩⟩
theorem Bd.cat {x : Nat × Nat} {L : List (Nat × Nat)} {RL : List (Nat × Nat × Nat)} (h : Bd b M0 T R M) (h1 : Bd (b + m) M (x :: L) RL M') (hT : T.length = m + 1) (hx : T[m]? = some x) (hR : (R.all fun q => decide (q.1 < m)) = true) : Bd b M0 (T ++ L) (R ++ RL.map (fun q => (q.1 + m, q.2.1, q.2.2 + m))) M' := by
  obtain ⟨a1, a2, a3, a4⟩ := h
  obtain ⟨c1, c2, c3, c4⟩ := h1
  have hR' : ∀ q, q ∈ R → q.1 < m := fun q hq => of_decide_eq_true (List.all_eq_true.mp hR q hq)
  have hl : (x :: L).length = L.length + 1 := List.length_cons
  refine ⟨?_, fun i hi => ?_, fun q hq => ?_, fun i hi => ?_⟩
  · rw [c1, hl, List.length_append]
    omega
  · rw [List.length_append] at hi
    by_cases q : i < T.length
    · rw [List.getElem?_append_left q]
      by_cases z : i < m
      · rw [(c4 (b + i) (by omega)).1]
        exact a2 i q
      · obtain rfl : i = m := by omega
        rw [hx]
        exact c2 0 (by omega)
    · rw [List.getElem?_append_right (by omega)]
      have e := c2 (i - m) (by omega)
      rw [show b + m + (i - m) = b + i by omega] at e
      rw [e, show i - m = (i - T.length) + 1 by omega, List.getElem?_cons_succ]
  · rcases List.mem_append.mp hq with hq | hq
    · have := hR' q hq
      rw [(c4 (b + q.1) (by omega)).2.2.2]
      exact a3 q hq
    · obtain ⟨p, hp, rfl⟩ := List.mem_map.mp hq
      dsimp only
      rw [show b + (p.1 + m) = b + m + p.1 by omega, show b + (p.2.2 + m) = b + m + p.2.2 by omega]
      exact c3 p hp
  · have e := c4 i (by omega)
    have e' := a4 i hi
    exact ⟨e.1.trans e'.1, e.2.1.trans e'.2.1, e.2.2.1.trans e'.2.2.1, e.2.2.2.trans e'.2.2.2⟩
end BDS
section BDG
variable {C : Ct} {y pc len o : Nat} {lv : Lv} {ll : Ll} {st : List Value} {M M0 : Mm} {Q : Option Value → Mm → Prop} {ret : Option FieldType} {b m : Nat} {T : List (Nat × Nat)} {R : List (Nat × Nat × Nat)}
theorem nn0 {n : Nat} (h : n < 2 ^ 31) : ¬ nI n < 0 := fun q => by
  have := Int32.lt_iff_toInt_lt.mp q
  rw [nI_toInt h] at this
  have z : (0 : Int32).toInt = 0 := rfl
  omega
theorem G_na {t : ArrayType} {kd n : Nat} (hf : fe y pc = some (.newarray t, len, o, ret)) (hk : kdA t = some kd) (hn : n ≤ 100000) (hL : M.1.length < 999999) (K : G C y (pc + 2, lv, ll, .ref M.1.length :: st, nwM M kd n) Q) : G C y (pc, lv, ll, .int (nI n) :: st, M) Q := by
  refine G_S hf rfl rfl ?_ K
  simp only [stp]
  rw [if_neg (nn0 (by omega)), hk]
  dsimp only
  rw [nI_clamp (by omega), nw_eq hL hn]
theorem G_nr {ix kd n : Nat} (hf : fe y pc = some (.anewarray ix, len, o, ret)) (hk : (lk NRL o ix).bind kdR = some kd) (hn : n ≤ 100000) (hL : M.1.length < 999999) (K : G C y (pc + 3, lv, ll, .ref M.1.length :: st, nwM M kd n) Q) : G C y (pc, lv, ll, .int (nI n) :: st, M) Q := by
  refine G_S hf rfl rfl ?_ K
  simp only [stp]
  rw [if_neg (nn0 (by omega)), hk]
  dsimp only
  rw [nI_clamp (by omega), nw_eq hL hn]
theorem G_nn {ix c n : Nat} (hf : fe y pc = some (.new ix, len, o, ret)) (hk : lk NRL o ix = some c) (hc : c < 13) (hs : szf c = n) (hn : n ≤ 100000) (hL : M.1.length < 999999) (K : G C y (pc + 3, lv, ll, .ref M.1.length :: st, nwM M c n) Q) : G C y (pc, lv, ll, st, M) Q := by
  refine G_S hf rfl rfl ?_ K
  simp only [stp]
  rw [hk]
  dsimp only
  rw [if_pos hc, hs, nw_eq hL hn]
theorem G_as {kd kc n n' r a i : Nat} (hf : fe y pc = some (.aastore, len, o, ret)) (hT : M.1[r]? = some (kd, n)) (hA : M.1[a]? = some (kc, n')) (hc : kc < 50 ∧ cmp kd = some kc) (hi : i < n) (hn : n < 2 ^ 31) (K : G C y (pc + 1, lv, ll, st, (M.1, M.2.1, M.2.2.1, up2 M.2.2.2 r i (some a))) Q) : G C y (pc, lv, ll, .ref a :: .int (nI i) :: .ref r :: st, M) Q := by
  refine G_S hf rfl rfl ?_ K
  simp only [stp, hT, hA]
  rw [if_pos ⟨hc, inn_nI hi hn⟩, nI_clamp (by omega)]
/-- a constructor called -/
theorem G_CI {ins : Instr} {kd y' np mL oc r : Nat} {hl : Bool} {as rest : List Value} (hf : fe y pc = some (ins, len, o, ret)) (hn : isRet ins = false) (hc : callOf o ins = some (kd, y', np)) (hk : 4 ≤ kd) (hi : ci y y' = some (mL, oc, hl)) (hs : spl st (npop kd np) = some (.ref r :: as, rest)) (hr : r < 1000000) (h8 : (rest.map fun v => v.category).sum ≤ 8 ∧ (enV (.ref r :: as)).length ≤ mL)
    (K : CG C y' (.ref r :: as) M (fun v M' => G C y (pc + 3, lv, ll, v.toList ++ rest, M') Q)) : G C y (pc, lv, ll, st, M) Q :=
  G_C hf hn hc hi hs (by
    unfold rcv
    rw [if_neg (by omega)]
    dsimp only
    rw [if_pos hk]
    exact decide_eq_true hr) h8 K
/-- Object's own constructor -/
theorem G_oi {ix r : Nat} (hf : fe y pc = some (.invokespecial ix, len, o, ret)) (hc : callOf o (.invokespecial ix) = none) (hk : (lk CRL o ix).map (fun q => q.1) = some 10) (hr : r < 1000000) (h8 : (st.map fun v => v.category).sum ≤ 8) (K : G C y (pc + 3, lv, ll, st, M) Q) : G C y (pc, lv, ll, .ref r :: st, M) Q := by
  refine G_S hf rfl hc ?_ K
  obtain ⟨q, hq, e⟩ := Option.map_eq_some_iff.mp hk
  simp only [stp, hq]
  rw [if_pos e, if_pos ⟨h8, hr⟩]
theorem B_na {t : ArrayType} {kd n : Nat} (hB : Bd b M0 T R M) (hf : fe y pc = some (.newarray t, len, o, ret)) (hk : kdA t = some kd) (hT : T.length = m) (hn : n ≤ 100000) (hL : b + m < 999999) (hR : (R.all fun q => decide (q.1 < m)) = true) (K : ∀ M', Bd b M0 (T ++ [(kd, n)]) R M' → G C y (pc + 2, lv, ll, .ref (b + m) :: st, M') Q) : G C y (pc, lv, ll, .int (nI n) :: st, M) Q := by
  have e : M.1.length = b + m := by rw [hB.1, hT]
  refine G_na hf hk hn (by omega) ?_
  rw [e]
  exact K _ (hB.new hT hR)
theorem B_nr {ix kd n : Nat} (hB : Bd b M0 T R M) (hf : fe y pc = some (.anewarray ix, len, o, ret)) (hk : (lk NRL o ix).bind kdR = some kd) (hT : T.length = m) (hn : n ≤ 100000) (hL : b + m < 999999) (hR : (R.all fun q => decide (q.1 < m)) = true) (K : ∀ M', Bd b M0 (T ++ [(kd, n)]) R M' → G C y (pc + 3, lv, ll, .ref (b + m) :: st, M') Q) : G C y (pc, lv, ll, .int (nI n) :: st, M) Q := by
  have e : M.1.length = b + m := by rw [hB.1, hT]
  refine G_nr hf hk hn (by omega) ?_
  rw [e]
  exact K _ (hB.new hT hR)
theorem B_nn {ix c n : Nat} (hB : Bd b M0 T R M) (hf : fe y pc = some (.new ix, len, o, ret)) (hk : lk NRL o ix = some c) (hc : c < 13) (hs : szf c = n) (hT : T.length = m) (hn : n ≤ 100000) (hL : b + m < 999999) (hR : (R.all fun q => decide (q.1 < m)) = true) (K : ∀ M', Bd b M0 (T ++ [(c, n)]) R M' → G C y (pc + 3, lv, ll, .ref (b + m) :: st, M') Q) : G C y (pc, lv, ll, st, M) Q := by
  have e : M.1.length = b + m := by rw [hB.1, hT]
  refine G_nn hf hk hc hs hn (by omega) ?_
  rw [e]
  exact K _ (hB.new hT hR)
theorem B_pR {ix c k n i a r a0 : Nat} (hB : Bd b M0 T R M) (hf : fe y pc = some (.putfield ix, len, o, ret)) (hl : fld o ix = some (c, k, 3)) (hr : r = b + i) (ha : a0 = b + a) (hT : T[i]? = some (c, n)) (hL : b + a < 1000000) (hR : (R.all fun q => decide (¬ (q.1 = i ∧ q.2.1 = k))) = true) (K : ∀ M', Bd b M0 T (R ++ [(i, k, a)]) M' → G C y (pc + 3, lv, ll, st, M') Q) : G C y (pc, lv, ll, .ref a0 :: .ref r :: st, M) Q := by
  subst hr ha
  exact G_pR hf hl (hB.ty hT) hL (K _ (hB.put hR))
theorem B_pI {ix c k n i r : Nat} {x : Int32} (hB : Bd b M0 T R M) (hf : fe y pc = some (.putfield ix, len, o, ret)) (hl : fld o ix = some (c, k, 0)) (hr : r = b + i) (hT : T[i]? = some (c, n)) (K : ∀ M', Bd b M0 T R M' → G C y (pc + 3, lv, ll, st, M') Q) : G C y (pc, lv, ll, .int x :: .ref r :: st, M) Q := by
  subst hr
  exact G_pI hf hl (hB.ty hT) (K _ (hB.ge (Fge.up (Nat.le_add_right b i))))
theorem B_gR {ix c k n i a r : Nat} (hB : Bd b M0 T R M) (hf : fe y pc = some (.getfield ix, len, o, ret)) (ho : o ≠ 14) (hl : fld o ix = some (c, k, 3)) (hr : r = b + i) (hT : T[i]? = some (c, n)) (hR : (i, k, a) ∈ R) (K : G C y (pc + 3, lv, ll, .ref (b + a) :: st, M) Q) : G C y (pc, lv, ll, .ref r :: st, M) Q := by
  subst hr
  exact G_gR hf ho hl (hB.ty hT) (hB.rf hR) K
theorem B_as {kd kc n n' i a j : Nat} (hB : Bd b M0 T R M) (hf : fe y pc = some (.aastore, len, o, ret)) (hT : T[i]? = some (kd, n)) (hA : T[a]? = some (kc, n')) (hc : kc < 50 ∧ cmp kd = some kc) (hi : j < n) (hn : n < 2 ^ 31) (hR : (R.all fun q => decide (¬ (q.1 = i ∧ q.2.1 = j))) = true) (K : ∀ M', Bd b M0 T (R ++ [(i, j, a)]) M' → G C y (pc + 1, lv, ll, st, M') Q) : G C y (pc, lv, ll, .ref (b + a) :: .int (nI j) :: .ref (b + i) :: st, M) Q := G_as hf (hB.ty hT) (hB.ty hA) hc hi hn (K _ (hB.put hR))
end BDG
section CCL
variable {C : Ct} {M : Mm} {h : Nat}
theorem c_lnClr (t0 : M.1[h]? = some (4, 9)) (t4 : M.1[h + 4]? = some (50, 4)) (t5 : M.1[h + 5]? = some (50, 9)) (r6 : M.2.2.2 h 6 = some (h + 4)) (r7 : M.2.2.2 h 7 = some (h + 5)) : CG C 54 [.ref h] M (fun w M' => w = none ∧ Fge h M M') := by
  have loop : ∀ i, i ≤ 9 → ∀ M1, Fge h M M1 → G C 54 (25, [some (.ref h), some (.int (nI i))], [], [], M1) (fun w M' => w = none ∧ Fge h M M') := by
    refine upto (fun i hi ih M1 hF => ?_)
    have t0' : M1.1[h]? = some (4, 9) := by rw [hF.1.1]; exact t0
    have t5' : M1.1[h + 5]? = some (50, 9) := by rw [hF.1.1]; exact t5
    have r7' : M1.2.2.2 h 7 = some (h + 5) := by rw [hF.1.2]; exact r7
    refine G_S (pc := 25) f_54_25 rfl rfl rfl ?_
    refine G_bi (v := nI 8) (pc := 26) f_54_26 (by decide) ?_
    refine G_jgtZ (pc := 28) f_54_28 rfl (by first | exact nI_toInt (by omega) | exact zI_toInt (by omega) (by omega) | rfl) (by first | exact nI_toInt (by omega) | exact zI_toInt (by omega) (by omega) | rfl) (fun b1 => ?_) (fun b1 => ?_)
    · refine G_rv (pc := 44) f_54_44 ?_
      exact ⟨rfl, hF⟩
    · refine G_S (pc := 31) f_54_31 rfl rfl rfl ?_
      refine G_gR (pc := 32) f_54_32 (by decide) rfl (by first | assumption | exact hK.1 _ _ rfl) (by first | assumption | exact hK.2 _ _ _ rfl | (try dsimp only) <;> (repeat (first | exact up2_s | refine up2_o (by first | decide | omega) ?_)) <;> first | assumption | exact hK.2 _ _ _ rfl) ?_
      refine G_S (pc := 35) f_54_35 rfl rfl rfl ?_
      refine G_S (pc := 36) f_54_36 rfl rfl rfl ?_
      refine G_isN (pc := 37) f_54_37 (by first | assumption | exact hK.1 _ _ rfl) (by omega) (by omega) ?_
      first | refine G_inc1 (pc := 38) f_54_38 rfl ?_ | refine G_S (pc := 38) f_54_38 rfl rfl rfl ?_
      refine G_S (pc := 41) f_54_41 rfl rfl rfl ?_
      exact ih (by omega) _ (hF.tr (Fge.up (by omega)))
  refine CG_in (mL := 2) (hl := false) (lv := [some (.ref h), none]) (ll := []) rfl rfl rfl ?_
  refine G_S (pc := 0) f_54_0 rfl rfl rfl ?_
  refine G_ic (v := nI 0) (pc := 1) f_54_1 (by decide) ?_
  refine G_pI (pc := 2) f_54_2 rfl (by first | assumption | exact hK.1 _ _ rfl) ?_
  refine G_S (pc := 5) f_54_5 rfl rfl rfl ?_
  refine G_ic (v := nI 4) (pc := 6) f_54_6 (by decide) ?_
  refine G_pI (pc := 7) f_54_7 rfl (by first | assumption | exact hK.1 _ _ rfl) ?_
  refine G_S (pc := 10) f_54_10 rfl rfl rfl ?_
  refine G_ic (v := nI 0) (pc := 11) f_54_11 (by decide) ?_
  refine G_pI (pc := 12) f_54_12 rfl (by first | assumption | exact hK.1 _ _ rfl) ?_
  refine G_S (pc := 15) f_54_15 rfl rfl rfl ?_
  refine G_gR (pc := 16) f_54_16 (by decide) rfl (by first | assumption | exact hK.1 _ _ rfl) (by first | assumption | exact hK.2 _ _ _ rfl | (try dsimp only) <;> (repeat (first | exact up2_s | refine up2_o (by first | decide | omega) ?_)) <;> first | assumption | exact hK.2 _ _ _ rfl) ?_
  refine G_ic (v := nI 1) (pc := 19) f_54_19 (by decide) ?_
  refine G_CS (pc := 20) f_54_20 rfl rfl (by decide) rfl rfl ⟨Nat.le_of_ble_eq_true rfl, Nat.le_of_ble_eq_true rfl⟩ ?_
  refine CG.mono (c_fill (n := 4) t4 (by decide)) ?_
  rintro _ M3 ⟨rfl, e1, e2, e3, e4, f1⟩
  refine G_ic (v := nI 0) (pc := 23) f_54_23 (by decide) ?_
  refine G_S (pc := 24) f_54_24 rfl rfl rfl ?_
  refine loop 0 (Nat.zero_le _) M3 (((Fge.up (i := h) (k := 1) (x := nI 0) (Nat.le_refl h)).tr ((Fge.up (i := h) (k := 2) (x := nI 4) (Nat.le_refl h)).tr (Fge.up (i := h) (k := 5) (x := nI 0) (Nat.le_refl h)))).tr ⟨⟨e1, e3⟩, fun i hi => ⟨e4 i (by omega), by rw [e2]⟩⟩)
theorem c_flClr (t0 : M.1[h]? = some (2, 5)) (t1 : M.1[h + 1]? = some (50, 24)) (r1 : M.2.2.2 h 1 = some (h + 1)) : CG C 33 [.ref h] M (fun w M' => w = none ∧ Fge h M M') := by
  refine CG_in (mL := 1) (hl := false) (lv := [some (.ref h)]) (ll := []) rfl rfl rfl ?_
  refine G_S (pc := 0) f_33_0 rfl rfl rfl ?_
  refine G_bi (v := nI 10) (pc := 1) f_33_1 (by decide) ?_
  refine G_pI (pc := 3) f_33_3 rfl (by first | assumption | exact hK.1 _ _ rfl) ?_
  refine G_S (pc := 6) f_33_6 rfl rfl rfl ?_
  refine G_gR (pc := 7) f_33_7 (by decide) rfl (by first | assumption | exact hK.1 _ _ rfl) (by first | assumption | exact hK.2 _ _ _ rfl | (try dsimp only) <;> (repeat (first | exact up2_s | refine up2_o (by first | decide | omega) ?_)) <;> first | assumption | exact hK.2 _ _ _ rfl) ?_
  refine G_ic (v := nI 0) (pc := 10) f_33_10 (by decide) ?_
  refine G_CS (pc := 11) f_33_11 rfl rfl (by decide) rfl rfl ⟨Nat.le_of_ble_eq_true rfl, Nat.le_of_ble_eq_true rfl⟩ ?_
  refine CG.mono (c_fill (n := 24) t1 (by decide)) ?_
  rintro _ M3 ⟨rfl, e1, e2, e3, e4, f1⟩
  refine G_rv (pc := 14) f_33_14 ?_
  exact ⟨rfl, (Fge.up (i := h) (k := 0) (x := nI 10) (Nat.le_refl h)).tr ⟨⟨e1, e3⟩, fun i hi => ⟨e4 i (by omega), by rw [e2]⟩⟩⟩
theorem c_sgClr (t0 : M.1[h]? = some (7, 10)) : CG C 94 [.ref h] M (fun w M' => w = none ∧ Fge h M M') := by
  refine CG_in (mL := 1) (hl := false) (lv := [some (.ref h)]) (ll := []) rfl rfl rfl ?_
  refine G_S (pc := 0) f_94_0 rfl rfl rfl ?_
  refine G_ic (v := nI 2) (pc := 1) f_94_1 (by decide) ?_
  refine G_pI (pc := 2) f_94_2 rfl (by first | assumption | exact hK.1 _ _ rfl) ?_
  refine G_S (pc := 5) f_94_5 rfl rfl rfl ?_
  refine G_ic (v := nI 0) (pc := 6) f_94_6 (by decide) ?_
  refine G_pI (pc := 7) f_94_7 rfl (by first | assumption | exact hK.1 _ _ rfl) ?_
  refine G_S (pc := 10) f_94_10 rfl rfl rfl ?_
  refine G_ic (v := nI 0) (pc := 11) f_94_11 (by decide) ?_
  refine G_pZ (pc := 12) f_94_12 rfl (by first | assumption | exact hK.1 _ _ rfl) (by first | exact Or.inl rfl | exact Or.inr rfl | exact b2i_01 _ | assumption) ?_
  refine G_rv (pc := 15) f_94_15 ?_
  exact ⟨rfl, ((Fge.up (i := h) (k := 0) (x := nI 2) (Nat.le_refl h)).tr (Fge.up (i := h) (k := 1) (x := nI 0) (Nat.le_refl h))).tr (Fge.up (i := h) (k := 5) (x := nI 0) (Nat.le_refl h))⟩
end CCL
