/-! when trams leave: the class -/
theorem mI_s {T : List (Nat × Nat)} {f : Nat → Nat → Int32} {L : Nat → Nat → Int64} {R : Nat → Nat → Option Nat} {i k : Nat} {x : Int32} : ((T, up2 f i k x, L, R) : Mm).2.1 i k = x := up2_s
theorem mI_o {T : List (Nat × Nat)} {f : Nat → Nat → Int32} {L : Nat → Nat → Int64} {R : Nat → Nat → Option Nat} {i k a b : Nat} {x v : Int32} (h : ¬ (a = i ∧ b = k)) (hv : f a b = v) : ((T, up2 f i k x, L, R) : Mm).2.1 a b = v := up2_o h hv
/-- ounces times hours, of what comes in m hours from a on, till the m-th -/
def wtF (F : Nat → Nat) (a : Nat) : Nat → Nat
  | 0 => 0
  | m + 1 => wtF F a m + sF F a (m + 1)
theorem wtF_le {F : Nat → Nat} (hF : FOK F) {a : Nat} : ∀ m, a + m ≤ 24 → wtF F a m ≤ m * 2376
  | 0, _ => by simp [wtF]
  | m + 1, h => by
    have h1 := wtF_le hF (a := a) m (by omega)
    have h2 := sF_le hF (a := a) (m + 1) h
    rw [wtF, Nat.succ_mul]
    omega
theorem wtF_c {F : Nat → Nat} (hF : FOK F) {a m : Nat} (h : a + m ≤ 24) : wtF F a m ≤ 57024 := Nat.le_trans (wtF_le hF m h) (Nat.mul_le_mul_right 2376 (show m ≤ 24 by omega))
def eB : Nat → Nat
  | 0 => 0
  | d + 1 => 57024 + eB d
theorem eB_le : ∀ d, d ≤ 24 → eB d ≤ 1368576 := by decide
/-- the best first tram among the first m hours from a on -/
def plS_ (F T W : Nat → Nat) (a : Nat) : Nat → Option (Nat × Nat × Nat)
  | 0 => none
  | m + 1 => if F 0 ≤ sF F a (m + 1) then (match plS_ F T W a m with
      | none => some (1 + T (a + m + 1), wtF F a m + W (a + m + 1), a + m)
      | some (t, w, h) => if t < 1 + T (a + m + 1) ∨ (1 + T (a + m + 1) = t ∧ wtF F a m + W (a + m + 1) < w) then some (1 + T (a + m + 1), wtF F a m + W (a + m + 1), a + m) else some (t, w, h)) else plS_ F T W a m
def plT : Option (Nat × Nat × Nat) → Nat
  | none => 0
  | some q => q.1
def plW (d : Nat) : Option (Nat × Nat × Nat) → Nat
  | none => d
  | some q => q.2.1
def plH : Option (Nat × Nat × Nat) → Option Nat
  | none => none
  | some q => some q.2.2
/-- trams, waiting, first hours of the last d hours -/
def pT (F : Nat → Nat) : Nat → (Nat → Nat) × (Nat → Nat) × (Nat → Option Nat)
  | 0 => (fun _ => 0, fun _ => 0, fun _ => none)
  | d + 1 => (fun s => if s = 23 - d then plT (plS_ F (pT F d).1 (pT F d).2.1 (23 - d) (d + 1)) else (pT F d).1 s,
      fun s => if s = 23 - d then plW (wtF F (23 - d) (d + 1)) (plS_ F (pT F d).1 (pT F d).2.1 (23 - d) (d + 1)) else (pT F d).2.1 s,
      fun s => if s = 23 - d then plH (plS_ F (pT F d).1 (pT F d).2.1 (23 - d) (d + 1)) else (pT F d).2.2 s)
theorem plS_b {F T W : Nat → Nat} {a B E : Nat} (hT : ∀ s, s ≤ 24 → T s ≤ B) (hW : ∀ s, s ≤ 24 → W s ≤ E) (hF : FOK F) : ∀ m, a + m ≤ 24 → ∀ q, plS_ F T W a m = some q → q.1 ≤ 1 + B ∧ q.2.1 ≤ 57024 + E ∧ q.2.2 < a + m ∧ a ≤ q.2.2
  | 0, _, q, h => by cases h
  | m + 1, hm, q, h => by
    have ih := plS_b (a := a) hT hW hF m (by omega)
    have h1 := hT (a + m + 1) (by omega)
    have h2 := hW (a + m + 1) (by omega)
    have h3 := wtF_c hF (a := a) (m := m) (by omega)
    rw [plS_] at h
    split at h
    · split at h
      · cases h
        dsimp only
        omega
      · rename_i t w hh he
        have i2 := ih _ he
        dsimp only at i2
        split at h
        · cases h
          dsimp only
          omega
        · cases h
          dsimp only
          omega
    · have i2 := ih q h
      omega
theorem pT_b {F : Nat → Nat} (hF : FOK F) : ∀ d, d ≤ 24 → (∀ s, (pT F d).1 s ≤ d) ∧ (∀ s, (pT F d).2.1 s ≤ eB d) ∧ ∀ s h, (pT F d).2.2 s = some h → h < 24
  | 0, _ => ⟨fun _ => Nat.le_refl _, fun _ => Nat.zero_le _, fun _ _ h => by cases h⟩
  | d + 1, hd => by
    obtain ⟨i1, i2, i3⟩ := pT_b hF d (by omega)
    have hb := plS_b (F := F) (T := (pT F d).1) (W := (pT F d).2.1) (a := 23 - d) (B := d) (E := eB d) (fun s _ => i1 s) (fun s _ => i2 s) hF (d + 1) (by omega)
    have hw := wtF_c hF (a := 23 - d) (m := d + 1) (by omega)
    have he : eB (d + 1) = 57024 + eB d := rfl
    refine ⟨fun s => ?_, fun s => ?_, fun s h hh => ?_⟩
    · show (if s = 23 - d then plT (plS_ F (pT F d).1 (pT F d).2.1 (23 - d) (d + 1)) else (pT F d).1 s) ≤ d + 1
      split
      · cases hq : plS_ F (pT F d).1 (pT F d).2.1 (23 - d) (d + 1) with
        | none => exact Nat.zero_le _
        | some q =>
          have := (hb q hq).1
          show q.1 ≤ d + 1
          omega
      · have := i1 s
        omega
    · show (if s = 23 - d then plW (wtF F (23 - d) (d + 1)) (plS_ F (pT F d).1 (pT F d).2.1 (23 - d) (d + 1)) else (pT F d).2.1 s) ≤ (eB (d + 1))
      split
      · cases hq : plS_ F (pT F d).1 (pT F d).2.1 (23 - d) (d + 1) with
        | none =>
          show wtF F (23 - d) (d + 1) ≤ _
          omega
        | some q =>
          have := (hb q hq).2.1
          show q.2.1 ≤ _
          omega
      · have := i2 s
        omega
    · have hh : (if s = 23 - d then plH (plS_ F (pT F d).1 (pT F d).2.1 (23 - d) (d + 1)) else (pT F d).2.2 s) = some h := hh
      split at hh
      · cases hq : plS_ F (pT F d).1 (pT F d).2.1 (23 - d) (d + 1) with
        | none => rw [hq] at hh; cases hh
        | some q =>
          rw [hq] at hh
          cases hh
          have := (hb q hq).2.2.1
          omega
      · exact i3 s h hh
theorem plS_n {F T W : Nat → Nat} {a m : Nat} (h : ¬ F 0 ≤ sF F a (m + 1)) : plS_ F T W a (m + 1) = plS_ F T W a m := by
  rw [plS_, if_neg h]
theorem plS_c {F T W : Nat → Nat} {a m : Nat} (h : F 0 ≤ sF F a (m + 1)) (hb : plT (plS_ F T W a m) < 1 + T (a + m + 1) ∨ (1 + T (a + m + 1) = plT (plS_ F T W a m) ∧ wtF F a m + W (a + m + 1) < plW 0 (plS_ F T W a m))) : plS_ F T W a (m + 1) = some (1 + T (a + m + 1), wtF F a m + W (a + m + 1), a + m) := by
  rw [plS_, if_pos h]
  cases hs : plS_ F T W a m with
  | none => rfl
  | some q =>
    rw [hs] at hb
    exact if_pos hb
theorem plS_k {F T W : Nat → Nat} {a m : Nat} (hb : ¬ (plT (plS_ F T W a m) < 1 + T (a + m + 1) ∨ (1 + T (a + m + 1) = plT (plS_ F T W a m) ∧ wtF F a m + W (a + m + 1) < plW 0 (plS_ F T W a m)))) : plS_ F T W a (m + 1) = plS_ F T W a m := by
  rw [plS_]
  split
  · cases hs : plS_ F T W a m with
    | none =>
      rw [hs] at hb
      exact absurd (Or.inl (show 0 < 1 + T (a + m + 1) by omega)) hb
    | some q =>
      rw [hs] at hb
      exact if_neg hb
  · rfl
theorem plS_p {F T W : Nat → Nat} {a : Nat} : ∀ m q, plS_ F T W a m = some q → 1 ≤ q.1
  | 0, q, h => by cases h
  | m + 1, q, h => by
    have ih := plS_p (F := F) (T := T) (W := W) (a := a) m
    rw [plS_] at h
    split at h
    · split at h
      · cases h
        dsimp only
        omega
      · rename_i t w hh he
        have := ih _ he
        split at h
        · cases h
          dsimp only
          omega
        · cases h
          exact this
    · exact ih q h
def hrF (P : Nat → Option Nat) : Nat → Option Nat
  | 0 => P 0
  | k + 1 => match hrF P k with
    | none => none
    | some h => P (h + 1)
theorem FW.fc {M M' : Mm} {g : Nat} {F : Nat → Nat} {os : List Nat} (W : FW M g F) (hF : Fc os M M') (h0 : g ∉ os) (h1 : g + 1 ∉ os) : FW M' g F := by
  obtain ⟨hK, ⟨hT, r1, r2, r3, r4⟩, ⟨hO, hv, hq⟩, hg⟩ := W
  have e0 := (hF.2.2 g h0).1
  have e1 := (hF.2.2 (g + 1) h1).1
  refine ⟨hF.K hK, ⟨by rw [hF.1]; exact hT, ?_, ?_, ?_, ?_⟩, ⟨hO, by rw [e0]; exact hv, by rw [e1]; exact hq⟩, hg⟩ <;> (rw [hF.2.1 _ _ (Or.inl h0)]; assumption)
/-- the tables of the last d hours, in the class's flow -/
def PW (M : Mm) (g : Nat) (F : Nat → Nat) (d : Nat) : Prop := ∀ s, 24 - d ≤ s → s ≤ 24 → M.2.1 (g + 2) s = nI ((pT F d).1 s) ∧ M.2.1 (g + 3) s = nI ((pT F d).2.1 s) ∧ M.2.1 (g + 4) s = oI ((pT F d).2.2 s)
theorem G_lsO {C : Ct} {y pc len o t : Nat} {lv : Lv} {ll : Ll} {st : List Value} {M : Mm} {Q : Option Value → Mm → Prop} {ret : Option FieldType} {dflt a b : Int} {x : Int32} (hf : fe y pc = some (.lookupswitch dflt #[(0, a), (1, b)], len, o, ret)) (ht : jmp pc dflt = some t) (h : ¬ (x.toInt = 0 ∨ x.toInt = 1)) (K : G C y (t, lv, ll, st, M) Q) : G C y (pc, lv, ll, .int x :: st, M) Q := by
  have e : Op.lookupswitch.offset [(0, a), (1, b)] dflt x.toInt = dflt := by
    show (if (0 : Int) = x.toInt then a else if (1 : Int) = x.toInt then b else dflt) = dflt
    rw [if_neg (by omega), if_neg (by omega)]
  refine G_S hf rfl rfl ?_ K
  show (match jmp pc (Op.lookupswitch.offset [(0, a), (1, b)] dflt x.toInt) with
    | some t => some (t, lv, ll, st, M)
    | none => none) = _
  rw [e, ht]
section CPL
variable {C : Ct} {M : Mm} {g : Nat} {F : Nat → Nat} {x : Int32}
theorem g_notin {j : Nat} (hj : j < 2) : g + j ∉ [g + 2, g + 3, g + 4] := by
  intro q
  rcases List.mem_cons.mp q with q | q
  · omega
  · rcases List.mem_cons.mp q with q | q
    · omega
    · have := List.mem_singleton.mp q
      omega
theorem m2 : g + 2 ∈ [g + 2, g + 3, g + 4] := List.mem_cons_self
theorem m3 : g + 3 ∈ [g + 2, g + 3, g + 4] := List.mem_cons_of_mem _ List.mem_cons_self
theorem m4 : g + 4 ∈ [g + 2, g + 3, g + 4] := List.mem_cons_of_mem _ (List.mem_cons_of_mem _ List.mem_cons_self)
theorem f_isBetter {a t w T Wv : Nat} (W : FW M g F) (ha : a ≤ 24) (e1 : M.2.1 (g + 2) a = nI T) (e2 : 0 < T → M.2.1 (g + 3) a = nI Wv) (ht : 1 ≤ t) (b1 : t < 2 ^ 31) (b2 : w < 2 ^ 31) (b3 : T < 2 ^ 31) (b4 : Wv < 2 ^ 31) : CG C 44 [.ref g, .int (nI a), .int (nI t), .int (nI w)] M (fun w' M' => w' = some (.int (b2i (T < t ∨ (t = T ∧ w < Wv)))) ∧ M' = M) := by
  have hK := W.1
  obtain ⟨⟨t0, t1, t2, t3, t4⟩, r1, r2, r3, r4⟩ := W.2.1
  obtain ⟨hFO, v0, q1⟩ := W.2.2.1
  have hg := W.2.2.2
  have hn1 := hFO.1
  have hc9 := hFO.2
  refine CG_in (mL := 4) (hl := false) (lv := [some (.ref g), some (.int (nI a)), some (.int (nI t)), some (.int (nI w))]) (ll := []) rfl rfl rfl ?_
  refine G_S (pc := 0) f_44_0 rfl rfl rfl ?_
  refine G_S (pc := 1) f_44_1 rfl rfl rfl ?_
  refine G_gR (pc := 2) f_44_2 (by decide) rfl (by first | assumption | exact hK.1 _ _ rfl) (by first | assumption | exact hK.2 _ _ _ rfl | (try dsimp only) <;> (repeat (first | exact up2_s | refine up2_o (by first | decide | omega) ?_)) <;> first | assumption | exact hK.2 _ _ _ rfl) ?_
  refine G_S (pc := 5) f_44_5 rfl rfl rfl ?_
  refine G_iaN (pc := 6) f_44_6 (by first | assumption | exact hK.1 _ _ rfl) (by omega) (by omega) (by first | assumption | exact q1 _ (by omega) | exact q2 _ (by omega) | exact q3 _ (by omega) | exact q4 _ (by omega) | exact q5 _ (by omega) | exact vh _ (by omega) | exact (vr _ (by omega)).1 | exact (vr _ (by omega)).2 | exact vw _ (by omega) | exact vf _ (by omega) (by omega) | exact mI_s | ((refine mI_o (by first | decide | omega) ?_); (repeat (refine mI_o (by first | decide | omega) ?_)); first | exact mI_s | assumption | exact q1 _ (by omega) | exact q2 _ (by omega) | exact q3 _ (by omega) | exact q4 _ (by omega) | exact q5 _ (by omega) | exact vh _ (by omega) | exact (vr _ (by omega)).1 | exact (vr _ (by omega)).2 | exact vw _ (by omega) | exact vf _ (by omega) (by omega)) | rfl) ?_
  refine G_jgtZ (pc := 7) f_44_7 rfl (by first | exact nI_toInt (by omega) | exact zI_toInt (by omega) (by omega) | rfl) (by first | exact nI_toInt (by omega) | exact zI_toInt (by omega) (by omega) | rfl) (fun b1 => ?_) (fun b1 => ?_)
  · refine G_ic (v := nI 1) (pc := 30) f_44_30 (by decide) ?_
    refine G_S (pc := 31) f_44_31 rfl rfl rfl ?_
    refine G_rz (pc := 35) f_44_35 (by first | exact Or.inl rfl | exact Or.inr rfl | exact b2i_01 _ | assumption) ?_
    refine ⟨?_, rfl⟩
    congr 2
    first
      | exact (b2i_1 (by omega)).symm
      | exact (b2i_0 (by omega)).symm
  · refine G_S (pc := 10) f_44_10 rfl rfl rfl ?_
    refine G_S (pc := 11) f_44_11 rfl rfl rfl ?_
    refine G_gR (pc := 12) f_44_12 (by decide) rfl (by first | assumption | exact hK.1 _ _ rfl) (by first | assumption | exact hK.2 _ _ _ rfl | (try dsimp only) <;> (repeat (first | exact up2_s | refine up2_o (by first | decide | omega) ?_)) <;> first | assumption | exact hK.2 _ _ _ rfl) ?_
    refine G_S (pc := 15) f_44_15 rfl rfl rfl ?_
    refine G_iaN (pc := 16) f_44_16 (by first | assumption | exact hK.1 _ _ rfl) (by omega) (by omega) (by first | assumption | exact q1 _ (by omega) | exact q2 _ (by omega) | exact q3 _ (by omega) | exact q4 _ (by omega) | exact q5 _ (by omega) | exact vh _ (by omega) | exact (vr _ (by omega)).1 | exact (vr _ (by omega)).2 | exact vw _ (by omega) | exact vf _ (by omega) (by omega) | exact mI_s | ((refine mI_o (by first | decide | omega) ?_); (repeat (refine mI_o (by first | decide | omega) ?_)); first | exact mI_s | assumption | exact q1 _ (by omega) | exact q2 _ (by omega) | exact q3 _ (by omega) | exact q4 _ (by omega) | exact q5 _ (by omega) | exact vh _ (by omega) | exact (vr _ (by omega)).1 | exact (vr _ (by omega)).2 | exact vw _ (by omega) | exact vf _ (by omega) (by omega)) | rfl) ?_
    refine G_jneZ (pc := 17) f_44_17 rfl (by first | exact nI_toInt (by omega) | exact zI_toInt (by omega) (by omega) | rfl) (by first | exact nI_toInt (by omega) | exact zI_toInt (by omega) (by omega) | rfl) (fun b2 => ?_) (fun b2 => ?_)
    · refine G_ic (v := nI 0) (pc := 34) f_44_34 (by decide) ?_
      refine G_rz (pc := 35) f_44_35 (by first | exact Or.inl rfl | exact Or.inr rfl | exact b2i_01 _ | assumption) ?_
      refine ⟨?_, rfl⟩
      congr 2
      first
        | exact (b2i_1 (by omega)).symm
        | exact (b2i_0 (by omega)).symm
    · refine G_S (pc := 20) f_44_20 rfl rfl rfl ?_
      refine G_S (pc := 21) f_44_21 rfl rfl rfl ?_
      refine G_gR (pc := 22) f_44_22 (by decide) rfl (by first | assumption | exact hK.1 _ _ rfl) (by first | assumption | exact hK.2 _ _ _ rfl | (try dsimp only) <;> (repeat (first | exact up2_s | refine up2_o (by first | decide | omega) ?_)) <;> first | assumption | exact hK.2 _ _ _ rfl) ?_
      refine G_S (pc := 25) f_44_25 rfl rfl rfl ?_
      refine G_iaN (pc := 26) f_44_26 (by first | assumption | exact hK.1 _ _ rfl) (by omega) (by omega) (by first | exact e2 (by omega) | rfl) ?_
      refine G_jgeZ (pc := 27) f_44_27 rfl (by first | exact nI_toInt (by omega) | exact zI_toInt (by omega) (by omega) | rfl) (by first | exact nI_toInt (by omega) | exact zI_toInt (by omega) (by omega) | rfl) (fun b3 => ?_) (fun b3 => ?_)
      · refine G_ic (v := nI 0) (pc := 34) f_44_34 (by decide) ?_
        refine G_rz (pc := 35) f_44_35 (by first | exact Or.inl rfl | exact Or.inr rfl | exact b2i_01 _ | assumption) ?_
        refine ⟨?_, rfl⟩
        congr 2
        first
          | exact (b2i_1 (by omega)).symm
          | exact (b2i_0 (by omega)).symm
      · refine G_ic (v := nI 1) (pc := 30) f_44_30 (by decide) ?_
        refine G_S (pc := 31) f_44_31 rfl rfl rfl ?_
        refine G_rz (pc := 35) f_44_35 (by first | exact Or.inl rfl | exact Or.inr rfl | exact b2i_01 _ | assumption) ?_
        refine ⟨?_, rfl⟩
        congr 2
        first
          | exact (b2i_1 (by omega)).symm
          | exact (b2i_0 (by omega)).symm
/-- the tables while the hours from one on are gone through -/
def PL (M1 : Mm) (g : Nat) (F : Nat → Nat) (d m : Nat) : Prop := PW M1 g F d ∧ M1.2.1 (g + 2) (23 - d) = nI (plT (plS_ F (pT F d).1 (pT F d).2.1 (23 - d) m)) ∧ M1.2.1 (g + 4) (23 - d) = oI (plH (plS_ F (pT F d).1 (pT F d).2.1 (23 - d) m)) ∧ ∀ q, plS_ F (pT F d).1 (pT F d).2.1 (23 - d) m = some q → M1.2.1 (g + 3) (23 - d) = nI q.2.1
theorem f_planFrom {d : Nat} (W : FW M g F) (hd : d < 24) (hP : PW M g F d) : CG C 43 [.ref g, .int (nI (23 - d))] M (fun w M' => w = none ∧ Fc [g + 2, g + 3, g + 4] M M' ∧ PW M' g F (d + 1)) := by
  obtain ⟨p1, p2, p3⟩ := pT_b W.2.2.1.1 d (by omega)
  have hbb := plS_b (F := F) (T := (pT F d).1) (W := (pT F d).2.1) (a := 23 - d) (B := d) (E := eB d) (fun s _ => p1 s) (fun s _ => p2 s) W.2.2.1.1
  have loop : ∀ m, m ≤ d + 1 → ∀ M1 a2 a3, (a2 = nI (sF F (23 - d) m)) → (m = 0 ∧ a3 = nI 0 ∨ ∃ j, m = j + 1 ∧ a3 = nI (wtF F (23 - d) j)) → FW M1 g F → Fc [g + 2, g + 3, g + 4] M M1 → PL M1 g F d m → G C 43 (21, [some (.ref g), some (.int (nI (23 - d))), some (.int a2), some (.int a3), some (.int (nI (23 - d + m)))], [], [], M1) (fun w M' => w = none ∧ Fc [g + 2, g + 3, g + 4] M M' ∧ PW M' g F (d + 1)) := by
    refine upto (fun m hm ih M1 a2 a3 h2 h3 W1 hF hL => ?_)
    obtain ⟨hq, e1, e2, e3⟩ := hL
    have hK := W1.1
    obtain ⟨⟨t0, t1, t2, t3, t4⟩, r1, r2, r3, r4⟩ := W1.2.1
    obtain ⟨hFO, v0, q1⟩ := W1.2.2.1
    have hg := W1.2.2.2
    have hn1 := hFO.1
    have hc9 := hFO.2
    subst h2
    have hs := sF_le hFO (a := 23 - d) m (by omega)
    have hw := wtF_c hFO (a := 23 - d) (m := m) (by omega)
    have heB := eB_le d (by omega)
    have hwa : a3 + nI (sF F (23 - d) m) = nI (wtF F (23 - d) m) := by
      rcases h3 with ⟨rfl, rfl⟩ | ⟨j, rfl, rfl⟩
      · rfl
      · rw [nI_add]
        rfl
    have hm1 : m < d + 1 → sF F (23 - d) (m + 1) ≤ (m + 1) * 99 := fun q => sF_le hFO (m + 1) (by omega)
    have hm2 : sF F (23 - d) (m + 1) = sF F (23 - d) m + F (1 + (23 - d + m)) := rfl
    have hbm := hbb m (by omega)
    have hT1 := p1 (23 - d + m + 1)
    have hW1 := p2 (23 - d + m + 1)
    have hTn : m < d + 1 → M1.2.1 (g + 2) (23 - d + m + 1) = nI ((pT F d).1 (23 - d + m + 1)) := fun q => (hq _ (by omega) (by omega)).1
    have hWn : m < d + 1 → M1.2.1 (g + 3) (23 - d + m + 1) = nI ((pT F d).2.1 (23 - d + m + 1)) := fun q => (hq _ (by omega) (by omega)).2.1
    have hTb : plT (plS_ F (pT F d).1 (pT F d).2.1 (23 - d) m) < 100 := by
      cases hs : plS_ F (pT F d).1 (pT F d).2.1 (23 - d) m with
      | none => decide
      | some q => have := (hbm q hs).1; show q.1 < _; omega
    have hWb : plW 0 (plS_ F (pT F d).1 (pT F d).2.1 (23 - d) m) < 2000000 := by
      cases hs : plS_ F (pT F d).1 (pT F d).2.1 (23 - d) m with
      | none => decide
      | some q => have := (hbm q hs).2.1; show q.2.1 < _; omega
    have e3' : 0 < plT (plS_ F (pT F d).1 (pT F d).2.1 (23 - d) m) → M1.2.1 (g + 3) (23 - d) = nI (plW 0 (plS_ F (pT F d).1 (pT F d).2.1 (23 - d) m)) := fun hpos => by
      cases hs : plS_ F (pT F d).1 (pT F d).2.1 (23 - d) m with
      | none => rw [hs] at hpos; exact absurd hpos (by decide)
      | some q => exact e3 q hs
    refine G_S (pc := 21) f_43_21 rfl rfl rfl ?_
    refine G_bi (v := nI 24) (pc := 23) f_43_23 (by decide) ?_
    refine G_jgeZ (pc := 25) f_43_25 rfl (by first | exact nI_toInt (by omega) | exact zI_toInt (by omega) (by omega) | rfl) (by first | exact nI_toInt (by omega) | exact zI_toInt (by omega) (by omega) | rfl) (fun b1 => ?_) (fun b1 => ?_)
    · have e5 : m = d + 1 := by omega
      subst e5
      refine G_S (pc := 128) f_43_128 rfl rfl rfl ?_
      refine G_gR (pc := 129) f_43_129 (by decide) rfl (by first | assumption | exact hK.1 _ _ rfl) (by first | assumption | exact hK.2 _ _ _ rfl | (try dsimp only) <;> (repeat (first | exact up2_s | refine up2_o (by first | decide | omega) ?_)) <;> first | assumption | exact hK.2 _ _ _ rfl) ?_
      refine G_S (pc := 132) f_43_132 rfl rfl rfl ?_
      refine G_iaN (pc := 133) f_43_133 (by first | assumption | exact hK.1 _ _ rfl) (by omega) (by omega) (by first | assumption | exact q1 _ (by omega) | exact q2 _ (by omega) | exact q3 _ (by omega) | exact q4 _ (by omega) | exact q5 _ (by omega) | exact vh _ (by omega) | exact (vr _ (by omega)).1 | exact (vr _ (by omega)).2 | exact vw _ (by omega) | exact vf _ (by omega) (by omega) | exact mI_s | ((refine mI_o (by first | decide | omega) ?_); (repeat (refine mI_o (by first | decide | omega) ?_)); first | exact mI_s | assumption | exact q1 _ (by omega) | exact q2 _ (by omega) | exact q3 _ (by omega) | exact q4 _ (by omega) | exact q5 _ (by omega) | exact vh _ (by omega) | exact (vr _ (by omega)).1 | exact (vr _ (by omega)).2 | exact vw _ (by omega) | exact vf _ (by omega) (by omega)) | rfl) ?_
      first | refine G_bNe (pc := 134) f_43_134 rfl (fun b4 => ?_) (fun b4 => ?_) | refine G_zneZ (pc := 134) f_43_134 rfl (by first | exact nI_toInt (by omega) | exact zI_toInt (by omega) (by omega) | rfl) (fun b4 => ?_) (fun b4 => ?_)
      · refine G_rv (pc := 146) f_43_146 ?_
        first
          | (refine ⟨rfl, hF, fun s h1 h2 => ?_⟩
             show _ = nI (if s = 23 - d then _ else _) ∧ _ = nI (if s = 23 - d then _ else _) ∧ _ = oI (if s = 23 - d then _ else _)
             by_cases q : s = 23 - d
             · subst q
               rw [if_pos rfl, if_pos rfl, if_pos rfl]
               refine ⟨e1, ?_, e2⟩
               cases hs : plS_ F (pT F d).1 (pT F d).2.1 (23 - d) (d + 1) with
               | none => rw [hs] at b4; exact absurd rfl b4
               | some q => exact e3 q hs
             · rw [if_neg q, if_neg q, if_neg q]
               exact hq s (by omega) h2)
          | (have hF3 : Fc [g + 2, g + 3, g + 4] M1 _ := Fc.up (i := g + 3) (k := 23 - d) (x := a3 + nI (sF F (23 - d) (d + 1))) m3
             refine ⟨rfl, hF.tr hF3, fun s h1 h2 => ?_⟩
             show _ = nI (if s = 23 - d then _ else _) ∧ _ = nI (if s = 23 - d then _ else _) ∧ _ = oI (if s = 23 - d then _ else _)
             by_cases q : s = 23 - d
             · subst q
               rw [if_pos rfl, if_pos rfl, if_pos rfl]
               cases hs : plS_ F (pT F d).1 (pT F d).2.1 (23 - d) (d + 1) with
               | some q =>
                 rw [hs] at b4
                 have b4 : (q.1 : Int) = 0 := b4
                 have := plS_p _ q hs
                 exfalso
                 omega
               | none =>
                 rw [hs] at e1 e2
                 refine ⟨(by (try dsimp only); exact up2_o (by omega) e1), ?_, (by (try dsimp only); exact up2_o (by omega) e2)⟩
                 show _ = nI (wtF F (23 - d) (d + 1))
                 rw [← hwa]
                 exact (by (try dsimp only); exact up2_s)
             · rw [if_neg q, if_neg q, if_neg q]
               obtain ⟨k1, k2, k3⟩ := hq s (by omega) h2
               exact ⟨(by (try dsimp only); exact up2_o (by omega) k1), (by (try dsimp only); exact up2_o (by omega) k2), (by (try dsimp only); exact up2_o (by omega) k3)⟩)
      · refine G_S (pc := 137) f_43_137 rfl rfl rfl ?_
        refine G_gR (pc := 138) f_43_138 (by decide) rfl (by first | assumption | exact hK.1 _ _ rfl) (by first | assumption | exact hK.2 _ _ _ rfl | (try dsimp only) <;> (repeat (first | exact up2_s | refine up2_o (by first | decide | omega) ?_)) <;> first | assumption | exact hK.2 _ _ _ rfl) ?_
        refine G_S (pc := 141) f_43_141 rfl rfl rfl ?_
        refine G_S (pc := 142) f_43_142 rfl rfl rfl ?_
        refine G_S (pc := 143) f_43_143 rfl rfl rfl ?_
        first | refine G_addN (pc := 144) f_43_144 ?_ | refine G_addZ (pc := 144) f_43_144 (by first | rfl | exact nI_zI _) (by first | rfl | exact nI_zI _) ?_ | refine G_S (pc := 144) f_43_144 rfl rfl rfl ?_
        refine G_isN (pc := 145) f_43_145 (by first | assumption | exact hK.1 _ _ rfl) (by omega) (by omega) ?_
        refine G_rv (pc := 146) f_43_146 ?_
        first
          | (refine ⟨rfl, hF, fun s h1 h2 => ?_⟩
             show _ = nI (if s = 23 - d then _ else _) ∧ _ = nI (if s = 23 - d then _ else _) ∧ _ = oI (if s = 23 - d then _ else _)
             by_cases q : s = 23 - d
             · subst q
               rw [if_pos rfl, if_pos rfl, if_pos rfl]
               refine ⟨e1, ?_, e2⟩
               cases hs : plS_ F (pT F d).1 (pT F d).2.1 (23 - d) (d + 1) with
               | none => rw [hs] at b4; exact absurd rfl b4
               | some q => exact e3 q hs
             · rw [if_neg q, if_neg q, if_neg q]
               exact hq s (by omega) h2)
          | (have hF3 : Fc [g + 2, g + 3, g + 4] M1 _ := Fc.up (i := g + 3) (k := 23 - d) (x := a3 + nI (sF F (23 - d) (d + 1))) m3
             refine ⟨rfl, hF.tr hF3, fun s h1 h2 => ?_⟩
             show _ = nI (if s = 23 - d then _ else _) ∧ _ = nI (if s = 23 - d then _ else _) ∧ _ = oI (if s = 23 - d then _ else _)
             by_cases q : s = 23 - d
             · subst q
               rw [if_pos rfl, if_pos rfl, if_pos rfl]
               cases hs : plS_ F (pT F d).1 (pT F d).2.1 (23 - d) (d + 1) with
               | some q =>
                 rw [hs] at b4
                 have b4 : (q.1 : Int) = 0 := b4
                 have := plS_p _ q hs
                 exfalso
                 omega
               | none =>
                 rw [hs] at e1 e2
                 refine ⟨(by (try dsimp only); exact up2_o (by omega) e1), ?_, (by (try dsimp only); exact up2_o (by omega) e2)⟩
                 show _ = nI (wtF F (23 - d) (d + 1))
                 rw [← hwa]
                 exact (by (try dsimp only); exact up2_s)
             · rw [if_neg q, if_neg q, if_neg q]
               obtain ⟨k1, k2, k3⟩ := hq s (by omega) h2
               exact ⟨(by (try dsimp only); exact up2_o (by omega) k1), (by (try dsimp only); exact up2_o (by omega) k2), (by (try dsimp only); exact up2_o (by omega) k3)⟩)
    · have hm1 := hm1 (by omega)
      have hTn := hTn (by omega)
      have hWn := hWn (by omega)
      refine G_S (pc := 28) f_43_28 rfl rfl rfl ?_
      refine G_S (pc := 29) f_43_29 rfl rfl rfl ?_
      refine G_S (pc := 30) f_43_30 rfl rfl rfl ?_
      rw [hwa]
      refine G_S (pc := 31) f_43_31 rfl rfl rfl ?_
      refine G_S (pc := 32) f_43_32 rfl rfl rfl ?_
      refine G_S (pc := 33) f_43_33 rfl rfl rfl ?_
      refine G_gR (pc := 34) f_43_34 (by decide) rfl (by first | assumption | exact hK.1 _ _ rfl) (by first | assumption | exact hK.2 _ _ _ rfl | (try dsimp only) <;> (repeat (first | exact up2_s | refine up2_o (by first | decide | omega) ?_)) <;> first | assumption | exact hK.2 _ _ _ rfl) ?_
      refine G_S (pc := 37) f_43_37 rfl rfl rfl ?_
      refine G_iaN (pc := 39) f_43_39 (by first | assumption | exact hK.1 _ _ rfl) (by omega) (by omega) (by first | assumption | exact q1 _ (by omega) | exact q2 _ (by omega) | exact q3 _ (by omega) | exact q4 _ (by omega) | exact q5 _ (by omega) | exact vh _ (by omega) | exact (vr _ (by omega)).1 | exact (vr _ (by omega)).2 | exact vw _ (by omega) | exact vf _ (by omega) (by omega) | exact mI_s | ((refine mI_o (by first | decide | omega) ?_); (repeat (refine mI_o (by first | decide | omega) ?_)); first | exact mI_s | assumption | exact q1 _ (by omega) | exact q2 _ (by omega) | exact q3 _ (by omega) | exact q4 _ (by omega) | exact q5 _ (by omega) | exact vh _ (by omega) | exact (vr _ (by omega)).1 | exact (vr _ (by omega)).2 | exact vw _ (by omega) | exact vf _ (by omega) (by omega)) | rfl) ?_
      first | refine G_addN (pc := 40) f_43_40 ?_ | refine G_addZ (pc := 40) f_43_40 (by first | rfl | exact nI_zI _) (by first | rfl | exact nI_zI _) ?_ | refine G_S (pc := 40) f_43_40 rfl rfl rfl ?_
      refine G_S (pc := 41) f_43_41 rfl rfl rfl ?_
      refine G_S (pc := 42) f_43_42 rfl rfl rfl ?_
      refine G_S (pc := 43) f_43_43 rfl rfl rfl ?_
      refine G_gIv (pc := 44) f_43_44 (by decide) rfl (by decide) (by first | assumption | exact hK.1 _ _ rfl) (by first | assumption | exact mI_s | ((refine mI_o (by first | decide | omega) ?_); (repeat (refine mI_o (by first | decide | omega) ?_)); first | exact mI_s | assumption) | rfl) ?_
      refine G_jltZ (pc := 47) f_43_47 rfl (by first | exact nI_toInt (by omega) | exact zI_toInt (by omega) (by omega) | rfl) (by first | exact nI_toInt (by omega) | exact zI_toInt (by omega) (by omega) | rfl) (fun b2 => ?_) (fun b2 => ?_)
      · first | refine G_inc1 (pc := 122) f_43_122 rfl ?_ | refine G_S (pc := 122) f_43_122 rfl rfl rfl ?_
        refine G_S (pc := 125) f_43_125 rfl rfl rfl ?_
        have i3 : (m + 1 = 0 ∧ nI (wtF F (23 - d) m) = nI 0) ∨ ∃ j, m + 1 = j + 1 ∧ nI (wtF F (23 - d) m) = nI (wtF F (23 - d) j) := Or.inr ⟨m, rfl, rfl⟩
        have i2 := ih (by omega)
        first
          | exact i2 M1 _ _ rfl i3 W1 hF ⟨hq, by rw [plS_n (by omega)]; exact e1, by rw [plS_n (by omega)]; exact e2, by rw [plS_n (by omega)]; exact e3⟩
          | exact i2 M1 _ _ rfl i3 W1 hF ⟨hq, by rw [plS_k b3]; exact e1, by rw [plS_k b3]; exact e2, by rw [plS_k b3]; exact e3⟩
          | (have hF3 : Fc [g + 2, g + 3, g + 4] M1 _ := ((Fc.up (i := g + 2) (k := 23 - d) (x := nI (1 + (pT F d).1 (23 - d + m + 1))) m2).tr (Fc.up (i := g + 3) (k := 23 - d) (x := nI (wtF F (23 - d) m + (pT F d).2.1 (23 - d + m + 1))) m3)).tr (Fc.up (i := g + 4) (k := 23 - d) (x := nI (23 - d + m)) m4)
             refine i2 _ _ _ rfl i3 (W1.fc hF3 (g_notin (j := 0) (by decide)) (g_notin (j := 1) (by decide))) (hF.tr hF3) ⟨fun s h1 h2 => ?_, ?_, ?_, ?_⟩
             · obtain ⟨k1, k2, k3⟩ := hq s h1 h2
               exact ⟨(by (try dsimp only); exact up2_o (by omega) (by (try dsimp only); exact up2_o (by omega) (by (try dsimp only); exact up2_o (by omega) k1))), (by (try dsimp only); exact up2_o (by omega) (by (try dsimp only); exact up2_o (by omega) (by (try dsimp only); exact up2_o (by omega) k2))), (by (try dsimp only); exact up2_o (by omega) (by (try dsimp only); exact up2_o (by omega) (by (try dsimp only); exact up2_o (by omega) k3)))⟩
             · rw [plS_c (by omega) b3]
               exact (by (try dsimp only); exact up2_o (by omega) (by (try dsimp only); exact up2_o (by omega) (by (try dsimp only); exact up2_s)))
             · rw [plS_c (by omega) b3]
               exact (by (try dsimp only); exact up2_s)
             · rw [plS_c (by omega) b3]
               rintro q ⟨rfl⟩
               exact (by (try dsimp only); exact up2_o (by omega) (by (try dsimp only); exact up2_s)))
      · refine G_S (pc := 50) f_43_50 rfl rfl rfl ?_
        refine G_S (pc := 51) f_43_51 rfl rfl rfl ?_
        refine G_ic (v := nI 1) (pc := 52) f_43_52 (by decide) ?_
        refine G_S (pc := 53) f_43_53 rfl rfl rfl ?_
        refine G_gR (pc := 54) f_43_54 (by decide) rfl (by first | assumption | exact hK.1 _ _ rfl) (by first | assumption | exact hK.2 _ _ _ rfl | (try dsimp only) <;> (repeat (first | exact up2_s | refine up2_o (by first | decide | omega) ?_)) <;> first | assumption | exact hK.2 _ _ _ rfl) ?_
        refine G_S (pc := 57) f_43_57 rfl rfl rfl ?_
        refine G_ic (v := nI 1) (pc := 59) f_43_59 (by decide) ?_
        first | refine G_addN (pc := 60) f_43_60 ?_ | refine G_addZ (pc := 60) f_43_60 (by first | rfl | exact nI_zI _) (by first | rfl | exact nI_zI _) ?_ | refine G_S (pc := 60) f_43_60 rfl rfl rfl ?_
        refine G_iaN (pc := 61) f_43_61 (by first | assumption | exact hK.1 _ _ rfl) (by omega) (by omega) (by first | assumption | exact q1 _ (by omega) | exact q2 _ (by omega) | exact q3 _ (by omega) | exact q4 _ (by omega) | exact q5 _ (by omega) | exact vh _ (by omega) | exact (vr _ (by omega)).1 | exact (vr _ (by omega)).2 | exact vw _ (by omega) | exact vf _ (by omega) (by omega) | exact mI_s | ((refine mI_o (by first | decide | omega) ?_); (repeat (refine mI_o (by first | decide | omega) ?_)); first | exact mI_s | assumption | exact q1 _ (by omega) | exact q2 _ (by omega) | exact q3 _ (by omega) | exact q4 _ (by omega) | exact q5 _ (by omega) | exact vh _ (by omega) | exact (vr _ (by omega)).1 | exact (vr _ (by omega)).2 | exact vw _ (by omega) | exact vf _ (by omega) (by omega)) | rfl) ?_
        first | refine G_addN (pc := 62) f_43_62 ?_ | refine G_addZ (pc := 62) f_43_62 (by first | rfl | exact nI_zI _) (by first | rfl | exact nI_zI _) ?_ | refine G_S (pc := 62) f_43_62 rfl rfl rfl ?_
        refine G_S (pc := 63) f_43_63 rfl rfl rfl ?_
        refine G_S (pc := 64) f_43_64 rfl rfl rfl ?_
        refine G_gR (pc := 65) f_43_65 (by decide) rfl (by first | assumption | exact hK.1 _ _ rfl) (by first | assumption | exact hK.2 _ _ _ rfl | (try dsimp only) <;> (repeat (first | exact up2_s | refine up2_o (by first | decide | omega) ?_)) <;> first | assumption | exact hK.2 _ _ _ rfl) ?_
        refine G_S (pc := 68) f_43_68 rfl rfl rfl ?_
        refine G_ic (v := nI 1) (pc := 70) f_43_70 (by decide) ?_
        first | refine G_addN (pc := 71) f_43_71 ?_ | refine G_addZ (pc := 71) f_43_71 (by first | rfl | exact nI_zI _) (by first | rfl | exact nI_zI _) ?_ | refine G_S (pc := 71) f_43_71 rfl rfl rfl ?_
        refine G_iaN (pc := 72) f_43_72 (by first | assumption | exact hK.1 _ _ rfl) (by omega) (by omega) (by first | assumption | exact q1 _ (by omega) | exact q2 _ (by omega) | exact q3 _ (by omega) | exact q4 _ (by omega) | exact q5 _ (by omega) | exact vh _ (by omega) | exact (vr _ (by omega)).1 | exact (vr _ (by omega)).2 | exact vw _ (by omega) | exact vf _ (by omega) (by omega) | exact mI_s | ((refine mI_o (by first | decide | omega) ?_); (repeat (refine mI_o (by first | decide | omega) ?_)); first | exact mI_s | assumption | exact q1 _ (by omega) | exact q2 _ (by omega) | exact q3 _ (by omega) | exact q4 _ (by omega) | exact q5 _ (by omega) | exact vh _ (by omega) | exact (vr _ (by omega)).1 | exact (vr _ (by omega)).2 | exact vw _ (by omega) | exact vf _ (by omega) (by omega)) | rfl) ?_
        first | refine G_addN (pc := 73) f_43_73 ?_ | refine G_addZ (pc := 73) f_43_73 (by first | rfl | exact nI_zI _) (by first | rfl | exact nI_zI _) ?_ | refine G_S (pc := 73) f_43_73 rfl rfl rfl ?_
        refine G_CV (pc := 74) f_43_74 rfl rfl (by decide) rfl rfl (by first | assumption | exact hK.1 _ _ rfl) (by decide) ⟨Nat.le_of_ble_eq_true rfl, Nat.le_of_ble_eq_true rfl⟩ ?_
        refine CG.go (f_isBetter W1 (by omega) e1 e3' (by omega) (by omega) (by omega) (by omega) (by omega)) ?_
        first | refine G_bEq (pc := 77) f_43_77 rfl (fun b3 => ?_) (fun b3 => ?_) | refine G_zeqZ (pc := 77) f_43_77 rfl (by first | exact nI_toInt (by omega) | exact zI_toInt (by omega) (by omega) | rfl) (fun b3 => ?_) (fun b3 => ?_)
        · first | refine G_inc1 (pc := 122) f_43_122 rfl ?_ | refine G_S (pc := 122) f_43_122 rfl rfl rfl ?_
          refine G_S (pc := 125) f_43_125 rfl rfl rfl ?_
          have i3 : (m + 1 = 0 ∧ nI (wtF F (23 - d) m) = nI 0) ∨ ∃ j, m + 1 = j + 1 ∧ nI (wtF F (23 - d) m) = nI (wtF F (23 - d) j) := Or.inr ⟨m, rfl, rfl⟩
          have i2 := ih (by omega)
          first
            | exact i2 M1 _ _ rfl i3 W1 hF ⟨hq, by rw [plS_n (by omega)]; exact e1, by rw [plS_n (by omega)]; exact e2, by rw [plS_n (by omega)]; exact e3⟩
            | exact i2 M1 _ _ rfl i3 W1 hF ⟨hq, by rw [plS_k b3]; exact e1, by rw [plS_k b3]; exact e2, by rw [plS_k b3]; exact e3⟩
            | (have hF3 : Fc [g + 2, g + 3, g + 4] M1 _ := ((Fc.up (i := g + 2) (k := 23 - d) (x := nI (1 + (pT F d).1 (23 - d + m + 1))) m2).tr (Fc.up (i := g + 3) (k := 23 - d) (x := nI (wtF F (23 - d) m + (pT F d).2.1 (23 - d + m + 1))) m3)).tr (Fc.up (i := g + 4) (k := 23 - d) (x := nI (23 - d + m)) m4)
               refine i2 _ _ _ rfl i3 (W1.fc hF3 (g_notin (j := 0) (by decide)) (g_notin (j := 1) (by decide))) (hF.tr hF3) ⟨fun s h1 h2 => ?_, ?_, ?_, ?_⟩
               · obtain ⟨k1, k2, k3⟩ := hq s h1 h2
                 exact ⟨(by (try dsimp only); exact up2_o (by omega) (by (try dsimp only); exact up2_o (by omega) (by (try dsimp only); exact up2_o (by omega) k1))), (by (try dsimp only); exact up2_o (by omega) (by (try dsimp only); exact up2_o (by omega) (by (try dsimp only); exact up2_o (by omega) k2))), (by (try dsimp only); exact up2_o (by omega) (by (try dsimp only); exact up2_o (by omega) (by (try dsimp only); exact up2_o (by omega) k3)))⟩
               · rw [plS_c (by omega) b3]
                 exact (by (try dsimp only); exact up2_o (by omega) (by (try dsimp only); exact up2_o (by omega) (by (try dsimp only); exact up2_s)))
               · rw [plS_c (by omega) b3]
                 exact (by (try dsimp only); exact up2_s)
               · rw [plS_c (by omega) b3]
                 rintro q ⟨rfl⟩
                 exact (by (try dsimp only); exact up2_o (by omega) (by (try dsimp only); exact up2_s)))
        · refine G_S (pc := 80) f_43_80 rfl rfl rfl ?_
          refine G_gR (pc := 81) f_43_81 (by decide) rfl (by first | assumption | exact hK.1 _ _ rfl) (by first | assumption | exact hK.2 _ _ _ rfl | (try dsimp only) <;> (repeat (first | exact up2_s | refine up2_o (by first | decide | omega) ?_)) <;> first | assumption | exact hK.2 _ _ _ rfl) ?_
          refine G_S (pc := 84) f_43_84 rfl rfl rfl ?_
          refine G_ic (v := nI 1) (pc := 85) f_43_85 (by decide) ?_
          refine G_S (pc := 86) f_43_86 rfl rfl rfl ?_
          refine G_gR (pc := 87) f_43_87 (by decide) rfl (by first | assumption | exact hK.1 _ _ rfl) (by first | assumption | exact hK.2 _ _ _ rfl | (try dsimp only) <;> (repeat (first | exact up2_s | refine up2_o (by first | decide | omega) ?_)) <;> first | assumption | exact hK.2 _ _ _ rfl) ?_
          refine G_S (pc := 90) f_43_90 rfl rfl rfl ?_
          refine G_ic (v := nI 1) (pc := 92) f_43_92 (by decide) ?_
          first | refine G_addN (pc := 93) f_43_93 ?_ | refine G_addZ (pc := 93) f_43_93 (by first | rfl | exact nI_zI _) (by first | rfl | exact nI_zI _) ?_ | refine G_S (pc := 93) f_43_93 rfl rfl rfl ?_
          refine G_iaN (pc := 94) f_43_94 (by first | assumption | exact hK.1 _ _ rfl) (by omega) (by omega) (by first | assumption | exact q1 _ (by omega) | exact q2 _ (by omega) | exact q3 _ (by omega) | exact q4 _ (by omega) | exact q5 _ (by omega) | exact vh _ (by omega) | exact (vr _ (by omega)).1 | exact (vr _ (by omega)).2 | exact vw _ (by omega) | exact vf _ (by omega) (by omega) | exact mI_s | ((refine mI_o (by first | decide | omega) ?_); (repeat (refine mI_o (by first | decide | omega) ?_)); first | exact mI_s | assumption | exact q1 _ (by omega) | exact q2 _ (by omega) | exact q3 _ (by omega) | exact q4 _ (by omega) | exact q5 _ (by omega) | exact vh _ (by omega) | exact (vr _ (by omega)).1 | exact (vr _ (by omega)).2 | exact vw _ (by omega) | exact vf _ (by omega) (by omega)) | rfl) ?_
          first | refine G_addN (pc := 95) f_43_95 ?_ | refine G_addZ (pc := 95) f_43_95 (by first | rfl | exact nI_zI _) (by first | rfl | exact nI_zI _) ?_ | refine G_S (pc := 95) f_43_95 rfl rfl rfl ?_
          refine G_isN (pc := 96) f_43_96 (by first | assumption | exact hK.1 _ _ rfl) (by omega) (by omega) ?_
          refine G_S (pc := 97) f_43_97 rfl rfl rfl ?_
          refine G_gR (pc := 98) f_43_98 (by decide) rfl (by first | assumption | exact hK.1 _ _ rfl) (by first | assumption | exact hK.2 _ _ _ rfl | (try dsimp only) <;> (repeat (first | exact up2_s | refine up2_o (by first | decide | omega) ?_)) <;> first | assumption | exact hK.2 _ _ _ rfl) ?_
          refine G_S (pc := 101) f_43_101 rfl rfl rfl ?_
          refine G_S (pc := 102) f_43_102 rfl rfl rfl ?_
          refine G_S (pc := 103) f_43_103 rfl rfl rfl ?_
          refine G_gR (pc := 104) f_43_104 (by decide) rfl (by first | assumption | exact hK.1 _ _ rfl) (by first | assumption | exact hK.2 _ _ _ rfl | (try dsimp only) <;> (repeat (first | exact up2_s | refine up2_o (by first | decide | omega) ?_)) <;> first | assumption | exact hK.2 _ _ _ rfl) ?_
          refine G_S (pc := 107) f_43_107 rfl rfl rfl ?_
          refine G_ic (v := nI 1) (pc := 109) f_43_109 (by decide) ?_
          first | refine G_addN (pc := 110) f_43_110 ?_ | refine G_addZ (pc := 110) f_43_110 (by first | rfl | exact nI_zI _) (by first | rfl | exact nI_zI _) ?_ | refine G_S (pc := 110) f_43_110 rfl rfl rfl ?_
          refine G_iaN (pc := 111) f_43_111 (by first | assumption | exact hK.1 _ _ rfl) (by omega) (by omega) (by first | exact (mI_o (by omega) hWn) | rfl) ?_
          first | refine G_addN (pc := 112) f_43_112 ?_ | refine G_addZ (pc := 112) f_43_112 (by first | rfl | exact nI_zI _) (by first | rfl | exact nI_zI _) ?_ | refine G_S (pc := 112) f_43_112 rfl rfl rfl ?_
          refine G_isN (pc := 113) f_43_113 (by first | assumption | exact hK.1 _ _ rfl) (by omega) (by omega) ?_
          refine G_S (pc := 114) f_43_114 rfl rfl rfl ?_
          refine G_gR (pc := 115) f_43_115 (by decide) rfl (by first | assumption | exact hK.1 _ _ rfl) (by first | assumption | exact hK.2 _ _ _ rfl | (try dsimp only) <;> (repeat (first | exact up2_s | refine up2_o (by first | decide | omega) ?_)) <;> first | assumption | exact hK.2 _ _ _ rfl) ?_
          refine G_S (pc := 118) f_43_118 rfl rfl rfl ?_
          refine G_S (pc := 119) f_43_119 rfl rfl rfl ?_
          refine G_isN (pc := 121) f_43_121 (by first | assumption | exact hK.1 _ _ rfl) (by omega) (by omega) ?_
          first | refine G_inc1 (pc := 122) f_43_122 rfl ?_ | refine G_S (pc := 122) f_43_122 rfl rfl rfl ?_
          refine G_S (pc := 125) f_43_125 rfl rfl rfl ?_
          have i3 : (m + 1 = 0 ∧ nI (wtF F (23 - d) m) = nI 0) ∨ ∃ j, m + 1 = j + 1 ∧ nI (wtF F (23 - d) m) = nI (wtF F (23 - d) j) := Or.inr ⟨m, rfl, rfl⟩
          have i2 := ih (by omega)
          first
            | exact i2 M1 _ _ rfl i3 W1 hF ⟨hq, by rw [plS_n (by omega)]; exact e1, by rw [plS_n (by omega)]; exact e2, by rw [plS_n (by omega)]; exact e3⟩
            | exact i2 M1 _ _ rfl i3 W1 hF ⟨hq, by rw [plS_k b3]; exact e1, by rw [plS_k b3]; exact e2, by rw [plS_k b3]; exact e3⟩
            | (have hF3 : Fc [g + 2, g + 3, g + 4] M1 _ := ((Fc.up (i := g + 2) (k := 23 - d) (x := nI (1 + (pT F d).1 (23 - d + m + 1))) m2).tr (Fc.up (i := g + 3) (k := 23 - d) (x := nI (wtF F (23 - d) m + (pT F d).2.1 (23 - d + m + 1))) m3)).tr (Fc.up (i := g + 4) (k := 23 - d) (x := nI (23 - d + m)) m4)
               refine i2 _ _ _ rfl i3 (W1.fc hF3 (g_notin (j := 0) (by decide)) (g_notin (j := 1) (by decide))) (hF.tr hF3) ⟨fun s h1 h2 => ?_, ?_, ?_, ?_⟩
               · obtain ⟨k1, k2, k3⟩ := hq s h1 h2
                 exact ⟨(by (try dsimp only); exact up2_o (by omega) (by (try dsimp only); exact up2_o (by omega) (by (try dsimp only); exact up2_o (by omega) k1))), (by (try dsimp only); exact up2_o (by omega) (by (try dsimp only); exact up2_o (by omega) (by (try dsimp only); exact up2_o (by omega) k2))), (by (try dsimp only); exact up2_o (by omega) (by (try dsimp only); exact up2_o (by omega) (by (try dsimp only); exact up2_o (by omega) k3)))⟩
               · rw [plS_c (by omega) b3]
                 exact (by (try dsimp only); exact up2_o (by omega) (by (try dsimp only); exact up2_o (by omega) (by (try dsimp only); exact up2_s)))
               · rw [plS_c (by omega) b3]
                 exact (by (try dsimp only); exact up2_s)
               · rw [plS_c (by omega) b3]
                 rintro q ⟨rfl⟩
                 exact (by (try dsimp only); exact up2_o (by omega) (by (try dsimp only); exact up2_s)))
  have hK := W.1
  obtain ⟨⟨t0, t1, t2, t3, t4⟩, r1, r2, r3, r4⟩ := W.2.1
  obtain ⟨hFO, v0, q1⟩ := W.2.2.1
  have hg := W.2.2.2
  have hn1 := hFO.1
  have hc9 := hFO.2
  refine CG_in (mL := 5) (hl := false) (lv := [some (.ref g), some (.int (nI (23 - d))), none, none, none]) (ll := []) rfl rfl rfl ?_
  refine G_S (pc := 0) f_43_0 rfl rfl rfl ?_
  refine G_gR (pc := 1) f_43_1 (by decide) rfl (by first | assumption | exact hK.1 _ _ rfl) (by first | assumption | exact hK.2 _ _ _ rfl | (try dsimp only) <;> (repeat (first | exact up2_s | refine up2_o (by first | decide | omega) ?_)) <;> first | assumption | exact hK.2 _ _ _ rfl) ?_
  refine G_S (pc := 4) f_43_4 rfl rfl rfl ?_
  refine G_ic (v := nI 0) (pc := 5) f_43_5 (by decide) ?_
  refine G_isN (pc := 6) f_43_6 (by first | assumption | exact hK.1 _ _ rfl) (by omega) (by omega) ?_
  refine G_S (pc := 7) f_43_7 rfl rfl rfl ?_
  refine G_gR (pc := 8) f_43_8 (by decide) rfl (by first | assumption | exact hK.1 _ _ rfl) (by first | assumption | exact hK.2 _ _ _ rfl | (try dsimp only) <;> (repeat (first | exact up2_s | refine up2_o (by first | decide | omega) ?_)) <;> first | assumption | exact hK.2 _ _ _ rfl) ?_
  refine G_S (pc := 11) f_43_11 rfl rfl rfl ?_
  refine G_ic (v := zI (-1)) (pc := 12) f_43_12 (by decide) ?_
  refine G_isN (pc := 13) f_43_13 (by first | assumption | exact hK.1 _ _ rfl) (by omega) (by omega) ?_
  refine G_ic (v := nI 0) (pc := 14) f_43_14 (by decide) ?_
  refine G_S (pc := 15) f_43_15 rfl rfl rfl ?_
  refine G_ic (v := nI 0) (pc := 16) f_43_16 (by decide) ?_
  refine G_S (pc := 17) f_43_17 rfl rfl rfl ?_
  refine G_S (pc := 18) f_43_18 rfl rfl rfl ?_
  refine G_S (pc := 19) f_43_19 rfl rfl rfl ?_
  have hF3 : Fc [g + 2, g + 3, g + 4] M _ := (Fc.up (i := g + 2) (k := 23 - d) (x := nI 0) m2).tr (Fc.up (i := g + 4) (k := 23 - d) (x := zI (-1)) m4)
  refine loop 0 (Nat.zero_le _) _ _ _ rfl (Or.inl ⟨rfl, rfl⟩) (W.fc hF3 (g_notin (j := 0) (by decide)) (g_notin (j := 1) (by decide))) hF3 ⟨fun s h1 h2 => ?_, ?_, ?_, ?_⟩
  · obtain ⟨k1, k2, k3⟩ := hP s h1 h2
    exact ⟨(by (try dsimp only); exact up2_o (by omega) (by (try dsimp only); exact up2_o (by omega) k1)), (by (try dsimp only); exact up2_o (by omega) (by (try dsimp only); exact up2_o (by omega) k2)), (by (try dsimp only); exact up2_o (by omega) (by (try dsimp only); exact up2_o (by omega) k3))⟩
  · exact (by (try dsimp only); exact up2_o (by omega) (by (try dsimp only); exact up2_s))
  · exact (by (try dsimp only); exact up2_s)
  · intro q hq
    cases hq
theorem f_plan (W : FW M g F) : CG C 42 [.ref g] M (fun w M' => w = none ∧ Fc [g + 2, g + 3, g + 4] M M' ∧ FW M' g F ∧ PW M' g F 24) := by
  have loop : ∀ d : Nat, d ≤ 24 → ∀ M1 x, x = zI (23 - (d : Int)) → FW M1 g F → Fc [g + 2, g + 3, g + 4] M M1 → PW M1 g F d → G C 42 (27, [some (.ref g), some (.int x)], [], [], M1) (fun w M' => w = none ∧ Fc [g + 2, g + 3, g + 4] M M' ∧ FW M' g F ∧ PW M' g F 24) := by
    refine upto (fun d hd ih M1 x hx W1 hF hP => ?_)
    have hK := W1.1
    obtain ⟨⟨t0, t1, t2, t3, t4⟩, r1, r2, r3, r4⟩ := W1.2.1
    obtain ⟨hFO, v0, q1⟩ := W1.2.2.1
    have hg := W1.2.2.2
    have hn1 := hFO.1
    have hc9 := hFO.2
    have hxi : x.toInt = 23 - (d : Int) := by
      rw [hx]
      exact zI_toInt (by omega) (by omega)
    by_cases h24 : d = 24
    · subst h24
      refine G_S (pc := 27) f_42_27 rfl rfl rfl ?_
      refine G_zltZ (pc := 28) f_42_28 rfl (by first | exact nI_toInt (by omega) | exact zI_toInt (by omega) (by omega) | rfl) (fun b1 => ?_) (fun b1 => ?_)
      · refine G_rv (pc := 42) f_42_42 ?_
        exact ⟨rfl, hF, W1, hP⟩
      · exfalso; omega
    · have hx2 : x = nI (23 - d) := by
        rw [hx, nI_zI]
        congr 1
        omega
      subst hx2
      refine G_S (pc := 27) f_42_27 rfl rfl rfl ?_
      refine G_zltZ (pc := 28) f_42_28 rfl (by first | exact nI_toInt (by omega) | exact zI_toInt (by omega) (by omega) | rfl) (fun b1 => ?_) (fun b1 => ?_)
      · exfalso; omega
      · refine G_S (pc := 31) f_42_31 rfl rfl rfl ?_
        refine G_S (pc := 32) f_42_32 rfl rfl rfl ?_
        refine G_CV (pc := 33) f_42_33 rfl rfl (by decide) rfl rfl (by first | assumption | exact hK.1 _ _ rfl) (by decide) ⟨Nat.le_of_ble_eq_true rfl, Nat.le_of_ble_eq_true rfl⟩ ?_
        refine CG.mono (f_planFrom W1 (by omega) hP) ?_
        rintro _ M2 ⟨rfl, hF2, hP2⟩
        have W2 := W1.fc hF2 (g_notin (j := 0) (by decide)) (g_notin (j := 1) (by decide))
        refine G_S (pc := 36) f_42_36 rfl rfl rfl ?_
        refine G_S (pc := 39) f_42_39 rfl rfl rfl ?_
        refine ih (by omega) M2 _ ?_ W2 (hF.tr hF2) hP2
        rw [nI_zI, show (Int32.ofInt (-1)) = zI (-1) from rfl, zI_add]
        congr 1
        omega
  have hK := W.1
  obtain ⟨⟨t0, t1, t2, t3, t4⟩, r1, r2, r3, r4⟩ := W.2.1
  obtain ⟨hFO, v0, q1⟩ := W.2.2.1
  have hg := W.2.2.2
  have hn1 := hFO.1
  have hc9 := hFO.2
  refine CG_in (mL := 2) (hl := false) (lv := [some (.ref g), none]) (ll := []) rfl rfl rfl ?_
  refine G_S (pc := 0) f_42_0 rfl rfl rfl ?_
  refine G_gR (pc := 1) f_42_1 (by decide) rfl (by first | assumption | exact hK.1 _ _ rfl) (by first | assumption | exact hK.2 _ _ _ rfl | (try dsimp only) <;> (repeat (first | exact up2_s | refine up2_o (by first | decide | omega) ?_)) <;> first | assumption | exact hK.2 _ _ _ rfl) ?_
  refine G_bi (v := nI 24) (pc := 4) f_42_4 (by decide) ?_
  refine G_ic (v := nI 0) (pc := 6) f_42_6 (by decide) ?_
  refine G_isN (pc := 7) f_42_7 (by first | assumption | exact hK.1 _ _ rfl) (by omega) (by omega) ?_
  refine G_S (pc := 8) f_42_8 rfl rfl rfl ?_
  refine G_gR (pc := 9) f_42_9 (by decide) rfl (by first | assumption | exact hK.1 _ _ rfl) (by first | assumption | exact hK.2 _ _ _ rfl | (try dsimp only) <;> (repeat (first | exact up2_s | refine up2_o (by first | decide | omega) ?_)) <;> first | assumption | exact hK.2 _ _ _ rfl) ?_
  refine G_bi (v := nI 24) (pc := 12) f_42_12 (by decide) ?_
  refine G_ic (v := nI 0) (pc := 14) f_42_14 (by decide) ?_
  refine G_isN (pc := 15) f_42_15 (by first | assumption | exact hK.1 _ _ rfl) (by omega) (by omega) ?_
  refine G_S (pc := 16) f_42_16 rfl rfl rfl ?_
  refine G_gR (pc := 17) f_42_17 (by decide) rfl (by first | assumption | exact hK.1 _ _ rfl) (by first | assumption | exact hK.2 _ _ _ rfl | (try dsimp only) <;> (repeat (first | exact up2_s | refine up2_o (by first | decide | omega) ?_)) <;> first | assumption | exact hK.2 _ _ _ rfl) ?_
  refine G_bi (v := nI 24) (pc := 20) f_42_20 (by decide) ?_
  refine G_ic (v := zI (-1)) (pc := 22) f_42_22 (by decide) ?_
  refine G_isN (pc := 23) f_42_23 (by first | assumption | exact hK.1 _ _ rfl) (by omega) (by omega) ?_
  refine G_bi (v := nI 23) (pc := 24) f_42_24 (by decide) ?_
  refine G_S (pc := 26) f_42_26 rfl rfl rfl ?_
  have hF3 : Fc [g + 2, g + 3, g + 4] M _ := ((Fc.up (i := g + 2) (k := 24) (x := nI 0) m2).tr (Fc.up (i := g + 3) (k := 24) (x := nI 0) m3)).tr (Fc.up (i := g + 4) (k := 24) (x := zI (-1)) m4)
  refine loop 0 (Nat.zero_le _) _ _ (nI_zI 23) (W.fc hF3 (g_notin (j := 0) (by decide)) (g_notin (j := 1) (by decide))) hF3 (fun s h1 h2 => ?_)
  have e : s = 24 := by omega
  subst e
  exact ⟨(by (try dsimp only); exact up2_o (by omega) (by (try dsimp only); exact up2_o (by omega) (by (try dsimp only); exact up2_s))), (by (try dsimp only); exact up2_o (by omega) (by (try dsimp only); exact up2_s)), (by (try dsimp only); exact up2_s)⟩
theorem f_hourOf {k : Nat} (W : FW M g F) (hP : PW M g F 24) (hk : k < 24) : CG C 46 [.ref g, .int (nI k)] M (fun w M' => w = some (.int (oI (hrF (pT F 24).2.2 k))) ∧ M' = M) := by
  have hK := W.1
  obtain ⟨⟨t0, t1, t2, t3, t4⟩, r1, r2, r3, r4⟩ := W.2.1
  obtain ⟨hFO, v0, q1⟩ := W.2.2.1
  have hg := W.2.2.2
  have hn1 := hFO.1
  have hc9 := hFO.2
  obtain ⟨p1, p2, p3⟩ := pT_b hFO 24 (by omega)
  have hP3 : ∀ s, s ≤ 24 → M.2.1 (g + 4) s = oI ((pT F 24).2.2 s) := fun s h => (hP s (by omega) h).2.2
  have hrn : ∀ i j, i ≤ j → hrF (pT F 24).2.2 i = none → hrF (pT F 24).2.2 j = none := by
    intro i j hij
    induction hij with
    | refl => exact id
    | step _ ih =>
      intro h
      rw [hrF, ih h]
  have hr24 : ∀ i h, hrF (pT F 24).2.2 i = some h → h < 24 := by
    intro i h hi
    cases i with
    | zero => exact p3 _ _ hi
    | succ i =>
      rw [hrF] at hi
      split at hi
      · cases hi
      · exact p3 _ _ hi
  have loop : ∀ i, i ≤ k → G C 46 (9, [some (.ref g), some (.int (nI k)), some (.int ((oI (hrF (pT F 24).2.2 i)))), some (.int (nI i))], [], [], M) (fun w M' => w = some (.int (oI (hrF (pT F 24).2.2 k))) ∧ M' = M) := by
    refine upto (fun i hi ih => ?_)
    cases hh : hrF (pT F 24).2.2 i with
    | none =>
      have hk0 := hrn i k hi hh
      rw [hk0]
      refine G_S (pc := 9) f_46_9 rfl rfl rfl ?_
      refine G_S (pc := 10) f_46_10 rfl rfl rfl ?_
      refine G_jgeZ (pc := 11) f_46_11 rfl (by first | exact nI_toInt (by omega) | exact zI_toInt (by omega) (by omega) | rfl) (by first | exact nI_toInt (by omega) | exact zI_toInt (by omega) (by omega) | rfl) (fun b1 => ?_) (fun b1 => ?_)
      · refine G_S (pc := 39) f_46_39 rfl rfl rfl ?_
        refine G_ri (pc := 40) f_46_40 ?_
        exact ⟨rfl, rfl⟩
      · refine G_S (pc := 14) f_46_14 rfl rfl rfl ?_
        refine G_zltZ (pc := 15) f_46_15 rfl (by first | exact nI_toInt (by omega) | exact zI_toInt (by omega) (by omega) | rfl) (fun b2 => ?_) (fun b2 => ?_)
        · refine G_S (pc := 39) f_46_39 rfl rfl rfl ?_
          refine G_ri (pc := 40) f_46_40 ?_
          exact ⟨rfl, rfl⟩
        · exact absurd b2 (by decide)
    | some h =>
      have h24 := hr24 i h hh
      rw [oI_some]
      have q1 := hP3 (h + 1) (by omega)
      refine G_S (pc := 9) f_46_9 rfl rfl rfl ?_
      refine G_S (pc := 10) f_46_10 rfl rfl rfl ?_
      refine G_jgeZ (pc := 11) f_46_11 rfl (by first | exact nI_toInt (by omega) | exact zI_toInt (by omega) (by omega) | rfl) (by first | exact nI_toInt (by omega) | exact zI_toInt (by omega) (by omega) | rfl) (fun b1 => ?_) (fun b1 => ?_)
      · refine G_S (pc := 39) f_46_39 rfl rfl rfl ?_
        refine G_ri (pc := 40) f_46_40 ?_
        have e : i = k := by omega
        rw [← e, hh]
        exact ⟨rfl, rfl⟩
      · refine G_S (pc := 14) f_46_14 rfl rfl rfl ?_
        refine G_zltZ (pc := 15) f_46_15 rfl (by first | exact nI_toInt (by omega) | exact zI_toInt (by omega) (by omega) | rfl) (fun b2 => ?_) (fun b2 => ?_)
        · exfalso; omega
        · refine G_S (pc := 18) f_46_18 rfl rfl rfl ?_
          refine G_bi (v := nI 24) (pc := 19) f_46_19 (by decide) ?_
          refine G_jgeZ (pc := 21) f_46_21 rfl (by first | exact nI_toInt (by omega) | exact zI_toInt (by omega) (by omega) | rfl) (by first | exact nI_toInt (by omega) | exact zI_toInt (by omega) (by omega) | rfl) (fun b3 => ?_) (fun b3 => ?_)
          · exfalso; omega
          · refine G_S (pc := 24) f_46_24 rfl rfl rfl ?_
            refine G_gR (pc := 25) f_46_25 (by decide) rfl (by first | assumption | exact hK.1 _ _ rfl) (by first | assumption | exact hK.2 _ _ _ rfl | (try dsimp only) <;> (repeat (first | exact up2_s | refine up2_o (by first | decide | omega) ?_)) <;> first | assumption | exact hK.2 _ _ _ rfl) ?_
            refine G_S (pc := 28) f_46_28 rfl rfl rfl ?_
            refine G_ic (v := nI 1) (pc := 29) f_46_29 (by decide) ?_
            first | refine G_addN (pc := 30) f_46_30 ?_ | refine G_addZ (pc := 30) f_46_30 (by first | rfl | exact nI_zI _) (by first | rfl | exact nI_zI _) ?_ | refine G_S (pc := 30) f_46_30 rfl rfl rfl ?_
            refine G_iaN (pc := 31) f_46_31 (by first | assumption | exact hK.1 _ _ rfl) (by omega) (by omega) (by first | assumption | exact q1 _ (by omega) | exact q2 _ (by omega) | exact q3 _ (by omega) | exact q4 _ (by omega) | exact q5 _ (by omega) | exact vh _ (by omega) | exact (vr _ (by omega)).1 | exact (vr _ (by omega)).2 | exact vw _ (by omega) | exact vf _ (by omega) (by omega) | exact mI_s | ((refine mI_o (by first | decide | omega) ?_); (repeat (refine mI_o (by first | decide | omega) ?_)); first | exact mI_s | assumption | exact q1 _ (by omega) | exact q2 _ (by omega) | exact q3 _ (by omega) | exact q4 _ (by omega) | exact q5 _ (by omega) | exact vh _ (by omega) | exact (vr _ (by omega)).1 | exact (vr _ (by omega)).2 | exact vw _ (by omega) | exact vf _ (by omega) (by omega)) | rfl) ?_
            refine G_S (pc := 32) f_46_32 rfl rfl rfl ?_
            first | refine G_inc1 (pc := 33) f_46_33 rfl ?_ | refine G_S (pc := 33) f_46_33 rfl rfl rfl ?_
            refine G_S (pc := 36) f_46_36 rfl rfl rfl ?_
            have e := ih (by omega)
            rw [hrF, hh] at e
            exact e
  have q1 := hP3 0 (by omega)
  refine CG_in (mL := 4) (hl := false) (lv := [some (.ref g), some (.int (nI k)), none, none]) (ll := []) rfl rfl rfl ?_
  refine G_S (pc := 0) f_46_0 rfl rfl rfl ?_
  refine G_gR (pc := 1) f_46_1 (by decide) rfl (by first | assumption | exact hK.1 _ _ rfl) (by first | assumption | exact hK.2 _ _ _ rfl | (try dsimp only) <;> (repeat (first | exact up2_s | refine up2_o (by first | decide | omega) ?_)) <;> first | assumption | exact hK.2 _ _ _ rfl) ?_
  refine G_ic (v := nI 0) (pc := 4) f_46_4 (by decide) ?_
  refine G_iaN (pc := 5) f_46_5 (by first | assumption | exact hK.1 _ _ rfl) (by omega) (by omega) (by first | assumption | exact q1 _ (by omega) | exact q2 _ (by omega) | exact q3 _ (by omega) | exact q4 _ (by omega) | exact q5 _ (by omega) | exact vh _ (by omega) | exact (vr _ (by omega)).1 | exact (vr _ (by omega)).2 | exact vw _ (by omega) | exact vf _ (by omega) (by omega) | exact mI_s | ((refine mI_o (by first | decide | omega) ?_); (repeat (refine mI_o (by first | decide | omega) ?_)); first | exact mI_s | assumption | exact q1 _ (by omega) | exact q2 _ (by omega) | exact q3 _ (by omega) | exact q4 _ (by omega) | exact q5 _ (by omega) | exact vh _ (by omega) | exact (vr _ (by omega)).1 | exact (vr _ (by omega)).2 | exact vw _ (by omega) | exact vf _ (by omega) (by omega)) | rfl) ?_
  refine G_S (pc := 6) f_46_6 rfl rfl rfl ?_
  refine G_ic (v := nI 0) (pc := 7) f_46_7 (by decide) ?_
  refine G_S (pc := 8) f_46_8 rfl rfl rfl ?_
  exact loop 0 (Nat.zero_le _)
def lvF (F : Nat → Nat) (x : Int32) : Int32 := if x.toInt = 0 then nI ((pT F 24).1 0) else if x.toInt = 1 then nI ((pT F 24).2.1 0) else if 10 ≤ x.toInt ∧ x.toInt < 34 then oI (hrF (pT F 24).2.2 (x.toInt.toNat - 10)) else zI (-1)
theorem f_planned (W : FW M g F) (hP : PW M g F 24) : CG C 45 [.ref g, .int x] M (fun w M' => w = some (.int (lvF F x)) ∧ M' = M) := by
  have hK := W.1
  obtain ⟨⟨t0, t1, t2, t3, t4⟩, r1, r2, r3, r4⟩ := W.2.1
  obtain ⟨hFO, v0, q1⟩ := W.2.2.1
  have hg := W.2.2.2
  have hn1 := hFO.1
  have hc9 := hFO.2
  obtain ⟨q2, q3, q4⟩ := hP 0 (by omega) (by omega)
  by_cases hx : x.toInt = 0 ∨ x.toInt = 1
  · obtain ⟨c, hc, rfl⟩ := i_nat (x := x) (n := 2) (by omega) (by omega)
    refine CG_in (mL := 2) (hl := false) (lv := [some (.ref g), some (.int (nI c))]) (ll := []) rfl rfl rfl ?_
    refine G_S (pc := 0) f_45_0 rfl rfl rfl ?_
    rcases (show c = 0 ∨ c = 1 by omega) with rfl | rfl
    · refine G_S (pc := 1) f_45_1 rfl rfl rfl ?_
      refine G_S (pc := 28) f_45_28 rfl rfl rfl ?_
      refine G_gR (pc := 29) f_45_29 (by decide) rfl (by first | assumption | exact hK.1 _ _ rfl) (by first | assumption | exact hK.2 _ _ _ rfl | (try dsimp only) <;> (repeat (first | exact up2_s | refine up2_o (by first | decide | omega) ?_)) <;> first | assumption | exact hK.2 _ _ _ rfl) ?_
      refine G_ic (v := nI 0) (pc := 32) f_45_32 (by decide) ?_
      refine G_iaN (pc := 33) f_45_33 (by first | assumption | exact hK.1 _ _ rfl) (by omega) (by omega) (by first | assumption | exact q1 _ (by omega) | exact q2 _ (by omega) | exact q3 _ (by omega) | exact q4 _ (by omega) | exact q5 _ (by omega) | exact vh _ (by omega) | exact (vr _ (by omega)).1 | exact (vr _ (by omega)).2 | exact vw _ (by omega) | exact vf _ (by omega) (by omega) | exact mI_s | ((refine mI_o (by first | decide | omega) ?_); (repeat (refine mI_o (by first | decide | omega) ?_)); first | exact mI_s | assumption | exact q1 _ (by omega) | exact q2 _ (by omega) | exact q3 _ (by omega) | exact q4 _ (by omega) | exact q5 _ (by omega) | exact vh _ (by omega) | exact (vr _ (by omega)).1 | exact (vr _ (by omega)).2 | exact vw _ (by omega) | exact vf _ (by omega) (by omega)) | rfl) ?_
      refine G_ri (pc := 34) f_45_34 ?_
      exact ⟨rfl, rfl⟩
    · refine G_S (pc := 1) f_45_1 rfl rfl rfl ?_
      refine G_S (pc := 35) f_45_35 rfl rfl rfl ?_
      refine G_gR (pc := 36) f_45_36 (by decide) rfl (by first | assumption | exact hK.1 _ _ rfl) (by first | assumption | exact hK.2 _ _ _ rfl | (try dsimp only) <;> (repeat (first | exact up2_s | refine up2_o (by first | decide | omega) ?_)) <;> first | assumption | exact hK.2 _ _ _ rfl) ?_
      refine G_ic (v := nI 0) (pc := 39) f_45_39 (by decide) ?_
      refine G_iaN (pc := 40) f_45_40 (by first | assumption | exact hK.1 _ _ rfl) (by omega) (by omega) (by first | assumption | exact q1 _ (by omega) | exact q2 _ (by omega) | exact q3 _ (by omega) | exact q4 _ (by omega) | exact q5 _ (by omega) | exact vh _ (by omega) | exact (vr _ (by omega)).1 | exact (vr _ (by omega)).2 | exact vw _ (by omega) | exact vf _ (by omega) (by omega) | exact mI_s | ((refine mI_o (by first | decide | omega) ?_); (repeat (refine mI_o (by first | decide | omega) ?_)); first | exact mI_s | assumption | exact q1 _ (by omega) | exact q2 _ (by omega) | exact q3 _ (by omega) | exact q4 _ (by omega) | exact q5 _ (by omega) | exact vh _ (by omega) | exact (vr _ (by omega)).1 | exact (vr _ (by omega)).2 | exact vw _ (by omega) | exact vf _ (by omega) (by omega)) | rfl) ?_
      refine G_ri (pc := 41) f_45_41 ?_
      exact ⟨rfl, rfl⟩
  · refine CG_in (mL := 2) (hl := false) (lv := [some (.ref g), some (.int x)]) (ll := []) rfl rfl rfl ?_
    refine G_S (pc := 0) f_45_0 rfl rfl rfl ?_
    skip
    · refine G_lsO (pc := 1) f_45_1 rfl (hx) ?_
      refine G_S (pc := 42) f_45_42 rfl rfl rfl ?_
      refine G_bi (v := nI 10) (pc := 43) f_45_43 (by decide) ?_
      refine G_jltZ (pc := 45) f_45_45 rfl (by first | exact nI_toInt (by omega) | exact zI_toInt (by omega) (by omega) | rfl) (by first | exact nI_toInt (by omega) | exact zI_toInt (by omega) (by omega) | rfl) (fun b1 => ?_) (fun b1 => ?_)
      · refine G_ic (v := zI (-1)) (pc := 65) f_45_65 (by decide) ?_
        refine G_ri (pc := 66) f_45_66 ?_
        unfold lvF
        first
          | (rw [if_neg (by omega), if_neg (by omega), if_neg (by omega)]; exact ⟨rfl, rfl⟩)
          | (rw [nI_toInt (by omega), Int.toNat_natCast, if_neg (by omega), if_neg (by omega), if_pos (by omega)]; exact ⟨rfl, rfl⟩)
      · refine G_S (pc := 48) f_45_48 rfl rfl rfl ?_
        refine G_bi (v := nI 34) (pc := 49) f_45_49 (by decide) ?_
        refine G_jgeZ (pc := 51) f_45_51 rfl (by first | exact nI_toInt (by omega) | exact zI_toInt (by omega) (by omega) | rfl) (by first | exact nI_toInt (by omega) | exact zI_toInt (by omega) (by omega) | rfl) (fun b2 => ?_) (fun b2 => ?_)
        · refine G_ic (v := zI (-1)) (pc := 65) f_45_65 (by decide) ?_
          refine G_ri (pc := 66) f_45_66 ?_
          unfold lvF
          first
            | (rw [if_neg (by omega), if_neg (by omega), if_neg (by omega)]; exact ⟨rfl, rfl⟩)
            | (rw [nI_toInt (by omega), Int.toNat_natCast, if_neg (by omega), if_neg (by omega), if_pos (by omega)]; exact ⟨rfl, rfl⟩)
        · obtain ⟨c, hc, rfl⟩ := i_nat (x := x) (n := 34) (by omega) (by omega)
          rw [nI_toInt (by omega)] at b1
          refine G_S (pc := 54) f_45_54 rfl rfl rfl ?_
          refine G_S (pc := 55) f_45_55 rfl rfl rfl ?_
          refine G_bi (v := nI 10) (pc := 56) f_45_56 (by decide) ?_
          first | refine G_subN (pc := 58) f_45_58 (by omega) ?_ | refine G_subZ (pc := 58) f_45_58 (by first | rfl | exact nI_zI _) (by first | rfl | exact nI_zI _) ?_ | refine G_S (pc := 58) f_45_58 rfl rfl rfl ?_
          refine G_CV (pc := 59) f_45_59 rfl rfl (by decide) rfl rfl (by first | assumption | exact hK.1 _ _ rfl) (by decide) ⟨Nat.le_of_ble_eq_true rfl, Nat.le_of_ble_eq_true rfl⟩ ?_
          refine CG.go (f_hourOf W hP (by omega)) ?_
          refine G_S (pc := 62) f_45_62 rfl rfl rfl ?_
          refine G_ri (pc := 66) f_45_66 ?_
          unfold lvF
          first
            | (rw [if_neg (by omega), if_neg (by omega), if_neg (by omega)]; exact ⟨rfl, rfl⟩)
            | (rw [nI_toInt (by omega), Int.toNat_natCast, if_neg (by omega), if_neg (by omega), if_pos (by omega)]; exact ⟨rfl, rfl⟩)
end CPL
