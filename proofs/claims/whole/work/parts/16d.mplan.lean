/-! when trams leave: the reference -/
theorem plS_cg {F T W T' W' : Nat → Nat} {a : Nat} (h : ∀ s, a < s → s ≤ 24 → T s = T' s ∧ W s = W' s) : ∀ m, a + m ≤ 24 → plS_ F T W a m = plS_ F T' W' a m
  | 0, _ => rfl
  | m + 1, hm => by
    obtain ⟨e1, e2⟩ := h (a + m + 1) (by omega) (by omega)
    rw [plS_, plS_, plS_cg h m (by omega), e1, e2]
theorem pT_st {F : Nat → Nat} {d s : Nat} (hs : s ≠ 23 - d) : (pT F (d + 1)).1 s = (pT F d).1 s ∧ (pT F (d + 1)).2.1 s = (pT F d).2.1 s ∧ (pT F (d + 1)).2.2 s = (pT F d).2.2 s := ⟨if_neg hs, if_neg hs, if_neg hs⟩
theorem pT_at {F : Nat → Nat} {d s : Nat} (h1 : 24 - d ≤ s) : ∀ n, d ≤ n → n ≤ 24 → (pT F n).1 s = (pT F d).1 s ∧ (pT F n).2.1 s = (pT F d).2.1 s ∧ (pT F n).2.2 s = (pT F d).2.2 s := by
  intro n hn
  induction hn with
  | refl => exact fun _ => ⟨rfl, rfl, rfl⟩
  | step hn ih =>
    rename_i n
    intro h24
    obtain ⟨a1, a2, a3⟩ := ih (by omega)
    obtain ⟨b1, b2, b3⟩ := pT_st (F := F) (d := n) (s := s) (by have : d ≤ n := hn; omega)
    exact ⟨b1.trans a1, b2.trans a2, b3.trans a3⟩
def fT (F : Nat → Nat) : Nat → Nat := (pT F 24).1
def fWt (F : Nat → Nat) : Nat → Nat := (pT F 24).2.1
def fP (F : Nat → Nat) : Nat → Option Nat := (pT F 24).2.2
theorem f_at {F : Nat → Nat} {a : Nat} (ha : a < 24) : fT F a = plT (plS_ F (fT F) (fWt F) a (24 - a)) ∧ fWt F a = plW (wtF F a (24 - a)) (plS_ F (fT F) (fWt F) a (24 - a)) ∧ fP F a = plH (plS_ F (fT F) (fWt F) a (24 - a)) := by
  obtain ⟨d, hd, rfl⟩ : ∃ d, d < 24 ∧ a = 23 - d := ⟨23 - a, by omega, by omega⟩
  obtain ⟨a1, a2, a3⟩ := pT_at (F := F) (d := d + 1) (s := 23 - d) (by omega) 24 (by omega) (by omega)
  have e : plS_ F (pT F d).1 (pT F d).2.1 (23 - d) (d + 1) = plS_ F (fT F) (fWt F) (23 - d) (24 - (23 - d)) := by
    rw [show 24 - (23 - d) = d + 1 by omega]
    refine plS_cg (fun s h1 h2 => ?_) (d + 1) (by omega)
    obtain ⟨b1, b2, _⟩ := pT_at (F := F) (d := d) (s := s) (by omega) 24 (by omega) (by omega)
    exact ⟨b1.symm, b2.symm⟩
  refine ⟨a1.trans ?_, a2.trans ?_, a3.trans ?_⟩
  · rw [← e]
    exact if_pos rfl
  · rw [← e, show 24 - (23 - d) = d + 1 by omega]
    exact if_pos rfl
  · rw [← e]
    exact if_pos rfl
theorem plS_f {F T W : Nat → Nat} {a : Nat} : ∀ m, (plS_ F T W a m = none ∧ ∀ i, i < m → ¬ F 0 ≤ sF F a (i + 1)) ∨ ∃ j, j < m ∧ plS_ F T W a m = some (1 + T (a + j + 1), wtF F a j + W (a + j + 1), a + j) ∧ F 0 ≤ sF F a (j + 1) ∧ ∀ i, i < m → F 0 ≤ sF F a (i + 1) → (1 + T (a + i + 1) < 1 + T (a + j + 1) ∨ (1 + T (a + i + 1) = 1 + T (a + j + 1) ∧ wtF F a j + W (a + j + 1) ≤ wtF F a i + W (a + i + 1))) ∧ (i < j → ¬ (1 + T (a + i + 1) = 1 + T (a + j + 1) ∧ wtF F a i + W (a + i + 1) = wtF F a j + W (a + j + 1)))
  | 0 => Or.inl ⟨rfl, fun i hi => absurd hi (by omega)⟩
  | m + 1 => by
    by_cases hn : F 0 ≤ sF F a (m + 1)
    · rcases plS_f (F := F) (T := T) (W := W) (a := a) m with ⟨e, h⟩ | ⟨j, hj, e, h1, h2⟩
      · refine Or.inr ⟨m, by omega, ?_, hn, fun i hi hs => ?_⟩
        · rw [plS_, if_pos hn, e]
        · by_cases q : i = m
          · subst q
            exact ⟨by omega, fun q => absurd q (by omega)⟩
          · exact absurd hs (h i (by omega))
      · by_cases hb : 1 + T (a + j + 1) < 1 + T (a + m + 1) ∨ (1 + T (a + m + 1) = 1 + T (a + j + 1) ∧ wtF F a m + W (a + m + 1) < wtF F a j + W (a + j + 1))
        · refine Or.inr ⟨m, by omega, ?_, hn, fun i hi hs => ?_⟩
          · rw [plS_, if_pos hn, e]
            exact if_pos hb
          · by_cases q : i = m
            · subst q
              exact ⟨by omega, fun q => absurd q (by omega)⟩
            · have := (h2 i (by omega) hs).1
              exact ⟨by omega, fun _ => by omega⟩
        · refine Or.inr ⟨j, by omega, ?_, h1, fun i hi hs => ?_⟩
          · rw [plS_, if_pos hn, e]
            exact if_neg hb
          · by_cases q : i = m
            · subst q
              exact ⟨by omega, fun q => absurd q (by omega)⟩
            · exact h2 i (by omega) hs
    · have e0 : plS_ F T W a (m + 1) = plS_ F T W a m := plS_n hn
      rcases plS_f (F := F) (T := T) (W := W) (a := a) m with ⟨e, h⟩ | ⟨j, hj, e, h1, h2⟩
      · refine Or.inl ⟨e0.trans e, fun i hi => ?_⟩
        by_cases q : i = m
        · subst q
          exact hn
        · exact h i (by omega)
      · refine Or.inr ⟨j, by omega, e0.trans e, h1, fun i hi hs => ?_⟩
        by_cases q : i = m
        · subst q
          exact absurd hs hn
        · exact h2 i (by omega) hs
/-- the first hour that a best plan leaves at -/
theorem f_first {F : Nat → Nat} {a : Nat} (ha : a ≤ 24) (hT : 0 < fT F a) : ∃ h, a ≤ h ∧ h < 24 ∧ fP F a = some h ∧ F 0 ≤ sF F a (h + 1 - a) ∧ fT F a = 1 + fT F (h + 1) ∧ fWt F a = wtF F a (h - a) + fWt F (h + 1) ∧ ∀ i, a ≤ i → i < h → F 0 ≤ sF F a (i + 1 - a) → ¬ (1 + fT F (i + 1) = fT F a ∧ wtF F a (i - a) + fWt F (i + 1) = fWt F a) := by
  have ha2 : a < 24 := by
    rcases Nat.lt_or_ge a 24 with q | q
    · exact q
    · have e : a = 24 := by omega
      subst e
      have : fT F 24 = 0 := (pT_at (F := F) (d := 0) (s := 24) (by omega) 24 (by omega) (by omega)).1
      omega
  obtain ⟨e1, e2, e3⟩ := f_at (F := F) ha2
  rcases plS_f (F := F) (T := fT F) (W := fWt F) (a := a) (24 - a) with ⟨e, h⟩ | ⟨j, hj, e, h1, h2⟩
  · rw [e1, e] at hT
    exact absurd hT (by decide)
  · rw [e] at e1 e2 e3
    have e1 : fT F a = 1 + fT F (a + j + 1) := e1
    have e2 : fWt F a = wtF F a j + fWt F (a + j + 1) := e2
    refine ⟨a + j, by omega, by omega, e3, ?_, e1, ?_, fun i hi1 hi2 hs => ?_⟩
    · rw [show a + j + 1 - a = j + 1 by omega]
      exact h1
    · rw [show a + j - a = j by omega]
      exact e2
    · obtain ⟨k, rfl⟩ : ∃ k, i = a + k := ⟨i - a, by omega⟩
      rw [show a + k + 1 - a = k + 1 by omega] at hs
      rw [show a + k - a = k by omega, e1, e2]
      exact (h2 k (by omega) hs).2 (by omega)
theorem f_none {F : Nat → Nat} {a : Nat} (ha : a ≤ 24) (hT : fT F a = 0) : fP F a = none := by
  rcases Nat.lt_or_ge a 24 with q | q
  · obtain ⟨e1, e2, e3⟩ := f_at (F := F) q
    rw [e3]
    cases hs : plS_ F (fT F) (fWt F) a (24 - a) with
    | none => rfl
    | some z =>
      rw [hs, hT] at e1
      have := plS_p _ z hs
      have e1 : 0 = z.1 := e1
      omega
  · have e : a = 24 := by omega
    subst e
    exact (pT_at (F := F) (d := 0) (s := 24) (by omega) 24 (by omega) (by omega)).2.2
theorem hr_some {F : Nat → Nat} : ∀ k, k < fT F 0 → ∃ h, hrF (fP F) k = some h ∧ h < 24 ∧ fT F (h + 1) + (k + 1) = fT F 0
  | 0, h0 => by
    obtain ⟨h, _, h2, h3, _, h5, _, _⟩ := f_first (F := F) (a := 0) (by omega) h0
    exact ⟨h, h3, h2, by omega⟩
  | k + 1, hk => by
    obtain ⟨h, i1, i2, i3⟩ := hr_some (F := F) k (by omega)
    obtain ⟨h', _, h2, h3, _, h5, _, _⟩ := f_first (F := F) (a := h + 1) (by omega) (by omega)
    refine ⟨h', ?_, h2, by omega⟩
    rw [hrF, i1]
    exact h3
theorem hr_none {F : Nat → Nat} {k : Nat} (h : fT F 0 ≤ k) : hrF (fP F) k = none := by
  have key : ∀ d, hrF (fP F) (fT F 0 + d) = none := by
    intro d
    induction d with
    | zero =>
      cases hT : fT F 0 with
      | zero => exact f_none (by omega) hT
      | succ t =>
        obtain ⟨h, i1, i2, i3⟩ := hr_some (F := F) t (by omega)
        show hrF (fP F) (t + 1) = none
        rw [hrF, i1]
        exact f_none (by omega) (by omega)
    | succ d ih =>
      show hrF (fP F) (fT F 0 + d + 1) = none
      rw [hrF, ih]
  have := key (k - fT F 0)
  rwa [show fT F 0 + (k - fT F 0) = k by omega] at this
theorem fT_le {F : Nat → Nat} (hF : FOK F) (a : Nat) : fT F a ≤ 24 := (pT_b hF 24 (by omega)).1 a
def lvM (F : Nat → Nat) (x : Int32) : Int32 := if x.toInt = 0 then nI (fT F 0) else if x.toInt = 1 then nI (fWt F 0) else if 10 ≤ x.toInt ∧ x.toInt ≤ 9 + (fT F 0 : Int) then oI (hrF (fP F) (x.toInt.toNat - 10)) else zI (-1)
theorem lv_eq {F : Nat → Nat} (hF : FOK F) (x : Int32) : lvM F x = lvF F x := by
  have h24 := fT_le hF 0
  unfold lvM lvF
  show (if x.toInt = 0 then nI (fT F 0) else if x.toInt = 1 then nI (fWt F 0) else _) = (if x.toInt = 0 then nI (fT F 0) else if x.toInt = 1 then nI (fWt F 0) else if 10 ≤ x.toInt ∧ x.toInt < 34 then oI (hrF (fP F) (x.toInt.toNat - 10)) else zI (-1))
  split
  · rfl
  · split
    · rfl
    · by_cases h1 : 10 ≤ x.toInt ∧ x.toInt ≤ 9 + (fT F 0 : Int)
      · rw [if_pos h1, if_pos (by omega)]
      · rw [if_neg h1]
        split
        · rw [hr_none (by omega)]
          rfl
        · rfl
/-- the reference's sum for what waits -/
def w2F (F : Nat → Nat) (a t : Nat) : Nat → Nat
  | 0 => 0
  | j + 1 => w2F F a t j + F (1 + (a + j)) * (t - j)
theorem w2F_s (F : Nat → Nat) (a t : Nat) : ∀ j, j ≤ t → w2F F a (t + 1) j = w2F F a t j + sF F a j
  | 0, _ => rfl
  | j + 1, h => by
    rw [w2F, w2F, sF, w2F_s F a t j (by omega), show t + 1 - j = (t - j) + 1 by omega, Nat.mul_add, Nat.mul_one]
    omega
theorem w2F_wt (F : Nat → Nat) (a : Nat) : ∀ m, w2F F a m m = wtF F a m
  | 0 => rfl
  | m + 1 => by
    rw [w2F, w2F_s F a m m (Nat.le_refl m), w2F_wt F a m, wtF, sF, show m + 1 - m = 1 by omega, Nat.mul_one]
    omega
theorem w2F_le {F : Nat → Nat} (hF : FOK F) {a t : Nat} (ht : t ≤ 24) : ∀ j, a + j ≤ 24 → w2F F a t j ≤ j * 2376
  | 0, _ => by simp [w2F]
  | j + 1, h => by
    have h1 := w2F_le hF (a := a) ht j (by omega)
    have h2 := hF.2 (a + j) (by omega)
    have h3 : F (1 + (a + j)) * (t - j) ≤ 99 * 24 := Nat.mul_le_mul h2 (by omega)
    rw [w2F, Nat.succ_mul]
    omega
section MPL
variable {C : Ct} {M : Mm} {n g : Nat} {L : Nat → Nat → Nat} {k x : Int32} {F : Nat → Nat}
theorem h_waitTill {a t : Nat} (W : mFl M g F) (h1 : a ≤ t) (h2 : t ≤ 24) : CG C 285 [.ref 98, .int (nI a), .int (nI t)] M (fun w M' => w = some (.int (nI (wtF F a (t - a)))) ∧ M' = M) := by
  have hK := W.1
  obtain ⟨v0, hg8, hFO, ao⟩ := W.2
  have hn1 := hFO.1
  have hc9 := hFO.2
  have loop : ∀ m, m ≤ t - a → G C 285 (5, [some (.ref 98), some (.int (nI a)), some (.int (nI t)), some (.int (nI ((w2F F a (t - a) m)))), some (.int (nI (a + m)))], [], [], M) (fun w M' => w = some (.int (nI (wtF F a (t - a)))) ∧ M' = M) := by
    refine upto (fun m hm ih => ?_)
    refine G_S (pc := 5) f_285_5 rfl rfl rfl ?_
    refine G_S (pc := 7) f_285_7 rfl rfl rfl ?_
    refine G_jgeZ (pc := 8) f_285_8 rfl (by first | exact nI_toInt (by omega) | exact zI_toInt (by omega) (by omega) | rfl) (by first | exact nI_toInt (by omega) | exact zI_toInt (by omega) (by omega) | rfl) (fun b1 => ?_) (fun b1 => ?_)
    · refine G_S (pc := 38) f_285_38 rfl rfl rfl ?_
      refine G_ri (pc := 39) f_285_39 ?_
      rw [show m = t - a by omega, w2F_wt]
      exact ⟨rfl, rfl⟩
    · refine G_S (pc := 11) f_285_11 rfl rfl rfl ?_
      refine G_bi (v := nI 24) (pc := 13) f_285_13 (by decide) ?_
      refine G_jgeZ (pc := 15) f_285_15 rfl (by first | exact nI_toInt (by omega) | exact zI_toInt (by omega) (by omega) | rfl) (by first | exact nI_toInt (by omega) | exact zI_toInt (by omega) (by omega) | rfl) (fun b2 => ?_) (fun b2 => ?_)
      · exfalso; omega
      · refine G_S (pc := 18) f_285_18 rfl rfl rfl ?_
        refine G_S (pc := 19) f_285_19 rfl rfl rfl ?_
        refine G_S (pc := 20) f_285_20 rfl rfl rfl ?_
        refine G_CV (pc := 22) f_285_22 rfl rfl (by decide) rfl rfl (by first | assumption | exact hK.1 _ _ rfl) (by decide) ⟨Nat.le_of_ble_eq_true rfl, Nat.le_of_ble_eq_true rfl⟩ ?_
        refine CG.go (h_come W (by omega)) ?_
        refine G_S (pc := 25) f_285_25 rfl rfl rfl ?_
        refine G_S (pc := 26) f_285_26 rfl rfl rfl ?_
        first | refine G_subN (pc := 28) f_285_28 (by omega) ?_ | refine G_subZ (pc := 28) f_285_28 (by first | rfl | exact nI_zI _) (by first | rfl | exact nI_zI _) ?_ | refine G_S (pc := 28) f_285_28 rfl rfl rfl ?_
        first | refine G_mulN (pc := 29) f_285_29 ?_ | refine G_mulZ (pc := 29) f_285_29 (by first | rfl | exact nI_zI _) (by first | rfl | exact nI_zI _) ?_ | refine G_S (pc := 29) f_285_29 rfl rfl rfl ?_
        first | refine G_addN (pc := 30) f_285_30 ?_ | refine G_addZ (pc := 30) f_285_30 (by first | rfl | exact nI_zI _) (by first | rfl | exact nI_zI _) ?_ | refine G_S (pc := 30) f_285_30 rfl rfl rfl ?_
        refine G_S (pc := 31) f_285_31 rfl rfl rfl ?_
        first | refine G_inc1 (pc := 32) f_285_32 rfl ?_ | refine G_S (pc := 32) f_285_32 rfl rfl rfl ?_
        refine G_S (pc := 35) f_285_35 rfl rfl rfl ?_
        have e := ih (by omega)
        rw [w2F, show t - a - m = t - (a + m) by omega] at e
        exact e
  refine CG_in (mL := 5) (hl := false) (lv := [some (.ref 98), some (.int (nI a)), some (.int (nI t)), none, none]) (ll := []) rfl rfl rfl ?_
  refine G_ic (v := nI 0) (pc := 0) f_285_0 (by decide) ?_
  refine G_S (pc := 1) f_285_1 rfl rfl rfl ?_
  refine G_S (pc := 2) f_285_2 rfl rfl rfl ?_
  refine G_S (pc := 3) f_285_3 rfl rfl rfl ?_
  exact loop 0 (Nat.zero_le _)
def PM_ (M : Mm) (F : Nat → Nat) (d : Nat) : Prop := ∀ s, 24 - d ≤ s → s ≤ 24 → M.2.1 119 s = nI ((pT F d).1 s) ∧ M.2.1 120 s = nI ((pT F d).2.1 s)
theorem h_findTrams (W : mFl M g F) : CG C 286 [.ref 98] M (fun w M' => w = none ∧ Fo [119, 120] M M' ∧ PM_ M' F 24) := by
  have inner : ∀ {Q} d, d < 24 → (∀ M1 a3 a4, mFl M1 g F → Fo [119, 120] M M1 → PM_ M1 F (d + 1) → G C 286 (128, [some (.ref 98), some (.int (nI (23 - d))), some (.int (nI 24)), a3, a4], [], [], M1) Q) → ∀ m, m ≤ d + 1 → ∀ M1 a3 a4, mFl M1 g F → Fo [119, 120] M M1 → PM_ M1 F d → M1.2.1 119 (23 - d) = nI (plT (plS_ F (pT F d).1 (pT F d).2.1 (23 - d) m)) → M1.2.1 120 (23 - d) = nI (plW (wtF F (23 - d) (d + 1)) (plS_ F (pT F d).1 (pT F d).2.1 (23 - d) m)) → G C 286 (29, [some (.ref 98), some (.int (nI (23 - d))), some (.int (nI (23 - d + m))), a3, a4], [], [], M1) Q := by
    intro Q d hd K
    obtain ⟨p1, p2, p3⟩ := pT_b W.2.2.2.1 d (by omega)
    have hbb := plS_b (F := F) (T := (pT F d).1) (W := (pT F d).2.1) (a := 23 - d) (B := d) (E := eB d) (fun s _ => p1 s) (fun s _ => p2 s) W.2.2.2.1
    refine upto (fun m hm ih M1 a3 a4 W1 hF hq e1 e2 => ?_)
    have hK := W1.1
    obtain ⟨v0, hg8, hFO, ao⟩ := W1.2
    have hn1 := hFO.1
    have hc9 := hFO.2
    have hs1 : m < d + 1 → sF F (23 - d) (m + 1) ≤ (m + 1) * 99 := fun q => sF_le hFO (m + 1) (by omega)
    have hw := wtF_c hFO (a := 23 - d) (m := m) (by omega)
    have hw2 := wtF_c hFO (a := 23 - d) (m := d + 1) (by omega)
    have heB := eB_le d (by omega)
    have hbm := hbb m (by omega)
    have hT1 := p1 (23 - d + m + 1)
    have hW1 := p2 (23 - d + m + 1)
    have hTn : m < d + 1 → M1.2.1 119 (23 - d + m + 1) = nI ((pT F d).1 (23 - d + m + 1)) := fun q => (hq _ (by omega) (by omega)).1
    have hWn : m < d + 1 → M1.2.1 120 (23 - d + m + 1) = nI ((pT F d).2.1 (23 - d + m + 1)) := fun q => (hq _ (by omega) (by omega)).2
    have hTb : plT (plS_ F (pT F d).1 (pT F d).2.1 (23 - d) m) < 100 := by
      cases hs : plS_ F (pT F d).1 (pT F d).2.1 (23 - d) m with
      | none => decide
      | some q => have := (hbm q hs).1; show q.1 < _; omega
    have hWb : plW (wtF F (23 - d) (d + 1)) (plS_ F (pT F d).1 (pT F d).2.1 (23 - d) m) < 2000000 := by
      cases hs : plS_ F (pT F d).1 (pT F d).2.1 (23 - d) m with
      | none => show wtF F (23 - d) (d + 1) < _; omega
      | some q => have := (hbm q hs).2.1; show q.2.1 < _; omega
    have hz : plT (plS_ F (pT F d).1 (pT F d).2.1 (23 - d) m) = 0 ∨ plW (wtF F (23 - d) (d + 1)) (plS_ F (pT F d).1 (pT F d).2.1 (23 - d) m) = plW 0 (plS_ F (pT F d).1 (pT F d).2.1 (23 - d) m) := by
      cases plS_ F (pT F d).1 (pT F d).2.1 (23 - d) m with
      | none => exact Or.inl rfl
      | some q => exact Or.inr rfl
    have em : 23 - d + m + 1 - (23 - d) = m + 1 := by omega
    have em2 : 23 - d + m - (23 - d) = m := by omega
    refine G_S (pc := 29) f_286_29 rfl rfl rfl ?_
    refine G_bi (v := nI 24) (pc := 30) f_286_30 (by decide) ?_
    refine G_jgeZ (pc := 32) f_286_32 rfl (by first | exact nI_toInt (by omega) | exact zI_toInt (by omega) (by omega) | rfl) (by first | exact nI_toInt (by omega) | exact zI_toInt (by omega) (by omega) | rfl) (fun b2 => ?_) (fun b2 => ?_)
    · have e5 : m = d + 1 := by omega
      subst e5
      rw [show 23 - d + (d + 1) = 24 by omega]
      refine K M1 a3 a4 W1 hF (fun s h1 h2 => ?_)
      show _ = nI (if s = 23 - d then _ else _) ∧ _ = nI (if s = 23 - d then _ else _)
      by_cases q : s = 23 - d
      · subst q
        rw [if_pos rfl, if_pos rfl]
        exact ⟨e1, e2⟩
      · rw [if_neg q, if_neg q]
        exact hq s (by omega) h2
    · have hs1 := hs1 (by omega)
      have hTn := hTn (by omega)
      have hWn := hWn (by omega)
      refine G_S (pc := 35) f_286_35 rfl rfl rfl ?_
      refine G_S (pc := 36) f_286_36 rfl rfl rfl ?_
      refine G_S (pc := 37) f_286_37 rfl rfl rfl ?_
      refine G_CV (pc := 38) f_286_38 rfl rfl (by decide) rfl rfl (by first | assumption | exact hK.1 _ _ rfl) (by decide) ⟨Nat.le_of_ble_eq_true rfl, Nat.le_of_ble_eq_true rfl⟩ ?_
      refine CG.go (h_between W1 (by omega) (by omega)) ?_
      refine G_S (pc := 41) f_286_41 rfl rfl rfl ?_
      refine G_CV (pc := 42) f_286_42 rfl rfl (by decide) rfl rfl (by first | assumption | exact hK.1 _ _ rfl) (by decide) ⟨Nat.le_of_ble_eq_true rfl, Nat.le_of_ble_eq_true rfl⟩ ?_
      refine CG.go (h_need W1) ?_
      rw [em]
      refine G_jltZ (pc := 45) f_286_45 rfl (by first | exact nI_toInt (by omega) | exact zI_toInt (by omega) (by omega) | rfl) (by first | exact nI_toInt (by omega) | exact zI_toInt (by omega) (by omega) | rfl) (fun b3 => ?_) (fun b3 => ?_)
      · first | refine G_inc1 (pc := 122) f_286_122 rfl ?_ | refine G_S (pc := 122) f_286_122 rfl rfl rfl ?_
        refine G_S (pc := 125) f_286_125 rfl rfl rfl ?_
        have i2 := ih (by omega)
        first
          | exact i2 M1 _ _ W1 hF hq (by rw [plS_n (by omega)]; exact e1) (by rw [plS_n (by omega)]; exact e2)
          | exact i2 M1 _ _ W1 hF hq (by rw [plS_k (by omega)]; exact e1) (by rw [plS_k (by omega)]; exact e2)
          | (have hF3 : Fo [119, 120] M1 _ := (Fo.up (i := 119) (k := 23 - d) (x := nI (1 + (pT F d).1 (23 - d + m + 1))) (by decide)).tr (Fo.up (i := 120) (k := 23 - d) (x := nI (wtF F (23 - d) m + (pT F d).2.1 (23 - d + m + 1))) (by decide))
             refine i2 _ _ _ (W1.fo hF3 (by decide) (by decide)) (hF.tr hF3) (fun s h1 h2 => ?_) ?_ ?_
             · obtain ⟨k1, k2⟩ := hq s h1 h2
               exact ⟨(by (try dsimp only); exact up2_o (by omega) (by (try dsimp only); exact up2_o (by omega) k1)), (by (try dsimp only); exact up2_o (by omega) (by (try dsimp only); exact up2_o (by omega) k2))⟩
             · rw [plS_c (by omega) (by omega)]
               exact (by (try dsimp only); exact up2_o (by omega) (by (try dsimp only); exact up2_s))
             · rw [plS_c (by omega) (by omega)]
               exact (by (try dsimp only); exact up2_s))
      · refine G_ic (v := nI 1) (pc := 48) f_286_48 (by decide) ?_
        refine G_S (pc := 49) f_286_49 rfl rfl rfl ?_
        refine G_gR (pc := 50) f_286_50 (by decide) rfl (by first | assumption | exact hK.1 _ _ rfl) (by first | assumption | exact hK.2 _ _ _ rfl | (try dsimp only) <;> (repeat (first | exact up2_s | refine up2_o (by first | decide | omega) ?_)) <;> first | assumption | exact hK.2 _ _ _ rfl) ?_
        refine G_S (pc := 53) f_286_53 rfl rfl rfl ?_
        refine G_ic (v := nI 1) (pc := 54) f_286_54 (by decide) ?_
        first | refine G_addN (pc := 55) f_286_55 ?_ | refine G_addZ (pc := 55) f_286_55 (by first | rfl | exact nI_zI _) (by first | rfl | exact nI_zI _) ?_ | refine G_S (pc := 55) f_286_55 rfl rfl rfl ?_
        refine G_iaN (pc := 56) f_286_56 (by first | assumption | exact hK.1 _ _ rfl) (by omega) (by omega) (by first | assumption | exact q1 _ (by omega) | exact q2 _ (by omega) | exact q3 _ (by omega) | exact q4 _ (by omega) | exact q5 _ (by omega) | exact vh _ (by omega) | exact (vr _ (by omega)).1 | exact (vr _ (by omega)).2 | exact vw _ (by omega) | exact vf _ (by omega) (by omega) | exact mI_s | ((refine mI_o (by first | decide | omega) ?_); (repeat (refine mI_o (by first | decide | omega) ?_)); first | exact mI_s | assumption | exact q1 _ (by omega) | exact q2 _ (by omega) | exact q3 _ (by omega) | exact q4 _ (by omega) | exact q5 _ (by omega) | exact vh _ (by omega) | exact (vr _ (by omega)).1 | exact (vr _ (by omega)).2 | exact vw _ (by omega) | exact vf _ (by omega) (by omega)) | rfl) ?_
        first | refine G_addN (pc := 57) f_286_57 ?_ | refine G_addZ (pc := 57) f_286_57 (by first | rfl | exact nI_zI _) (by first | rfl | exact nI_zI _) ?_ | refine G_S (pc := 57) f_286_57 rfl rfl rfl ?_
        refine G_S (pc := 58) f_286_58 rfl rfl rfl ?_
        refine G_S (pc := 59) f_286_59 rfl rfl rfl ?_
        refine G_S (pc := 60) f_286_60 rfl rfl rfl ?_
        refine G_S (pc := 61) f_286_61 rfl rfl rfl ?_
        refine G_CV (pc := 62) f_286_62 rfl rfl (by decide) rfl rfl (by first | assumption | exact hK.1 _ _ rfl) (by decide) ⟨Nat.le_of_ble_eq_true rfl, Nat.le_of_ble_eq_true rfl⟩ ?_
        refine CG.go (h_waitTill W1 (by omega) (by omega)) ?_
        rw [em2]
        refine G_S (pc := 65) f_286_65 rfl rfl rfl ?_
        refine G_gR (pc := 66) f_286_66 (by decide) rfl (by first | assumption | exact hK.1 _ _ rfl) (by first | assumption | exact hK.2 _ _ _ rfl | (try dsimp only) <;> (repeat (first | exact up2_s | refine up2_o (by first | decide | omega) ?_)) <;> first | assumption | exact hK.2 _ _ _ rfl) ?_
        refine G_S (pc := 69) f_286_69 rfl rfl rfl ?_
        refine G_ic (v := nI 1) (pc := 70) f_286_70 (by decide) ?_
        first | refine G_addN (pc := 71) f_286_71 ?_ | refine G_addZ (pc := 71) f_286_71 (by first | rfl | exact nI_zI _) (by first | rfl | exact nI_zI _) ?_ | refine G_S (pc := 71) f_286_71 rfl rfl rfl ?_
        refine G_iaN (pc := 72) f_286_72 (by first | assumption | exact hK.1 _ _ rfl) (by omega) (by omega) (by first | assumption | exact q1 _ (by omega) | exact q2 _ (by omega) | exact q3 _ (by omega) | exact q4 _ (by omega) | exact q5 _ (by omega) | exact vh _ (by omega) | exact (vr _ (by omega)).1 | exact (vr _ (by omega)).2 | exact vw _ (by omega) | exact vf _ (by omega) (by omega) | exact mI_s | ((refine mI_o (by first | decide | omega) ?_); (repeat (refine mI_o (by first | decide | omega) ?_)); first | exact mI_s | assumption | exact q1 _ (by omega) | exact q2 _ (by omega) | exact q3 _ (by omega) | exact q4 _ (by omega) | exact q5 _ (by omega) | exact vh _ (by omega) | exact (vr _ (by omega)).1 | exact (vr _ (by omega)).2 | exact vw _ (by omega) | exact vf _ (by omega) (by omega)) | rfl) ?_
        first | refine G_addN (pc := 73) f_286_73 ?_ | refine G_addZ (pc := 73) f_286_73 (by first | rfl | exact nI_zI _) (by first | rfl | exact nI_zI _) ?_ | refine G_S (pc := 73) f_286_73 rfl rfl rfl ?_
        refine G_S (pc := 74) f_286_74 rfl rfl rfl ?_
        refine G_S (pc := 76) f_286_76 rfl rfl rfl ?_
        refine G_S (pc := 77) f_286_77 rfl rfl rfl ?_
        refine G_gR (pc := 78) f_286_78 (by decide) rfl (by first | assumption | exact hK.1 _ _ rfl) (by first | assumption | exact hK.2 _ _ _ rfl | (try dsimp only) <;> (repeat (first | exact up2_s | refine up2_o (by first | decide | omega) ?_)) <;> first | assumption | exact hK.2 _ _ _ rfl) ?_
        refine G_S (pc := 81) f_286_81 rfl rfl rfl ?_
        refine G_iaN (pc := 82) f_286_82 (by first | assumption | exact hK.1 _ _ rfl) (by omega) (by omega) (by first | assumption | exact q1 _ (by omega) | exact q2 _ (by omega) | exact q3 _ (by omega) | exact q4 _ (by omega) | exact q5 _ (by omega) | exact vh _ (by omega) | exact (vr _ (by omega)).1 | exact (vr _ (by omega)).2 | exact vw _ (by omega) | exact vf _ (by omega) (by omega) | exact mI_s | ((refine mI_o (by first | decide | omega) ?_); (repeat (refine mI_o (by first | decide | omega) ?_)); first | exact mI_s | assumption | exact q1 _ (by omega) | exact q2 _ (by omega) | exact q3 _ (by omega) | exact q4 _ (by omega) | exact q5 _ (by omega) | exact vh _ (by omega) | exact (vr _ (by omega)).1 | exact (vr _ (by omega)).2 | exact vw _ (by omega) | exact vf _ (by omega) (by omega)) | rfl) ?_
        refine G_jgtZ (pc := 83) f_286_83 rfl (by first | exact nI_toInt (by omega) | exact zI_toInt (by omega) (by omega) | rfl) (by first | exact nI_toInt (by omega) | exact zI_toInt (by omega) (by omega) | rfl) (fun b4 => ?_) (fun b4 => ?_)
        · refine G_S (pc := 107) f_286_107 rfl rfl rfl ?_
          refine G_gR (pc := 108) f_286_108 (by decide) rfl (by first | assumption | exact hK.1 _ _ rfl) (by first | assumption | exact hK.2 _ _ _ rfl | (try dsimp only) <;> (repeat (first | exact up2_s | refine up2_o (by first | decide | omega) ?_)) <;> first | assumption | exact hK.2 _ _ _ rfl) ?_
          refine G_S (pc := 111) f_286_111 rfl rfl rfl ?_
          refine G_S (pc := 112) f_286_112 rfl rfl rfl ?_
          refine G_isN (pc := 113) f_286_113 (by first | assumption | exact hK.1 _ _ rfl) (by omega) (by omega) ?_
          refine G_S (pc := 114) f_286_114 rfl rfl rfl ?_
          refine G_gR (pc := 115) f_286_115 (by decide) rfl (by first | assumption | exact hK.1 _ _ rfl) (by first | assumption | exact hK.2 _ _ _ rfl | (try dsimp only) <;> (repeat (first | exact up2_s | refine up2_o (by first | decide | omega) ?_)) <;> first | assumption | exact hK.2 _ _ _ rfl) ?_
          refine G_S (pc := 118) f_286_118 rfl rfl rfl ?_
          refine G_S (pc := 119) f_286_119 rfl rfl rfl ?_
          refine G_isN (pc := 121) f_286_121 (by first | assumption | exact hK.1 _ _ rfl) (by omega) (by omega) ?_
          first | refine G_inc1 (pc := 122) f_286_122 rfl ?_ | refine G_S (pc := 122) f_286_122 rfl rfl rfl ?_
          refine G_S (pc := 125) f_286_125 rfl rfl rfl ?_
          have i2 := ih (by omega)
          first
            | exact i2 M1 _ _ W1 hF hq (by rw [plS_n (by omega)]; exact e1) (by rw [plS_n (by omega)]; exact e2)
            | exact i2 M1 _ _ W1 hF hq (by rw [plS_k (by omega)]; exact e1) (by rw [plS_k (by omega)]; exact e2)
            | (have hF3 : Fo [119, 120] M1 _ := (Fo.up (i := 119) (k := 23 - d) (x := nI (1 + (pT F d).1 (23 - d + m + 1))) (by decide)).tr (Fo.up (i := 120) (k := 23 - d) (x := nI (wtF F (23 - d) m + (pT F d).2.1 (23 - d + m + 1))) (by decide))
               refine i2 _ _ _ (W1.fo hF3 (by decide) (by decide)) (hF.tr hF3) (fun s h1 h2 => ?_) ?_ ?_
               · obtain ⟨k1, k2⟩ := hq s h1 h2
                 exact ⟨(by (try dsimp only); exact up2_o (by omega) (by (try dsimp only); exact up2_o (by omega) k1)), (by (try dsimp only); exact up2_o (by omega) (by (try dsimp only); exact up2_o (by omega) k2))⟩
               · rw [plS_c (by omega) (by omega)]
                 exact (by (try dsimp only); exact up2_o (by omega) (by (try dsimp only); exact up2_s))
               · rw [plS_c (by omega) (by omega)]
                 exact (by (try dsimp only); exact up2_s))
        · refine G_S (pc := 86) f_286_86 rfl rfl rfl ?_
          refine G_S (pc := 87) f_286_87 rfl rfl rfl ?_
          refine G_gR (pc := 88) f_286_88 (by decide) rfl (by first | assumption | exact hK.1 _ _ rfl) (by first | assumption | exact hK.2 _ _ _ rfl | (try dsimp only) <;> (repeat (first | exact up2_s | refine up2_o (by first | decide | omega) ?_)) <;> first | assumption | exact hK.2 _ _ _ rfl) ?_
          refine G_S (pc := 91) f_286_91 rfl rfl rfl ?_
          refine G_iaN (pc := 92) f_286_92 (by first | assumption | exact hK.1 _ _ rfl) (by omega) (by omega) (by first | assumption | exact q1 _ (by omega) | exact q2 _ (by omega) | exact q3 _ (by omega) | exact q4 _ (by omega) | exact q5 _ (by omega) | exact vh _ (by omega) | exact (vr _ (by omega)).1 | exact (vr _ (by omega)).2 | exact vw _ (by omega) | exact vf _ (by omega) (by omega) | exact mI_s | ((refine mI_o (by first | decide | omega) ?_); (repeat (refine mI_o (by first | decide | omega) ?_)); first | exact mI_s | assumption | exact q1 _ (by omega) | exact q2 _ (by omega) | exact q3 _ (by omega) | exact q4 _ (by omega) | exact q5 _ (by omega) | exact vh _ (by omega) | exact (vr _ (by omega)).1 | exact (vr _ (by omega)).2 | exact vw _ (by omega) | exact vf _ (by omega) (by omega)) | rfl) ?_
          refine G_jneZ (pc := 93) f_286_93 rfl (by first | exact nI_toInt (by omega) | exact zI_toInt (by omega) (by omega) | rfl) (by first | exact nI_toInt (by omega) | exact zI_toInt (by omega) (by omega) | rfl) (fun b5 => ?_) (fun b5 => ?_)
          · first | refine G_inc1 (pc := 122) f_286_122 rfl ?_ | refine G_S (pc := 122) f_286_122 rfl rfl rfl ?_
            refine G_S (pc := 125) f_286_125 rfl rfl rfl ?_
            have i2 := ih (by omega)
            first
              | exact i2 M1 _ _ W1 hF hq (by rw [plS_n (by omega)]; exact e1) (by rw [plS_n (by omega)]; exact e2)
              | exact i2 M1 _ _ W1 hF hq (by rw [plS_k (by omega)]; exact e1) (by rw [plS_k (by omega)]; exact e2)
              | (have hF3 : Fo [119, 120] M1 _ := (Fo.up (i := 119) (k := 23 - d) (x := nI (1 + (pT F d).1 (23 - d + m + 1))) (by decide)).tr (Fo.up (i := 120) (k := 23 - d) (x := nI (wtF F (23 - d) m + (pT F d).2.1 (23 - d + m + 1))) (by decide))
                 refine i2 _ _ _ (W1.fo hF3 (by decide) (by decide)) (hF.tr hF3) (fun s h1 h2 => ?_) ?_ ?_
                 · obtain ⟨k1, k2⟩ := hq s h1 h2
                   exact ⟨(by (try dsimp only); exact up2_o (by omega) (by (try dsimp only); exact up2_o (by omega) k1)), (by (try dsimp only); exact up2_o (by omega) (by (try dsimp only); exact up2_o (by omega) k2))⟩
                 · rw [plS_c (by omega) (by omega)]
                   exact (by (try dsimp only); exact up2_o (by omega) (by (try dsimp only); exact up2_s))
                 · rw [plS_c (by omega) (by omega)]
                   exact (by (try dsimp only); exact up2_s))
          · refine G_S (pc := 96) f_286_96 rfl rfl rfl ?_
            refine G_S (pc := 98) f_286_98 rfl rfl rfl ?_
            refine G_gR (pc := 99) f_286_99 (by decide) rfl (by first | assumption | exact hK.1 _ _ rfl) (by first | assumption | exact hK.2 _ _ _ rfl | (try dsimp only) <;> (repeat (first | exact up2_s | refine up2_o (by first | decide | omega) ?_)) <;> first | assumption | exact hK.2 _ _ _ rfl) ?_
            refine G_S (pc := 102) f_286_102 rfl rfl rfl ?_
            refine G_iaN (pc := 103) f_286_103 (by first | assumption | exact hK.1 _ _ rfl) (by omega) (by omega) (by first | assumption | exact q1 _ (by omega) | exact q2 _ (by omega) | exact q3 _ (by omega) | exact q4 _ (by omega) | exact q5 _ (by omega) | exact vh _ (by omega) | exact (vr _ (by omega)).1 | exact (vr _ (by omega)).2 | exact vw _ (by omega) | exact vf _ (by omega) (by omega) | exact mI_s | ((refine mI_o (by first | decide | omega) ?_); (repeat (refine mI_o (by first | decide | omega) ?_)); first | exact mI_s | assumption | exact q1 _ (by omega) | exact q2 _ (by omega) | exact q3 _ (by omega) | exact q4 _ (by omega) | exact q5 _ (by omega) | exact vh _ (by omega) | exact (vr _ (by omega)).1 | exact (vr _ (by omega)).2 | exact vw _ (by omega) | exact vf _ (by omega) (by omega)) | rfl) ?_
            refine G_jgeZ (pc := 104) f_286_104 rfl (by first | exact nI_toInt (by omega) | exact zI_toInt (by omega) (by omega) | rfl) (by first | exact nI_toInt (by omega) | exact zI_toInt (by omega) (by omega) | rfl) (fun b6 => ?_) (fun b6 => ?_)
            · first | refine G_inc1 (pc := 122) f_286_122 rfl ?_ | refine G_S (pc := 122) f_286_122 rfl rfl rfl ?_
              refine G_S (pc := 125) f_286_125 rfl rfl rfl ?_
              have i2 := ih (by omega)
              first
                | exact i2 M1 _ _ W1 hF hq (by rw [plS_n (by omega)]; exact e1) (by rw [plS_n (by omega)]; exact e2)
                | exact i2 M1 _ _ W1 hF hq (by rw [plS_k (by omega)]; exact e1) (by rw [plS_k (by omega)]; exact e2)
                | (have hF3 : Fo [119, 120] M1 _ := (Fo.up (i := 119) (k := 23 - d) (x := nI (1 + (pT F d).1 (23 - d + m + 1))) (by decide)).tr (Fo.up (i := 120) (k := 23 - d) (x := nI (wtF F (23 - d) m + (pT F d).2.1 (23 - d + m + 1))) (by decide))
                   refine i2 _ _ _ (W1.fo hF3 (by decide) (by decide)) (hF.tr hF3) (fun s h1 h2 => ?_) ?_ ?_
                   · obtain ⟨k1, k2⟩ := hq s h1 h2
                     exact ⟨(by (try dsimp only); exact up2_o (by omega) (by (try dsimp only); exact up2_o (by omega) k1)), (by (try dsimp only); exact up2_o (by omega) (by (try dsimp only); exact up2_o (by omega) k2))⟩
                   · rw [plS_c (by omega) (by omega)]
                     exact (by (try dsimp only); exact up2_o (by omega) (by (try dsimp only); exact up2_s))
                   · rw [plS_c (by omega) (by omega)]
                     exact (by (try dsimp only); exact up2_s))
            · refine G_S (pc := 107) f_286_107 rfl rfl rfl ?_
              refine G_gR (pc := 108) f_286_108 (by decide) rfl (by first | assumption | exact hK.1 _ _ rfl) (by first | assumption | exact hK.2 _ _ _ rfl | (try dsimp only) <;> (repeat (first | exact up2_s | refine up2_o (by first | decide | omega) ?_)) <;> first | assumption | exact hK.2 _ _ _ rfl) ?_
              refine G_S (pc := 111) f_286_111 rfl rfl rfl ?_
              refine G_S (pc := 112) f_286_112 rfl rfl rfl ?_
              refine G_isN (pc := 113) f_286_113 (by first | assumption | exact hK.1 _ _ rfl) (by omega) (by omega) ?_
              refine G_S (pc := 114) f_286_114 rfl rfl rfl ?_
              refine G_gR (pc := 115) f_286_115 (by decide) rfl (by first | assumption | exact hK.1 _ _ rfl) (by first | assumption | exact hK.2 _ _ _ rfl | (try dsimp only) <;> (repeat (first | exact up2_s | refine up2_o (by first | decide | omega) ?_)) <;> first | assumption | exact hK.2 _ _ _ rfl) ?_
              refine G_S (pc := 118) f_286_118 rfl rfl rfl ?_
              refine G_S (pc := 119) f_286_119 rfl rfl rfl ?_
              refine G_isN (pc := 121) f_286_121 (by first | assumption | exact hK.1 _ _ rfl) (by omega) (by omega) ?_
              first | refine G_inc1 (pc := 122) f_286_122 rfl ?_ | refine G_S (pc := 122) f_286_122 rfl rfl rfl ?_
              refine G_S (pc := 125) f_286_125 rfl rfl rfl ?_
              have i2 := ih (by omega)
              first
                | exact i2 M1 _ _ W1 hF hq (by rw [plS_n (by omega)]; exact e1) (by rw [plS_n (by omega)]; exact e2)
                | exact i2 M1 _ _ W1 hF hq (by rw [plS_k (by omega)]; exact e1) (by rw [plS_k (by omega)]; exact e2)
                | (have hF3 : Fo [119, 120] M1 _ := (Fo.up (i := 119) (k := 23 - d) (x := nI (1 + (pT F d).1 (23 - d + m + 1))) (by decide)).tr (Fo.up (i := 120) (k := 23 - d) (x := nI (wtF F (23 - d) m + (pT F d).2.1 (23 - d + m + 1))) (by decide))
                   refine i2 _ _ _ (W1.fo hF3 (by decide) (by decide)) (hF.tr hF3) (fun s h1 h2 => ?_) ?_ ?_
                   · obtain ⟨k1, k2⟩ := hq s h1 h2
                     exact ⟨(by (try dsimp only); exact up2_o (by omega) (by (try dsimp only); exact up2_o (by omega) k1)), (by (try dsimp only); exact up2_o (by omega) (by (try dsimp only); exact up2_o (by omega) k2))⟩
                   · rw [plS_c (by omega) (by omega)]
                     exact (by (try dsimp only); exact up2_o (by omega) (by (try dsimp only); exact up2_s))
                   · rw [plS_c (by omega) (by omega)]
                     exact (by (try dsimp only); exact up2_s))
  have loop : ∀ d : Nat, d ≤ 24 → ∀ M1 x a2 a3 a4, x = zI (23 - (d : Int)) → mFl M1 g F → Fo [119, 120] M M1 → PM_ M1 F d → G C 286 (3, [some (.ref 98), some (.int x), a2, a3, a4], [], [], M1) (fun w M' => w = none ∧ Fo [119, 120] M M' ∧ PM_ M' F 24) := by
    refine upto (fun d hd ih M1 x a2 a3 a4 hx W1 hF hP => ?_)
    have hK := W1.1
    obtain ⟨v0, hg8, hFO, ao⟩ := W1.2
    have hn1 := hFO.1
    have hc9 := hFO.2
    have hxi : x.toInt = 23 - (d : Int) := by
      rw [hx]
      exact zI_toInt (by omega) (by omega)
    by_cases h24 : d = 24
    · subst h24
      refine G_S (pc := 3) f_286_3 rfl rfl rfl ?_
      refine G_zltZ (pc := 4) f_286_4 rfl (by first | exact nI_toInt (by omega) | exact zI_toInt (by omega) (by omega) | rfl) (fun b1 => ?_) (fun b1 => ?_)
      · refine G_rv (pc := 134) f_286_134 ?_
        exact ⟨rfl, hF, hP⟩
      · exfalso; omega
    · have hx2 : x = nI (23 - d) := by
        rw [hx, nI_zI]
        congr 1
        omega
      subst hx2
      refine G_S (pc := 3) f_286_3 rfl rfl rfl ?_
      refine G_zltZ (pc := 4) f_286_4 rfl (by first | exact nI_toInt (by omega) | exact zI_toInt (by omega) (by omega) | rfl) (fun b1 => ?_) (fun b1 => ?_)
      · exfalso; omega
      · refine G_S (pc := 7) f_286_7 rfl rfl rfl ?_
        refine G_gR (pc := 8) f_286_8 (by decide) rfl (by first | assumption | exact hK.1 _ _ rfl) (by first | assumption | exact hK.2 _ _ _ rfl | (try dsimp only) <;> (repeat (first | exact up2_s | refine up2_o (by first | decide | omega) ?_)) <;> first | assumption | exact hK.2 _ _ _ rfl) ?_
        refine G_S (pc := 11) f_286_11 rfl rfl rfl ?_
        refine G_ic (v := nI 0) (pc := 12) f_286_12 (by decide) ?_
        refine G_isN (pc := 13) f_286_13 (by first | assumption | exact hK.1 _ _ rfl) (by omega) (by omega) ?_
        refine G_S (pc := 14) f_286_14 rfl rfl rfl ?_
        refine G_gR (pc := 15) f_286_15 (by decide) rfl (by first | assumption | exact hK.1 _ _ rfl) (by first | assumption | exact hK.2 _ _ _ rfl | (try dsimp only) <;> (repeat (first | exact up2_s | refine up2_o (by first | decide | omega) ?_)) <;> first | assumption | exact hK.2 _ _ _ rfl) ?_
        refine G_S (pc := 18) f_286_18 rfl rfl rfl ?_
        refine G_S (pc := 19) f_286_19 rfl rfl rfl ?_
        refine G_S (pc := 20) f_286_20 rfl rfl rfl ?_
        refine G_bi (v := nI 24) (pc := 21) f_286_21 (by decide) ?_
        refine G_CV (pc := 23) f_286_23 rfl rfl (by decide) rfl rfl (by first | assumption | exact hK.1 _ _ rfl) (by decide) ⟨Nat.le_of_ble_eq_true rfl, Nat.le_of_ble_eq_true rfl⟩ ?_
        refine CG.go (h_waitTill (W1.fo (Fo.up (os := [119]) (i := 119) (k := 23 - d) (x := nI 0) (by decide)) (by decide) (by decide)) (by omega) (by omega)) ?_
        rw [show 24 - (23 - d) = d + 1 by omega]
        refine G_isN (pc := 26) f_286_26 (by first | assumption | exact hK.1 _ _ rfl) (by omega) (by omega) ?_
        refine G_S (pc := 27) f_286_27 rfl rfl rfl ?_
        refine G_S (pc := 28) f_286_28 rfl rfl rfl ?_
        have hF3 : Fo [119, 120] M1 _ := (Fo.up (i := 119) (k := 23 - d) (x := nI 0) (by decide)).tr (Fo.up (i := 120) (k := 23 - d) (x := nI (wtF F (23 - d) (d + 1))) (by decide))
        refine inner d (by omega) ?_ 0 (Nat.zero_le _) _ _ _ (W1.fo hF3 (by decide) (by decide)) (hF.tr hF3) (fun s h1 h2 => ?_) (by (try dsimp only); exact up2_o (by omega) (by (try dsimp only); exact up2_s)) (by (try dsimp only); exact up2_s)
        · intro M2 a3 a4 W2 hF2 hP2
          have hK := W2.1
          first | refine G_dec1 (pc := 128) f_286_128 rfl (by omega) ?_ | refine G_incZ (pc := 128) f_286_128 rfl (by first | rfl | exact nI_zI _) ?_
          refine G_S (pc := 131) f_286_131 rfl rfl rfl ?_
          refine ih (by omega) M2 _ _ _ _ ?_ W2 hF2 hP2
          first
            | (rw [nI_zI, show (Int32.ofInt (-1)) = zI (-1) from rfl, zI_add]
               congr 1
               omega)
            | (rw [nI_zI]
               congr 1
               omega)
            | (congr 1
               omega)
        · obtain ⟨k1, k2⟩ := hP s h1 h2
          exact ⟨(by (try dsimp only); exact up2_o (by omega) (by (try dsimp only); exact up2_o (by omega) k1)), (by (try dsimp only); exact up2_o (by omega) (by (try dsimp only); exact up2_o (by omega) k2))⟩
  have hK := W.1
  obtain ⟨v0, hg8, hFO, ao⟩ := W.2
  have hn1 := hFO.1
  have hc9 := hFO.2
  refine CG_in (mL := 5) (hl := false) (lv := [some (.ref 98), none, none, none, none]) (ll := []) rfl rfl rfl ?_
  refine G_bi (v := nI 24) (pc := 0) f_286_0 (by decide) ?_
  refine G_S (pc := 2) f_286_2 rfl rfl rfl ?_
  have e24 : wtF F 24 (24 - 24) = 0 := rfl
  refine G_S (pc := 3) f_286_3 rfl rfl rfl ?_
  refine G_zltZ (pc := 4) f_286_4 rfl (by first | exact nI_toInt (by omega) | exact zI_toInt (by omega) (by omega) | rfl) (fun b1 => ?_) (fun b1 => ?_)
  · exfalso; omega
  · refine G_S (pc := 7) f_286_7 rfl rfl rfl ?_
    refine G_gR (pc := 8) f_286_8 (by decide) rfl (by first | assumption | exact hK.1 _ _ rfl) (by first | assumption | exact hK.2 _ _ _ rfl | (try dsimp only) <;> (repeat (first | exact up2_s | refine up2_o (by first | decide | omega) ?_)) <;> first | assumption | exact hK.2 _ _ _ rfl) ?_
    refine G_S (pc := 11) f_286_11 rfl rfl rfl ?_
    refine G_ic (v := nI 0) (pc := 12) f_286_12 (by decide) ?_
    refine G_isN (pc := 13) f_286_13 (by first | assumption | exact hK.1 _ _ rfl) (by omega) (by omega) ?_
    refine G_S (pc := 14) f_286_14 rfl rfl rfl ?_
    refine G_gR (pc := 15) f_286_15 (by decide) rfl (by first | assumption | exact hK.1 _ _ rfl) (by first | assumption | exact hK.2 _ _ _ rfl | (try dsimp only) <;> (repeat (first | exact up2_s | refine up2_o (by first | decide | omega) ?_)) <;> first | assumption | exact hK.2 _ _ _ rfl) ?_
    refine G_S (pc := 18) f_286_18 rfl rfl rfl ?_
    refine G_S (pc := 19) f_286_19 rfl rfl rfl ?_
    refine G_S (pc := 20) f_286_20 rfl rfl rfl ?_
    refine G_bi (v := nI 24) (pc := 21) f_286_21 (by decide) ?_
    refine G_CV (pc := 23) f_286_23 rfl rfl (by decide) rfl rfl (by first | assumption | exact hK.1 _ _ rfl) (by decide) ⟨Nat.le_of_ble_eq_true rfl, Nat.le_of_ble_eq_true rfl⟩ ?_
    refine CG.go (h_waitTill (W.fo (Fo.up (os := [119]) (i := 119) (k := 24) (x := nI 0) (by decide)) (by decide) (by decide)) (by omega) (by omega)) ?_
    rw [e24]
    refine G_isN (pc := 26) f_286_26 (by first | assumption | exact hK.1 _ _ rfl) (by omega) (by omega) ?_
    refine G_S (pc := 27) f_286_27 rfl rfl rfl ?_
    refine G_S (pc := 28) f_286_28 rfl rfl rfl ?_
    have hF3 : Fo [119, 120] M _ := (Fo.up (i := 119) (k := 24) (x := nI 0) (by decide)).tr (Fo.up (i := 120) (k := 24) (x := nI 0) (by decide))
    have W2 := W.fo hF3 (by decide) (by decide)
    have hK := W2.1
    refine G_S (pc := 29) f_286_29 rfl rfl rfl ?_
    refine G_bi (v := nI 24) (pc := 30) f_286_30 (by decide) ?_
    refine G_jgeZ (pc := 32) f_286_32 rfl (by first | exact nI_toInt (by omega) | exact zI_toInt (by omega) (by omega) | rfl) (by first | exact nI_toInt (by omega) | exact zI_toInt (by omega) (by omega) | rfl) (fun b2 => ?_) (fun b2 => ?_)
    · first | refine G_dec1 (pc := 128) f_286_128 rfl (by omega) ?_ | refine G_incZ (pc := 128) f_286_128 rfl (by first | rfl | exact nI_zI _) ?_
      refine G_S (pc := 131) f_286_131 rfl rfl rfl ?_
      refine loop 0 (Nat.zero_le _) _ _ _ _ _ (nI_zI 23) W2 hF3 (fun s h1 h2 => ?_)
      have e : s = 24 := by omega
      subst e
      exact ⟨(by (try dsimp only); exact up2_o (by omega) (by (try dsimp only); exact up2_s)), (by (try dsimp only); exact up2_s)⟩
    · exfalso; omega
theorem PM_.f (hP : PM_ M F 24) {s : Nat} (h : s ≤ 24) : M.2.1 119 s = nI (fT F s) ∧ M.2.1 120 s = nI (fWt F s) := hP s (by omega) h
theorem h_tramAt {k : Nat} (W : mFl M g F) (hP : PM_ M F 24) (hk : k < fT F 0) : CG C 287 [.ref 98, .int (nI k)] M (fun w M' => w = some (.int (oI (hrF (fP F) k))) ∧ M' = M) := by
  have hK := W.1
  obtain ⟨v0, hg8, hFO, ao⟩ := W.2
  have hn1 := hFO.1
  have hc9 := hFO.2
  have h24 := fT_le hFO
  have hwb : ∀ a, fWt F a ≤ 1368576 := fun a => Nat.le_trans ((pT_b hFO 24 (by omega)).2.1 a) (eB_le 24 (by omega))
  have inner : ∀ {Q} a la i h, a ≤ 23 → a ≤ h → h < 24 → F 0 ≤ sF F a (h + 1 - a) → fT F a = 1 + fT F (h + 1) → fWt F a = wtF F a (h - a) + fWt F (h + 1) → (∀ i, a ≤ i → i < h → F 0 ≤ sF F a (i + 1 - a) → ¬ (1 + fT F (i + 1) = fT F a ∧ wtF F a (i - a) + fWt F (i + 1) = fWt F a)) → G C 287 (82, [some (.ref 98), some (.int (nI k)), some (.int (nI a)), some (.int la), some (.int (nI i)), some (.int (nI h))], [], [], M) Q → ∀ d j, j + d = h → a ≤ j → G C 287 (16, [some (.ref 98), some (.int (nI k)), some (.int (nI a)), some (.int la), some (.int (nI i)), some (.int (nI j))], [], [], M) Q := by
    intro Q a la i h ha hah hh f1 f2 f3 f4 K d
    induction d with
    | zero =>
      intro j hj haj
      have e : j = h := by omega
      subst e
      have hs := sF_le hFO (a := a) (j + 1 - a) (by omega)
      have hw := wtF_c hFO (a := a) (m := j - a) (by omega)
      have q1 := (hP.f (s := j + 1) (by omega)).1
      have q2 := (hP.f (s := j + 1) (by omega)).2
      have q3 := (hP.f (s := a) (by omega)).1
      have q4 := (hP.f (s := a) (by omega)).2
      have z1 := h24 (j + 1)
      have z2 := h24 a
      have z3 := hwb (j + 1)
      have z4 := hwb a
      refine G_S (pc := 16) f_287_16 rfl rfl rfl ?_
      refine G_S (pc := 17) f_287_17 rfl rfl rfl ?_
      refine G_S (pc := 18) f_287_18 rfl rfl rfl ?_
      refine G_CV (pc := 20) f_287_20 rfl rfl (by decide) rfl rfl (by first | assumption | exact hK.1 _ _ rfl) (by decide) ⟨Nat.le_of_ble_eq_true rfl, Nat.le_of_ble_eq_true rfl⟩ ?_
      refine CG.go (h_between W (by omega) (by omega)) ?_
      refine G_S (pc := 23) f_287_23 rfl rfl rfl ?_
      refine G_CV (pc := 24) f_287_24 rfl rfl (by decide) rfl rfl (by first | assumption | exact hK.1 _ _ rfl) (by decide) ⟨Nat.le_of_ble_eq_true rfl, Nat.le_of_ble_eq_true rfl⟩ ?_
      refine CG.go (h_need W) ?_
      refine G_jltZ (pc := 27) f_287_27 rfl (by first | exact nI_toInt (by omega) | exact zI_toInt (by omega) (by omega) | rfl) (by first | exact nI_toInt (by omega) | exact zI_toInt (by omega) (by omega) | rfl) (fun b2 => ?_) (fun b2 => ?_)
      · exfalso; omega
      · refine G_ic (v := nI 1) (pc := 30) f_287_30 (by decide) ?_
        refine G_S (pc := 31) f_287_31 rfl rfl rfl ?_
        refine G_gR (pc := 32) f_287_32 (by decide) rfl (by first | assumption | exact hK.1 _ _ rfl) (by first | assumption | exact hK.2 _ _ _ rfl | (try dsimp only) <;> (repeat (first | exact up2_s | refine up2_o (by first | decide | omega) ?_)) <;> first | assumption | exact hK.2 _ _ _ rfl) ?_
        refine G_S (pc := 35) f_287_35 rfl rfl rfl ?_
        refine G_ic (v := nI 1) (pc := 37) f_287_37 (by decide) ?_
        first | refine G_addN (pc := 38) f_287_38 ?_ | refine G_addZ (pc := 38) f_287_38 (by first | rfl | exact nI_zI _) (by first | rfl | exact nI_zI _) ?_ | refine G_S (pc := 38) f_287_38 rfl rfl rfl ?_
        refine G_iaN (pc := 39) f_287_39 (by first | assumption | exact hK.1 _ _ rfl) (by omega) (by omega) (by first | assumption | exact q1 _ (by omega) | exact q2 _ (by omega) | exact q3 _ (by omega) | exact q4 _ (by omega) | exact q5 _ (by omega) | exact vh _ (by omega) | exact (vr _ (by omega)).1 | exact (vr _ (by omega)).2 | exact vw _ (by omega) | exact vf _ (by omega) (by omega) | exact mI_s | ((refine mI_o (by first | decide | omega) ?_); (repeat (refine mI_o (by first | decide | omega) ?_)); first | exact mI_s | assumption | exact q1 _ (by omega) | exact q2 _ (by omega) | exact q3 _ (by omega) | exact q4 _ (by omega) | exact q5 _ (by omega) | exact vh _ (by omega) | exact (vr _ (by omega)).1 | exact (vr _ (by omega)).2 | exact vw _ (by omega) | exact vf _ (by omega) (by omega)) | rfl) ?_
        first | refine G_addN (pc := 40) f_287_40 ?_ | refine G_addZ (pc := 40) f_287_40 (by first | rfl | exact nI_zI _) (by first | rfl | exact nI_zI _) ?_ | refine G_S (pc := 40) f_287_40 rfl rfl rfl ?_
        refine G_S (pc := 41) f_287_41 rfl rfl rfl ?_
        refine G_gR (pc := 42) f_287_42 (by decide) rfl (by first | assumption | exact hK.1 _ _ rfl) (by first | assumption | exact hK.2 _ _ _ rfl | (try dsimp only) <;> (repeat (first | exact up2_s | refine up2_o (by first | decide | omega) ?_)) <;> first | assumption | exact hK.2 _ _ _ rfl) ?_
        refine G_S (pc := 45) f_287_45 rfl rfl rfl ?_
        refine G_iaN (pc := 46) f_287_46 (by first | assumption | exact hK.1 _ _ rfl) (by omega) (by omega) (by first | assumption | exact q1 _ (by omega) | exact q2 _ (by omega) | exact q3 _ (by omega) | exact q4 _ (by omega) | exact q5 _ (by omega) | exact vh _ (by omega) | exact (vr _ (by omega)).1 | exact (vr _ (by omega)).2 | exact vw _ (by omega) | exact vf _ (by omega) (by omega) | exact mI_s | ((refine mI_o (by first | decide | omega) ?_); (repeat (refine mI_o (by first | decide | omega) ?_)); first | exact mI_s | assumption | exact q1 _ (by omega) | exact q2 _ (by omega) | exact q3 _ (by omega) | exact q4 _ (by omega) | exact q5 _ (by omega) | exact vh _ (by omega) | exact (vr _ (by omega)).1 | exact (vr _ (by omega)).2 | exact vw _ (by omega) | exact vf _ (by omega) (by omega)) | rfl) ?_
        refine G_jneZ (pc := 47) f_287_47 rfl (by first | exact nI_toInt (by omega) | exact zI_toInt (by omega) (by omega) | rfl) (by first | exact nI_toInt (by omega) | exact zI_toInt (by omega) (by omega) | rfl) (fun b3 => ?_) (fun b3 => ?_)
        · exfalso; omega
        · refine G_S (pc := 50) f_287_50 rfl rfl rfl ?_
          refine G_S (pc := 51) f_287_51 rfl rfl rfl ?_
          refine G_S (pc := 52) f_287_52 rfl rfl rfl ?_
          refine G_CV (pc := 54) f_287_54 rfl rfl (by decide) rfl rfl (by first | assumption | exact hK.1 _ _ rfl) (by decide) ⟨Nat.le_of_ble_eq_true rfl, Nat.le_of_ble_eq_true rfl⟩ ?_
          refine CG.go (h_waitTill W (by omega) (by omega)) ?_
          refine G_S (pc := 57) f_287_57 rfl rfl rfl ?_
          refine G_gR (pc := 58) f_287_58 (by decide) rfl (by first | assumption | exact hK.1 _ _ rfl) (by first | assumption | exact hK.2 _ _ _ rfl | (try dsimp only) <;> (repeat (first | exact up2_s | refine up2_o (by first | decide | omega) ?_)) <;> first | assumption | exact hK.2 _ _ _ rfl) ?_
          refine G_S (pc := 61) f_287_61 rfl rfl rfl ?_
          refine G_ic (v := nI 1) (pc := 63) f_287_63 (by decide) ?_
          first | refine G_addN (pc := 64) f_287_64 ?_ | refine G_addZ (pc := 64) f_287_64 (by first | rfl | exact nI_zI _) (by first | rfl | exact nI_zI _) ?_ | refine G_S (pc := 64) f_287_64 rfl rfl rfl ?_
          refine G_iaN (pc := 65) f_287_65 (by first | assumption | exact hK.1 _ _ rfl) (by omega) (by omega) (by first | assumption | exact q1 _ (by omega) | exact q2 _ (by omega) | exact q3 _ (by omega) | exact q4 _ (by omega) | exact q5 _ (by omega) | exact vh _ (by omega) | exact (vr _ (by omega)).1 | exact (vr _ (by omega)).2 | exact vw _ (by omega) | exact vf _ (by omega) (by omega) | exact mI_s | ((refine mI_o (by first | decide | omega) ?_); (repeat (refine mI_o (by first | decide | omega) ?_)); first | exact mI_s | assumption | exact q1 _ (by omega) | exact q2 _ (by omega) | exact q3 _ (by omega) | exact q4 _ (by omega) | exact q5 _ (by omega) | exact vh _ (by omega) | exact (vr _ (by omega)).1 | exact (vr _ (by omega)).2 | exact vw _ (by omega) | exact vf _ (by omega) (by omega)) | rfl) ?_
          first | refine G_addN (pc := 66) f_287_66 ?_ | refine G_addZ (pc := 66) f_287_66 (by first | rfl | exact nI_zI _) (by first | rfl | exact nI_zI _) ?_ | refine G_S (pc := 66) f_287_66 rfl rfl rfl ?_
          refine G_S (pc := 67) f_287_67 rfl rfl rfl ?_
          refine G_gR (pc := 68) f_287_68 (by decide) rfl (by first | assumption | exact hK.1 _ _ rfl) (by first | assumption | exact hK.2 _ _ _ rfl | (try dsimp only) <;> (repeat (first | exact up2_s | refine up2_o (by first | decide | omega) ?_)) <;> first | assumption | exact hK.2 _ _ _ rfl) ?_
          refine G_S (pc := 71) f_287_71 rfl rfl rfl ?_
          refine G_iaN (pc := 72) f_287_72 (by first | assumption | exact hK.1 _ _ rfl) (by omega) (by omega) (by first | assumption | exact q1 _ (by omega) | exact q2 _ (by omega) | exact q3 _ (by omega) | exact q4 _ (by omega) | exact q5 _ (by omega) | exact vh _ (by omega) | exact (vr _ (by omega)).1 | exact (vr _ (by omega)).2 | exact vw _ (by omega) | exact vf _ (by omega) (by omega) | exact mI_s | ((refine mI_o (by first | decide | omega) ?_); (repeat (refine mI_o (by first | decide | omega) ?_)); first | exact mI_s | assumption | exact q1 _ (by omega) | exact q2 _ (by omega) | exact q3 _ (by omega) | exact q4 _ (by omega) | exact q5 _ (by omega) | exact vh _ (by omega) | exact (vr _ (by omega)).1 | exact (vr _ (by omega)).2 | exact vw _ (by omega) | exact vf _ (by omega) (by omega)) | rfl) ?_
          refine G_jeqZ (pc := 73) f_287_73 rfl (by first | exact nI_toInt (by omega) | exact zI_toInt (by omega) (by omega) | rfl) (by first | exact nI_toInt (by omega) | exact zI_toInt (by omega) (by omega) | rfl) (fun b4 => ?_) (fun b4 => ?_)
          · exact K
          · exfalso; omega
    | succ d ih =>
      intro j hj haj
      have hs := sF_le hFO (a := a) (j + 1 - a) (by omega)
      have hw := wtF_c hFO (a := a) (m := j - a) (by omega)
      have q1 := (hP.f (s := j + 1) (by omega)).1
      have q2 := (hP.f (s := j + 1) (by omega)).2
      have q3 := (hP.f (s := a) (by omega)).1
      have q4 := (hP.f (s := a) (by omega)).2
      have z1 := h24 (j + 1)
      have z2 := h24 a
      have z3 := hwb (j + 1)
      have z4 := hwb a
      refine G_S (pc := 16) f_287_16 rfl rfl rfl ?_
      refine G_S (pc := 17) f_287_17 rfl rfl rfl ?_
      refine G_S (pc := 18) f_287_18 rfl rfl rfl ?_
      refine G_CV (pc := 20) f_287_20 rfl rfl (by decide) rfl rfl (by first | assumption | exact hK.1 _ _ rfl) (by decide) ⟨Nat.le_of_ble_eq_true rfl, Nat.le_of_ble_eq_true rfl⟩ ?_
      refine CG.go (h_between W (by omega) (by omega)) ?_
      refine G_S (pc := 23) f_287_23 rfl rfl rfl ?_
      refine G_CV (pc := 24) f_287_24 rfl rfl (by decide) rfl rfl (by first | assumption | exact hK.1 _ _ rfl) (by decide) ⟨Nat.le_of_ble_eq_true rfl, Nat.le_of_ble_eq_true rfl⟩ ?_
      refine CG.go (h_need W) ?_
      refine G_jltZ (pc := 27) f_287_27 rfl (by first | exact nI_toInt (by omega) | exact zI_toInt (by omega) (by omega) | rfl) (by first | exact nI_toInt (by omega) | exact zI_toInt (by omega) (by omega) | rfl) (fun b2 => ?_) (fun b2 => ?_)
      · first | refine G_inc1 (pc := 76) f_287_76 rfl ?_ | refine G_S (pc := 76) f_287_76 rfl rfl rfl ?_
        refine G_S (pc := 79) f_287_79 rfl rfl rfl ?_
        exact ih (j + 1) (by omega) (by omega)
      · refine G_ic (v := nI 1) (pc := 30) f_287_30 (by decide) ?_
        refine G_S (pc := 31) f_287_31 rfl rfl rfl ?_
        refine G_gR (pc := 32) f_287_32 (by decide) rfl (by first | assumption | exact hK.1 _ _ rfl) (by first | assumption | exact hK.2 _ _ _ rfl | (try dsimp only) <;> (repeat (first | exact up2_s | refine up2_o (by first | decide | omega) ?_)) <;> first | assumption | exact hK.2 _ _ _ rfl) ?_
        refine G_S (pc := 35) f_287_35 rfl rfl rfl ?_
        refine G_ic (v := nI 1) (pc := 37) f_287_37 (by decide) ?_
        first | refine G_addN (pc := 38) f_287_38 ?_ | refine G_addZ (pc := 38) f_287_38 (by first | rfl | exact nI_zI _) (by first | rfl | exact nI_zI _) ?_ | refine G_S (pc := 38) f_287_38 rfl rfl rfl ?_
        refine G_iaN (pc := 39) f_287_39 (by first | assumption | exact hK.1 _ _ rfl) (by omega) (by omega) (by first | assumption | exact q1 _ (by omega) | exact q2 _ (by omega) | exact q3 _ (by omega) | exact q4 _ (by omega) | exact q5 _ (by omega) | exact vh _ (by omega) | exact (vr _ (by omega)).1 | exact (vr _ (by omega)).2 | exact vw _ (by omega) | exact vf _ (by omega) (by omega) | exact mI_s | ((refine mI_o (by first | decide | omega) ?_); (repeat (refine mI_o (by first | decide | omega) ?_)); first | exact mI_s | assumption | exact q1 _ (by omega) | exact q2 _ (by omega) | exact q3 _ (by omega) | exact q4 _ (by omega) | exact q5 _ (by omega) | exact vh _ (by omega) | exact (vr _ (by omega)).1 | exact (vr _ (by omega)).2 | exact vw _ (by omega) | exact vf _ (by omega) (by omega)) | rfl) ?_
        first | refine G_addN (pc := 40) f_287_40 ?_ | refine G_addZ (pc := 40) f_287_40 (by first | rfl | exact nI_zI _) (by first | rfl | exact nI_zI _) ?_ | refine G_S (pc := 40) f_287_40 rfl rfl rfl ?_
        refine G_S (pc := 41) f_287_41 rfl rfl rfl ?_
        refine G_gR (pc := 42) f_287_42 (by decide) rfl (by first | assumption | exact hK.1 _ _ rfl) (by first | assumption | exact hK.2 _ _ _ rfl | (try dsimp only) <;> (repeat (first | exact up2_s | refine up2_o (by first | decide | omega) ?_)) <;> first | assumption | exact hK.2 _ _ _ rfl) ?_
        refine G_S (pc := 45) f_287_45 rfl rfl rfl ?_
        refine G_iaN (pc := 46) f_287_46 (by first | assumption | exact hK.1 _ _ rfl) (by omega) (by omega) (by first | assumption | exact q1 _ (by omega) | exact q2 _ (by omega) | exact q3 _ (by omega) | exact q4 _ (by omega) | exact q5 _ (by omega) | exact vh _ (by omega) | exact (vr _ (by omega)).1 | exact (vr _ (by omega)).2 | exact vw _ (by omega) | exact vf _ (by omega) (by omega) | exact mI_s | ((refine mI_o (by first | decide | omega) ?_); (repeat (refine mI_o (by first | decide | omega) ?_)); first | exact mI_s | assumption | exact q1 _ (by omega) | exact q2 _ (by omega) | exact q3 _ (by omega) | exact q4 _ (by omega) | exact q5 _ (by omega) | exact vh _ (by omega) | exact (vr _ (by omega)).1 | exact (vr _ (by omega)).2 | exact vw _ (by omega) | exact vf _ (by omega) (by omega)) | rfl) ?_
        refine G_jneZ (pc := 47) f_287_47 rfl (by first | exact nI_toInt (by omega) | exact zI_toInt (by omega) (by omega) | rfl) (by first | exact nI_toInt (by omega) | exact zI_toInt (by omega) (by omega) | rfl) (fun b3 => ?_) (fun b3 => ?_)
        · first | refine G_inc1 (pc := 76) f_287_76 rfl ?_ | refine G_S (pc := 76) f_287_76 rfl rfl rfl ?_
          refine G_S (pc := 79) f_287_79 rfl rfl rfl ?_
          exact ih (j + 1) (by omega) (by omega)
        · refine G_S (pc := 50) f_287_50 rfl rfl rfl ?_
          refine G_S (pc := 51) f_287_51 rfl rfl rfl ?_
          refine G_S (pc := 52) f_287_52 rfl rfl rfl ?_
          refine G_CV (pc := 54) f_287_54 rfl rfl (by decide) rfl rfl (by first | assumption | exact hK.1 _ _ rfl) (by decide) ⟨Nat.le_of_ble_eq_true rfl, Nat.le_of_ble_eq_true rfl⟩ ?_
          refine CG.go (h_waitTill W (by omega) (by omega)) ?_
          refine G_S (pc := 57) f_287_57 rfl rfl rfl ?_
          refine G_gR (pc := 58) f_287_58 (by decide) rfl (by first | assumption | exact hK.1 _ _ rfl) (by first | assumption | exact hK.2 _ _ _ rfl | (try dsimp only) <;> (repeat (first | exact up2_s | refine up2_o (by first | decide | omega) ?_)) <;> first | assumption | exact hK.2 _ _ _ rfl) ?_
          refine G_S (pc := 61) f_287_61 rfl rfl rfl ?_
          refine G_ic (v := nI 1) (pc := 63) f_287_63 (by decide) ?_
          first | refine G_addN (pc := 64) f_287_64 ?_ | refine G_addZ (pc := 64) f_287_64 (by first | rfl | exact nI_zI _) (by first | rfl | exact nI_zI _) ?_ | refine G_S (pc := 64) f_287_64 rfl rfl rfl ?_
          refine G_iaN (pc := 65) f_287_65 (by first | assumption | exact hK.1 _ _ rfl) (by omega) (by omega) (by first | assumption | exact q1 _ (by omega) | exact q2 _ (by omega) | exact q3 _ (by omega) | exact q4 _ (by omega) | exact q5 _ (by omega) | exact vh _ (by omega) | exact (vr _ (by omega)).1 | exact (vr _ (by omega)).2 | exact vw _ (by omega) | exact vf _ (by omega) (by omega) | exact mI_s | ((refine mI_o (by first | decide | omega) ?_); (repeat (refine mI_o (by first | decide | omega) ?_)); first | exact mI_s | assumption | exact q1 _ (by omega) | exact q2 _ (by omega) | exact q3 _ (by omega) | exact q4 _ (by omega) | exact q5 _ (by omega) | exact vh _ (by omega) | exact (vr _ (by omega)).1 | exact (vr _ (by omega)).2 | exact vw _ (by omega) | exact vf _ (by omega) (by omega)) | rfl) ?_
          first | refine G_addN (pc := 66) f_287_66 ?_ | refine G_addZ (pc := 66) f_287_66 (by first | rfl | exact nI_zI _) (by first | rfl | exact nI_zI _) ?_ | refine G_S (pc := 66) f_287_66 rfl rfl rfl ?_
          refine G_S (pc := 67) f_287_67 rfl rfl rfl ?_
          refine G_gR (pc := 68) f_287_68 (by decide) rfl (by first | assumption | exact hK.1 _ _ rfl) (by first | assumption | exact hK.2 _ _ _ rfl | (try dsimp only) <;> (repeat (first | exact up2_s | refine up2_o (by first | decide | omega) ?_)) <;> first | assumption | exact hK.2 _ _ _ rfl) ?_
          refine G_S (pc := 71) f_287_71 rfl rfl rfl ?_
          refine G_iaN (pc := 72) f_287_72 (by first | assumption | exact hK.1 _ _ rfl) (by omega) (by omega) (by first | assumption | exact q1 _ (by omega) | exact q2 _ (by omega) | exact q3 _ (by omega) | exact q4 _ (by omega) | exact q5 _ (by omega) | exact vh _ (by omega) | exact (vr _ (by omega)).1 | exact (vr _ (by omega)).2 | exact vw _ (by omega) | exact vf _ (by omega) (by omega) | exact mI_s | ((refine mI_o (by first | decide | omega) ?_); (repeat (refine mI_o (by first | decide | omega) ?_)); first | exact mI_s | assumption | exact q1 _ (by omega) | exact q2 _ (by omega) | exact q3 _ (by omega) | exact q4 _ (by omega) | exact q5 _ (by omega) | exact vh _ (by omega) | exact (vr _ (by omega)).1 | exact (vr _ (by omega)).2 | exact vw _ (by omega) | exact vf _ (by omega) (by omega)) | rfl) ?_
          refine G_jeqZ (pc := 73) f_287_73 rfl (by first | exact nI_toInt (by omega) | exact zI_toInt (by omega) (by omega) | rfl) (by first | exact nI_toInt (by omega) | exact zI_toInt (by omega) (by omega) | rfl) (fun b4 => ?_) (fun b4 => ?_)
          · exact absurd ⟨by omega, by omega⟩ (f4 j haj (by omega) (by omega))
          · first | refine G_inc1 (pc := 76) f_287_76 rfl ?_ | refine G_S (pc := 76) f_287_76 rfl rfl rfl ?_
            refine G_S (pc := 79) f_287_79 rfl rfl rfl ?_
            exact ih (j + 1) (by omega) (by omega)
  have loop : ∀ i, i ≤ k + 1 → ∀ a la b, a ≤ 24 → fT F a + i = fT F 0 → fP F a = hrF (fP F) i → (i = k + 1 → la = oI (hrF (fP F) k)) → G C 287 (7, [some (.ref 98), some (.int (nI k)), some (.int (nI a)), some (.int la), some (.int (nI i)), b], [], [], M) (fun w M' => w = some (.int (oI (hrF (fP F) k))) ∧ M' = M) := by
    refine upto (fun i hi ih a la b ha h1 h2 h3 => ?_)
    have z0 := h24 0
    refine G_S (pc := 7) f_287_7 rfl rfl rfl ?_
    refine G_S (pc := 9) f_287_9 rfl rfl rfl ?_
    refine G_jgtZ (pc := 10) f_287_10 rfl (by first | exact nI_toInt (by omega) | exact zI_toInt (by omega) (by omega) | rfl) (by first | exact nI_toInt (by omega) | exact zI_toInt (by omega) (by omega) | rfl) (fun b1 => ?_) (fun b1 => ?_)
    · refine G_S (pc := 96) f_287_96 rfl rfl rfl ?_
      refine G_ri (pc := 97) f_287_97 ?_
      rw [h3 (by omega)]
      exact ⟨rfl, rfl⟩
    · refine G_S (pc := 13) f_287_13 rfl rfl rfl ?_
      refine G_S (pc := 14) f_287_14 rfl rfl rfl ?_
      obtain ⟨h, g1, g2, g3, g4, g5, g6, g7⟩ := f_first (F := F) (a := a) ha (by omega)
      refine inner a la i h (by omega) g1 g2 g4 g5 g6 g7 ?_ (h - a) a (by omega) (by omega)
      refine G_S (pc := 82) f_287_82 rfl rfl rfl ?_
      refine G_S (pc := 84) f_287_84 rfl rfl rfl ?_
      refine G_S (pc := 85) f_287_85 rfl rfl rfl ?_
      refine G_ic (v := nI 1) (pc := 87) f_287_87 (by decide) ?_
      first | refine G_addN (pc := 88) f_287_88 ?_ | refine G_addZ (pc := 88) f_287_88 (by first | rfl | exact nI_zI _) (by first | rfl | exact nI_zI _) ?_ | refine G_S (pc := 88) f_287_88 rfl rfl rfl ?_
      refine G_S (pc := 89) f_287_89 rfl rfl rfl ?_
      first | refine G_inc1 (pc := 90) f_287_90 rfl ?_ | refine G_S (pc := 90) f_287_90 rfl rfl rfl ?_
      refine G_S (pc := 93) f_287_93 rfl rfl rfl ?_
      refine ih (by omega) (h + 1) (nI h) _ (by omega) (by omega) ?_ (fun e => ?_)
      · rw [hrF, ← h2, g3]
      · have e : i = k := by omega
        rw [← e, ← h2, g3]
        rfl
  refine CG_in (mL := 6) (hl := false) (lv := [some (.ref 98), some (.int (nI k)), none, none, none, none]) (ll := []) rfl rfl rfl ?_
  refine G_ic (v := nI 0) (pc := 0) f_287_0 (by decide) ?_
  refine G_S (pc := 1) f_287_1 rfl rfl rfl ?_
  refine G_ic (v := zI (-1)) (pc := 2) f_287_2 (by decide) ?_
  refine G_S (pc := 3) f_287_3 rfl rfl rfl ?_
  refine G_ic (v := nI 0) (pc := 4) f_287_4 (by decide) ?_
  refine G_S (pc := 5) f_287_5 rfl rfl rfl ?_
  exact loop 0 (Nat.zero_le _) 0 _ _ (by omega) rfl rfl (fun e => absurd e (by omega))
theorem h_leaves (W : MFs M n L) : CG C 288 [.ref 98, .int k, .int x] M (fun w M' => w = some (.int (aLin (lin n L k) (zI (-1)) (fun F => lvM F x))) ∧ mQ M M') := by
  have hK := W.1
  cases hl : lin n L k with
  | none =>
    refine CG_in (mL := 3) (hl := false) (lv := [some (.ref 98), some (.int k), some (.int x)]) (ll := []) rfl rfl rfl ?_
    refine G_S (pc := 0) f_288_0 rfl rfl rfl ?_
    refine G_ic (v := nI 0) (pc := 1) f_288_1 (by decide) ?_
    refine G_pI (pc := 2) f_288_2 rfl (by first | assumption | exact hK.1 _ _ rfl) ?_
    refine G_S (pc := 5) f_288_5 rfl rfl rfl ?_
    refine G_S (pc := 6) f_288_6 rfl rfl rfl ?_
    refine G_CV (pc := 7) f_288_7 rfl rfl (by decide) rfl rfl (by first | assumption | exact hK.1 _ _ rfl) (by decide) ⟨Nat.le_of_ble_eq_true rfl, Nat.le_of_ble_eq_true rfl⟩ ?_
    refine CG.mono (h_hasN (W.q mQ.cod) hl) ?_
    rintro _ M1 ⟨rfl, hQ⟩
    first | refine G_bNe (pc := 10) f_288_10 rfl (fun b1 => ?_) (fun b1 => ?_) | refine G_zneZ (pc := 10) f_288_10 rfl (by first | exact nI_toInt (by omega) | exact zI_toInt (by omega) (by omega) | rfl) (fun b1 => ?_) (fun b1 => ?_)
    · exact absurd b1 id
    · refine G_ic (v := zI (-1)) (pc := 13) f_288_13 (by decide) ?_
      refine G_ri (pc := 14) f_288_14 ?_
      exact ⟨rfl, mQ.cod.tr hQ⟩
  | some F =>
    show CG C 288 [.ref 98, .int k, .int x] M (fun w M' => w = some (.int (lvM F x)) ∧ mQ M M')
    refine CG_in (mL := 3) (hl := false) (lv := [some (.ref 98), some (.int k), some (.int x)]) (ll := []) rfl rfl rfl ?_
    refine G_S (pc := 0) f_288_0 rfl rfl rfl ?_
    refine G_ic (v := nI 0) (pc := 1) f_288_1 (by decide) ?_
    refine G_pI (pc := 2) f_288_2 rfl (by first | assumption | exact hK.1 _ _ rfl) ?_
    refine G_S (pc := 5) f_288_5 rfl rfl rfl ?_
    refine G_S (pc := 6) f_288_6 rfl rfl rfl ?_
    refine G_CV (pc := 7) f_288_7 rfl rfl (by decide) rfl rfl (by first | assumption | exact hK.1 _ _ rfl) (by decide) ⟨Nat.le_of_ble_eq_true rfl, Nat.le_of_ble_eq_true rfl⟩ ?_
    refine CG.mono (h_hasS (W.q mQ.cod) hl) ?_
    rintro _ M1 ⟨rfl, hQ, g, W1⟩
    have hK := W1.1
    obtain ⟨v0, hg8, hFO, ao⟩ := W1.2
    have hn1 := hFO.1
    have hc9 := hFO.2
    have hQ := mQ.cod.tr hQ
    first | refine G_bNe (pc := 10) f_288_10 rfl (fun b1 => ?_) (fun b1 => ?_) | refine G_zneZ (pc := 10) f_288_10 rfl (by first | exact nI_toInt (by omega) | exact zI_toInt (by omega) (by omega) | rfl) (fun b1 => ?_) (fun b1 => ?_)
    · refine G_S (pc := 15) f_288_15 rfl rfl rfl ?_
      refine G_CV (pc := 16) f_288_16 rfl rfl (by decide) rfl rfl (by first | assumption | exact hK.1 _ _ rfl) (by decide) ⟨Nat.le_of_ble_eq_true rfl, Nat.le_of_ble_eq_true rfl⟩ ?_
      refine CG.mono (h_findTrams W1) ?_
      rintro _ M2 ⟨rfl, hF, hP⟩
      have W2 := W1.fo hF (by decide) (by decide)
      have hK := W2.1
      have hQ2 := hQ.tr (hF.q (by decide))
      obtain ⟨q2, q3⟩ := hP.f (s := 0) (by omega)
      have h24 := fT_le hFO 0
      refine G_S (pc := 19) f_288_19 rfl rfl rfl ?_
      first | refine G_bNe (pc := 20) f_288_20 rfl (fun b2 => ?_) (fun b2 => ?_) | refine G_zneZ (pc := 20) f_288_20 rfl (by first | exact nI_toInt (by omega) | exact zI_toInt (by omega) (by omega) | rfl) (fun b2 => ?_) (fun b2 => ?_)
      · refine G_S (pc := 32) f_288_32 rfl rfl rfl ?_
        refine G_ic (v := nI 1) (pc := 33) f_288_33 (by decide) ?_
        refine G_jneZ (pc := 34) f_288_34 rfl (by first | exact nI_toInt (by omega) | exact zI_toInt (by omega) (by omega) | rfl) (by first | exact nI_toInt (by omega) | exact zI_toInt (by omega) (by omega) | rfl) (fun b3 => ?_) (fun b3 => ?_)
        · refine G_S (pc := 46) f_288_46 rfl rfl rfl ?_
          refine G_bi (v := nI 10) (pc := 47) f_288_47 (by decide) ?_
          refine G_bi (v := nI 9) (pc := 49) f_288_49 (by decide) ?_
          refine G_S (pc := 51) f_288_51 rfl rfl rfl ?_
          refine G_gR (pc := 52) f_288_52 (by decide) rfl (by first | assumption | exact hK.1 _ _ rfl) (by first | assumption | exact hK.2 _ _ _ rfl | (try dsimp only) <;> (repeat (first | exact up2_s | refine up2_o (by first | decide | omega) ?_)) <;> first | assumption | exact hK.2 _ _ _ rfl) ?_
          refine G_ic (v := nI 0) (pc := 55) f_288_55 (by decide) ?_
          refine G_iaN (pc := 56) f_288_56 (by first | assumption | exact hK.1 _ _ rfl) (by omega) (by omega) (by first | assumption | exact q1 _ (by omega) | exact q2 _ (by omega) | exact q3 _ (by omega) | exact q4 _ (by omega) | exact q5 _ (by omega) | exact vh _ (by omega) | exact (vr _ (by omega)).1 | exact (vr _ (by omega)).2 | exact vw _ (by omega) | exact vf _ (by omega) (by omega) | exact mI_s | ((refine mI_o (by first | decide | omega) ?_); (repeat (refine mI_o (by first | decide | omega) ?_)); first | exact mI_s | assumption | exact q1 _ (by omega) | exact q2 _ (by omega) | exact q3 _ (by omega) | exact q4 _ (by omega) | exact q5 _ (by omega) | exact vh _ (by omega) | exact (vr _ (by omega)).1 | exact (vr _ (by omega)).2 | exact vw _ (by omega) | exact vf _ (by omega) (by omega)) | rfl) ?_
          first | refine G_addN (pc := 57) f_288_57 ?_ | refine G_addZ (pc := 57) f_288_57 (by first | rfl | exact nI_zI _) (by first | rfl | exact nI_zI _) ?_ | refine G_S (pc := 57) f_288_57 rfl rfl rfl ?_
          refine G_CS (pc := 58) f_288_58 rfl rfl (by decide) rfl rfl ⟨Nat.le_of_ble_eq_true rfl, Nat.le_of_ble_eq_true rfl⟩ ?_
          refine CG.go (m_inZ (by first | exact nI_toInt (by omega) | exact zI_toInt (by omega) (by omega) | rfl) (by first | exact nI_toInt (by omega) | exact zI_toInt (by omega) (by omega) | rfl) (by first | exact nI_toInt (by omega) | exact zI_toInt (by omega) (by omega) | rfl)) ?_
          first | refine G_bEq (pc := 61) f_288_61 rfl (fun b4 => ?_) (fun b4 => ?_) | refine G_zeqZ (pc := 61) f_288_61 rfl (by first | exact nI_toInt (by omega) | exact zI_toInt (by omega) (by omega) | rfl) (fun b4 => ?_) (fun b4 => ?_)
          · refine G_ic (v := zI (-1)) (pc := 75) f_288_75 (by decide) ?_
            refine G_ri (pc := 76) f_288_76 ?_
            refine ⟨?_, hQ2⟩
            unfold lvM
            first
              | rw [if_pos b2]
              | rw [if_neg b2, if_pos (by omega)]
              | rw [if_neg b2, if_neg (by omega), if_neg (by omega)]
              | rw [nI_toInt (by omega), Int.toNat_natCast, if_neg (by omega), if_neg (by omega), if_pos (by omega)]
          · obtain ⟨c, hc, rfl⟩ := i_nat (x := x) (n := 34) (by omega) (by omega)
            rw [nI_toInt (by omega)] at b4 b2 b3
            refine G_S (pc := 64) f_288_64 rfl rfl rfl ?_
            refine G_S (pc := 65) f_288_65 rfl rfl rfl ?_
            refine G_bi (v := nI 10) (pc := 66) f_288_66 (by decide) ?_
            first | refine G_subN (pc := 68) f_288_68 (by omega) ?_ | refine G_subZ (pc := 68) f_288_68 (by first | rfl | exact nI_zI _) (by first | rfl | exact nI_zI _) ?_ | refine G_S (pc := 68) f_288_68 rfl rfl rfl ?_
            refine G_CV (pc := 69) f_288_69 rfl rfl (by decide) rfl rfl (by first | assumption | exact hK.1 _ _ rfl) (by decide) ⟨Nat.le_of_ble_eq_true rfl, Nat.le_of_ble_eq_true rfl⟩ ?_
            refine CG.go (h_tramAt W2 hP (by omega)) ?_
            refine G_S (pc := 72) f_288_72 rfl rfl rfl ?_
            refine G_ri (pc := 76) f_288_76 ?_
            refine ⟨?_, hQ2⟩
            unfold lvM
            first
              | rw [if_pos b2]
              | rw [if_neg b2, if_pos (by omega)]
              | rw [if_neg b2, if_neg (by omega), if_neg (by omega)]
              | rw [nI_toInt (by omega), Int.toNat_natCast, if_neg (by omega), if_neg (by omega), if_pos (by omega)]
        · refine G_S (pc := 37) f_288_37 rfl rfl rfl ?_
          refine G_gR (pc := 38) f_288_38 (by decide) rfl (by first | assumption | exact hK.1 _ _ rfl) (by first | assumption | exact hK.2 _ _ _ rfl | (try dsimp only) <;> (repeat (first | exact up2_s | refine up2_o (by first | decide | omega) ?_)) <;> first | assumption | exact hK.2 _ _ _ rfl) ?_
          refine G_ic (v := nI 0) (pc := 41) f_288_41 (by decide) ?_
          refine G_iaN (pc := 42) f_288_42 (by first | assumption | exact hK.1 _ _ rfl) (by omega) (by omega) (by first | assumption | exact q1 _ (by omega) | exact q2 _ (by omega) | exact q3 _ (by omega) | exact q4 _ (by omega) | exact q5 _ (by omega) | exact vh _ (by omega) | exact (vr _ (by omega)).1 | exact (vr _ (by omega)).2 | exact vw _ (by omega) | exact vf _ (by omega) (by omega) | exact mI_s | ((refine mI_o (by first | decide | omega) ?_); (repeat (refine mI_o (by first | decide | omega) ?_)); first | exact mI_s | assumption | exact q1 _ (by omega) | exact q2 _ (by omega) | exact q3 _ (by omega) | exact q4 _ (by omega) | exact q5 _ (by omega) | exact vh _ (by omega) | exact (vr _ (by omega)).1 | exact (vr _ (by omega)).2 | exact vw _ (by omega) | exact vf _ (by omega) (by omega)) | rfl) ?_
          refine G_S (pc := 43) f_288_43 rfl rfl rfl ?_
          refine G_ri (pc := 76) f_288_76 ?_
          refine ⟨?_, hQ2⟩
          unfold lvM
          first
            | rw [if_pos b2]
            | rw [if_neg b2, if_pos (by omega)]
            | rw [if_neg b2, if_neg (by omega), if_neg (by omega)]
            | rw [nI_toInt (by omega), Int.toNat_natCast, if_neg (by omega), if_neg (by omega), if_pos (by omega)]
      · refine G_S (pc := 23) f_288_23 rfl rfl rfl ?_
        refine G_gR (pc := 24) f_288_24 (by decide) rfl (by first | assumption | exact hK.1 _ _ rfl) (by first | assumption | exact hK.2 _ _ _ rfl | (try dsimp only) <;> (repeat (first | exact up2_s | refine up2_o (by first | decide | omega) ?_)) <;> first | assumption | exact hK.2 _ _ _ rfl) ?_
        refine G_ic (v := nI 0) (pc := 27) f_288_27 (by decide) ?_
        refine G_iaN (pc := 28) f_288_28 (by first | assumption | exact hK.1 _ _ rfl) (by omega) (by omega) (by first | assumption | exact q1 _ (by omega) | exact q2 _ (by omega) | exact q3 _ (by omega) | exact q4 _ (by omega) | exact q5 _ (by omega) | exact vh _ (by omega) | exact (vr _ (by omega)).1 | exact (vr _ (by omega)).2 | exact vw _ (by omega) | exact vf _ (by omega) (by omega) | exact mI_s | ((refine mI_o (by first | decide | omega) ?_); (repeat (refine mI_o (by first | decide | omega) ?_)); first | exact mI_s | assumption | exact q1 _ (by omega) | exact q2 _ (by omega) | exact q3 _ (by omega) | exact q4 _ (by omega) | exact q5 _ (by omega) | exact vh _ (by omega) | exact (vr _ (by omega)).1 | exact (vr _ (by omega)).2 | exact vw _ (by omega) | exact vf _ (by omega) (by omega)) | rfl) ?_
        refine G_S (pc := 29) f_288_29 rfl rfl rfl ?_
        refine G_ri (pc := 76) f_288_76 ?_
        refine ⟨?_, hQ2⟩
        unfold lvM
        first
          | rw [if_pos b2]
          | rw [if_neg b2, if_pos (by omega)]
          | rw [if_neg b2, if_neg (by omega), if_neg (by omega)]
          | rw [nI_toInt (by omega), Int.toNat_natCast, if_neg (by omega), if_neg (by omega), if_pos (by omega)]
    · exact absurd trivial b1
end MPL
theorem c_leaves {C : Ct} {M : Mm} {n : Nat} {L : Nat → Nat → Nat} {k x : Int32} (W : CFs M n L) : CG C 175 [.ref 0, .int k, .int x] M (fun w M' => w = some (.int (aLin (lin n L k) (zI (-1)) (fun F => lvF F x))) ∧ Fc CS M M') := by
  have hK := W.1
  cases hl : lin n L k with
  | none =>
    refine CG_in (mL := 4) (hl := false) (lv := [some (.ref 0), some (.int k), some (.int x), none]) (ll := []) rfl rfl rfl ?_
    refine G_S (pc := 0) f_175_0 rfl rfl rfl ?_
    refine G_S (pc := 1) f_175_1 rfl rfl rfl ?_
    refine G_CV (pc := 2) f_175_2 rfl rfl (by decide) rfl rfl (by first | assumption | exact hK.1 _ _ rfl) (by decide) ⟨Nat.le_of_ble_eq_true rfl, Nat.le_of_ble_eq_true rfl⟩ ?_
    refine CG.go (c_flowAtN W hl) ?_
    refine G_S (pc := 5) f_175_5 rfl rfl rfl ?_
    refine G_S (pc := 6) f_175_6 rfl rfl rfl ?_
    refine G_S (pc := 7) f_175_7 rfl rfl rfl ?_
    refine G_ic (v := zI (-1)) (pc := 10) f_175_10 (by decide) ?_
    refine G_ri (pc := 11) f_175_11 ?_
    exact ⟨rfl, Fc.rf⟩
  | some F =>
    refine CG_in (mL := 4) (hl := false) (lv := [some (.ref 0), some (.int k), some (.int x), none]) (ll := []) rfl rfl rfl ?_
    refine G_S (pc := 0) f_175_0 rfl rfl rfl ?_
    refine G_S (pc := 1) f_175_1 rfl rfl rfl ?_
    refine G_CV (pc := 2) f_175_2 rfl rfl (by decide) rfl rfl (by first | assumption | exact hK.1 _ _ rfl) (by decide) ⟨Nat.le_of_ble_eq_true rfl, Nat.le_of_ble_eq_true rfl⟩ ?_
    refine CG.mono (c_flowAtS W hl) ?_
    rintro _ M1 ⟨⟨l, hl2, rfl, W1⟩, rfl⟩
    have hK := W1.1
    obtain ⟨⟨t0, t1, t2, t3, t4⟩, r1, r2, r3, r4⟩ := W1.2.1
    obtain ⟨hFO, v0, q1⟩ := W1.2.2.1
    have hg := W1.2.2.2
    have hn1 := hFO.1
    have hc9 := hFO.2
    refine G_S (pc := 5) f_175_5 rfl rfl rfl ?_
    refine G_S (pc := 6) f_175_6 rfl rfl rfl ?_
    refine G_S (pc := 7) f_175_7 rfl rfl (if_pos (by first | assumption | omega)) ?_
    refine G_S (pc := 12) f_175_12 rfl rfl rfl ?_
    refine G_CV (pc := 13) f_175_13 rfl rfl (by decide) rfl rfl (by first | assumption | exact hK.1 _ _ rfl) (by decide) ⟨Nat.le_of_ble_eq_true rfl, Nat.le_of_ble_eq_true rfl⟩ ?_
    refine CG.mono (f_plan W1) ?_
    rintro _ M2 ⟨rfl, hF, W2, hP⟩
    have hK := W2.1
    obtain ⟨⟨t0, t1, t2, t3, t4⟩, r1, r2, r3, r4⟩ := W2.2.1
    obtain ⟨hFO, v0, q1⟩ := W2.2.2.1
    have hg := W2.2.2.2
    have hn1 := hFO.1
    have hc9 := hFO.2
    refine G_S (pc := 16) f_175_16 rfl rfl rfl ?_
    refine G_S (pc := 17) f_175_17 rfl rfl rfl ?_
    refine G_CV (pc := 18) f_175_18 rfl rfl (by decide) rfl rfl (by first | assumption | exact hK.1 _ _ rfl) (by decide) ⟨Nat.le_of_ble_eq_true rfl, Nat.le_of_ble_eq_true rfl⟩ ?_
    refine CG.go (f_planned W2 hP) ?_
    refine G_ri (pc := 21) f_175_21 ?_
    refine ⟨rfl, hF.sub ?_⟩
    rcases (show l = 0 ∨ l = 1 by omega) with rfl | rfl <;> decide
