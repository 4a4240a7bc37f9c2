/-! lines alone: the class's answers, the reference -/
theorem tdiv_neg {x : Int32} (h : x.toInt < 0) : (x / nI 10).toInt ≤ 0 := by
  have h1 := Int32.le_toInt x
  have e10 : (nI 10).toInt = 10 := by decide
  rw [Int32.toInt_div, e10]
  obtain ⟨m, hm⟩ : ∃ m : Nat, x.toInt = -(m : Int) := ⟨x.toInt.natAbs, by omega⟩
  rw [hm, Int.neg_tdiv, Int.tdiv_eq_ediv_of_nonneg (by omega), Int.bmod_eq_of_le (by omega) (by omega)]
  omega
/-- the reference's inner step of a fare -/
def mkI (D t : Nat → Nat) (e : Nat) : Nat → Nat
  | 0 => 16000000
  | i + 1 => min (mkI D t e i) (t i + 16 * D (30 + (e - i)) + 1)
def tk (D : Nat → Nat) (e : Nat) : Nat := tkF D e e
theorem tkF_at {D : Nat → Nat} {n s : Nat} (h : s ≤ n) : tkF D n s = tk D s := by
  induction n with
  | zero => rw [show s = 0 by omega]; rfl
  | succ n ih =>
    by_cases e : s = n + 1
    · subst e
      rfl
    · show (if s = n + 1 then _ else tkF D n s) = _
      rw [if_neg e]
      exact ih (by omega)
theorem tkI_le (D t : Nat → Nat) (n : Nat) : ∀ m j, j < m → 1 ≤ j → tkI D t n m ≤ D (30 + j) * 16 + 1 + t (n - j)
  | 0, j, h, _ => absurd h (by omega)
  | m + 1, j, h, h1 => by
    rw [tkI]
    by_cases e : j = m
    · subst e
      rw [if_neg (by omega)]
      omega
    · have := tkI_le D t n m j (by omega) h1
      rw [if_neg (by omega)]
      omega
theorem tkI_at (D t : Nat → Nat) (n : Nat) : ∀ m, tkI D t n m = D (30 + n) * 16 + 1 ∨ ∃ j, 1 ≤ j ∧ j < m ∧ tkI D t n m = D (30 + j) * 16 + 1 + t (n - j)
  | 0 => Or.inl rfl
  | m + 1 => by
    have ih := tkI_at D t n m
    rw [tkI]
    split
    · exact Or.inl rfl
    · rename_i hm
      rcases Nat.le_total (tkI D t n m) (D (30 + m) * 16 + 1 + t (n - m)) with q | q
      · rw [Nat.min_eq_left q]
        rcases ih with ih | ⟨j, h1, h2, h3⟩
        · exact Or.inl ih
        · exact Or.inr ⟨j, h1, by omega, h3⟩
      · rw [Nat.min_eq_right q]
        exact Or.inr ⟨m, by omega, by omega, rfl⟩
theorem mkI_le (D t : Nat → Nat) (e : Nat) : ∀ m i, i < m → mkI D t e m ≤ t i + 16 * D (30 + (e - i)) + 1
  | 0, i, h => absurd h (by omega)
  | m + 1, i, h => by
    rw [mkI]
    by_cases q : i = m
    · subst q
      omega
    · have := mkI_le D t e m i (by omega)
      omega
theorem mkI_at (D t : Nat → Nat) (e : Nat) : ∀ m, mkI D t e m = 16000000 ∨ ∃ i, i < m ∧ mkI D t e m = t i + 16 * D (30 + (e - i)) + 1
  | 0 => Or.inl rfl
  | m + 1 => by
    have ih := mkI_at D t e m
    rw [mkI]
    rcases Nat.le_total (mkI D t e m) (t m + 16 * D (30 + (e - m)) + 1) with q | q
    · rw [Nat.min_eq_left q]
      rcases ih with ih | ⟨i, h1, h2⟩
      · exact Or.inl ih
      · exact Or.inr ⟨i, by omega, h2⟩
    · rw [Nat.min_eq_right q]
      exact Or.inr ⟨m, by omega, rfl⟩
theorem tk_le {D : Nat → Nat} (hD : DOK D) {e : Nat} (he : e ≤ 8) : tk D e ≤ 1585 := tkF_le hD e he e
theorem tk_v {D : Nat → Nat} {n : Nat} : tk D (n + 1) = tkI D (tkF D n) (n + 1) (n + 1) := by
  show (if n + 1 = n + 1 then _ else _) = _
  rw [if_pos rfl]
theorem tk_mk {D : Nat → Nat} (hD : DOK D) {e : Nat} (h1 : 1 ≤ e) (h8 : e ≤ 8) : mkI D (tk D) e e = tk D e := by
  obtain ⟨n, rfl⟩ : ∃ n, e = n + 1 := ⟨e - 1, by omega⟩
  rw [tk_v]
  have hf : ∀ j, 1 ≤ j → j ≤ 8 → D (30 + j) ≤ 99 := fun j a b => by
    have := hD.2.2.2.2.2.2.2 (j - 1) (by omega)
    rwa [show 31 + (j - 1) = 30 + j by omega] at this
  have h0 : tk D 0 = 0 := rfl
  apply Nat.le_antisymm
  · rcases tkI_at D (tkF D n) (n + 1) (n + 1) with q | ⟨j, g1, g2, g3⟩
    · rw [q]
      have := mkI_le D (tk D) (n + 1) (n + 1) 0 (by omega)
      rw [h0, Nat.sub_zero] at this
      omega
    · rw [g3, tkF_at (by omega)]
      have := mkI_le D (tk D) (n + 1) (n + 1) (n + 1 - j) (by omega)
      rw [show n + 1 - (n + 1 - j) = j by omega] at this
      omega
  · rcases mkI_at D (tk D) (n + 1) (n + 1) with q | ⟨i, g1, g2⟩
    · rw [q]
      have := tkI_le0 D (tkF D n) (n + 1) (n + 1)
      have := hf (n + 1) (by omega) h8
      omega
    · rw [g2]
      by_cases hi : i = 0
      · subst hi
        have := tkI_le0 D (tkF D n) (n + 1) (n + 1)
        rw [h0, Nat.sub_zero]
        omega
      · have := tkI_le D (tkF D n) (n + 1) (n + 1) (n + 1 - i) (by omega) (by omega)
        rw [show n + 1 - (n + 1 - i) = i by omega, tkF_at (by omega)] at this
        omega
theorem tk_mod {D : Nat → Nat} (hD : DOK D) : ∀ e, e ≤ 8 → tk D e % 16 ≤ e := by
  intro e
  induction e using Nat.strongRecOn with
  | ind e ih =>
    intro he
    by_cases h0 : e = 0
    · subst h0
      exact Nat.le_refl 0
    · have h := tk_mk hD (e := e) (by omega) he
      have hb := tk_le hD he
      rcases mkI_at D (tk D) e e with q | ⟨i, g1, g2⟩
      · omega
      · have := ih i g1 (by omega)
        omega
def fareF (D : Nat → Nat) (f t x : Int32) : Int32 := if (0 ≤ f.toInt ∧ f.toInt < t.toInt) ∧ t.toInt ≤ (D 0 : Int) then (if x.toInt = 0 then nI (tk D (t.toInt.toNat - f.toInt.toNat) / 16) else if x.toInt = 1 then nI (tk D (t.toInt.toNat - f.toInt.toNat) % 16) else if x.toInt = 2 then nI (loF D f.toInt.toNat t.toInt.toNat (D 0 - t.toInt.toNat)) else zI (-1)) else zI (-1)
theorem fareF_o {D : Nat → Nat} {f t x : Int32} (h : ¬ ((0 ≤ f.toInt ∧ f.toInt < t.toInt) ∧ t.toInt ≤ (D 0 : Int)) ∨ (x.toInt < 0 ∨ 2 < x.toInt)) : fareF D f t x = zI (-1) := by
  unfold fareF
  split
  · rw [if_neg (by omega), if_neg (by omega), if_neg (by omega)]
  · rfl
theorem fareF_i {D : Nat → Nat} {x : Int32} {a b : Nat} (h1 : a < b) (h2 : b ≤ D 0) (h3 : D 0 ≤ 8) : fareF D (nI a) (nI b) x = (if x.toInt = 0 then nI (tk D (b - a) / 16) else if x.toInt = 1 then nI (tk D (b - a) % 16) else if x.toInt = 2 then nI (loF D a b (D 0 - b)) else zI (-1)) := by
  unfold fareF
  rw [nI_toInt (by omega), nI_toInt (by omega), if_pos (by omega), Int.toNat_natCast, Int.toNat_natCast]
section LNT
variable {C : Ct} {M : Mm} {n l h : Nat} {L : Nat → Nat → Nat} {k x f t : Int32} {D : Nat → Nat}
theorem c_lineAtS2 (W : CLs M n L) (hl : lin n L k = some D) : CG C 178 [.ref 0, .int k] M (fun w M' => (∃ l : Nat, l < 2 ∧ w = some (.ref (8 + 22 * l)) ∧ LW M (8 + 22 * l) D) ∧ M' = M) := by
  have hn := W.2.2.1
  obtain ⟨l, h1, rfl, rfl⟩ := lin_some hl
  refine CG.mono (c_lineAt1 W.1 W.2.1 W.2.2.1 h1) ?_
  rintro w M' ⟨rfl, rfl⟩
  exact ⟨⟨l, by omega, rfl, W.2.2.2 l h1⟩, rfl⟩
theorem c_line (W : CLs M n L) : CG C 152 [.ref 0, .int k, .int x] M (fun w M' => w = some (.int (aLin (lin n L k) (zI (-1)) (fun D => lnF D x))) ∧ Fc CS M M') := by
  have hK := W.1
  cases hl : lin n L k with
  | none =>
    refine CG_in (mL := 4) (hl := false) (lv := [some (.ref 0), some (.int k), some (.int x), none]) (ll := []) rfl rfl rfl ?_
    refine G_S (pc := 0) f_152_0 rfl rfl rfl ?_
    refine G_S (pc := 1) f_152_1 rfl rfl rfl ?_
    refine G_CV (pc := 2) f_152_2 rfl rfl (by decide) rfl rfl (by first | assumption | exact hK.1 _ _ rfl) (by decide) ⟨Nat.le_of_ble_eq_true rfl, Nat.le_of_ble_eq_true rfl⟩ ?_
    refine CG.go (c_lineAtN W hl) ?_
    refine G_S (pc := 5) f_152_5 rfl rfl rfl ?_
    refine G_S (pc := 6) f_152_6 rfl rfl rfl ?_
    refine G_S (pc := 7) f_152_7 rfl rfl rfl ?_
    refine G_ic (v := zI (-1)) (pc := 10) f_152_10 (by decide) ?_
    refine G_S (pc := 11) f_152_11 rfl rfl rfl ?_
    refine G_ri (pc := 19) f_152_19 ?_
    exact ⟨rfl, Fc.rf⟩
  | some D =>
    refine CG_in (mL := 4) (hl := false) (lv := [some (.ref 0), some (.int k), some (.int x), none]) (ll := []) rfl rfl rfl ?_
    refine G_S (pc := 0) f_152_0 rfl rfl rfl ?_
    refine G_S (pc := 1) f_152_1 rfl rfl rfl ?_
    refine G_CV (pc := 2) f_152_2 rfl rfl (by decide) rfl rfl (by first | assumption | exact hK.1 _ _ rfl) (by decide) ⟨Nat.le_of_ble_eq_true rfl, Nat.le_of_ble_eq_true rfl⟩ ?_
    refine CG.mono (c_lineAtS W hl) ?_
    rintro _ M1 ⟨⟨h, rfl, W1⟩, rfl⟩
    have hK := W1.1
    obtain ⟨⟨t0, t1, t2, t3, t4, t5, t6⟩, r0, r3, r4, r6, r7, r8⟩ := W1.2.1
    obtain ⟨hD, ⟨v0, v1, v2⟩, vh, vr, vw, vf⟩ := W1.2.2.1
    have hs := W1.2.2.2.1
    have hh := W1.2.2.2.2
    have hn0 : _ ≤ 8 := hD.1
    have hn1 : _ ≤ 6 := hD.2.1.2
    have hn2 : _ ≤ 8 := hD.2.2.1
    refine G_S (pc := 5) f_152_5 rfl rfl rfl ?_
    refine G_S (pc := 6) f_152_6 rfl rfl rfl ?_
    refine G_S (pc := 7) f_152_7 rfl rfl (if_pos (by first | assumption | omega)) ?_
    refine G_S (pc := 14) f_152_14 rfl rfl rfl ?_
    refine G_S (pc := 15) f_152_15 rfl rfl rfl ?_
    refine G_CV (pc := 16) f_152_16 rfl rfl (by decide) rfl rfl (by first | assumption | exact hK.1 _ _ rfl) (by decide) ⟨Nat.le_of_ble_eq_true rfl, Nat.le_of_ble_eq_true rfl⟩ ?_
    refine CG.go (c_answer W1) ?_
    refine G_ri (pc := 19) f_152_19 ?_
    exact ⟨rfl, Fc.rf⟩
theorem c_route (W : CLs M n L) : CG C 158 [.ref 0, .int k, .int x] M (fun w M' => w = some (.int (aLin (lin n L k) (zI (-1)) (fun D => oI (leastF (rtB D x) (D 0) 0)))) ∧ Fc CS M M') := by
  have hK := W.1
  cases hl : lin n L k with
  | none =>
    refine CG_in (mL := 4) (hl := false) (lv := [some (.ref 0), some (.int k), some (.int x), none]) (ll := []) rfl rfl rfl ?_
    refine G_S (pc := 0) f_158_0 rfl rfl rfl ?_
    refine G_S (pc := 1) f_158_1 rfl rfl rfl ?_
    refine G_CV (pc := 2) f_158_2 rfl rfl (by decide) rfl rfl (by first | assumption | exact hK.1 _ _ rfl) (by decide) ⟨Nat.le_of_ble_eq_true rfl, Nat.le_of_ble_eq_true rfl⟩ ?_
    refine CG.go (c_lineAtN W hl) ?_
    refine G_S (pc := 5) f_158_5 rfl rfl rfl ?_
    refine G_S (pc := 6) f_158_6 rfl rfl rfl ?_
    refine G_S (pc := 7) f_158_7 rfl rfl rfl ?_
    refine G_ic (v := zI (-1)) (pc := 10) f_158_10 (by decide) ?_
    refine G_S (pc := 11) f_158_11 rfl rfl rfl ?_
    refine G_ri (pc := 19) f_158_19 ?_
    exact ⟨rfl, Fc.rf⟩
  | some D =>
    refine CG_in (mL := 4) (hl := false) (lv := [some (.ref 0), some (.int k), some (.int x), none]) (ll := []) rfl rfl rfl ?_
    refine G_S (pc := 0) f_158_0 rfl rfl rfl ?_
    refine G_S (pc := 1) f_158_1 rfl rfl rfl ?_
    refine G_CV (pc := 2) f_158_2 rfl rfl (by decide) rfl rfl (by first | assumption | exact hK.1 _ _ rfl) (by decide) ⟨Nat.le_of_ble_eq_true rfl, Nat.le_of_ble_eq_true rfl⟩ ?_
    refine CG.mono (c_lineAtS W hl) ?_
    rintro _ M1 ⟨⟨h, rfl, W1⟩, rfl⟩
    have hK := W1.1
    obtain ⟨⟨t0, t1, t2, t3, t4, t5, t6⟩, r0, r3, r4, r6, r7, r8⟩ := W1.2.1
    obtain ⟨hD, ⟨v0, v1, v2⟩, vh, vr, vw, vf⟩ := W1.2.2.1
    have hs := W1.2.2.2.1
    have hh := W1.2.2.2.2
    have hn0 : _ ≤ 8 := hD.1
    have hn1 : _ ≤ 6 := hD.2.1.2
    have hn2 : _ ≤ 8 := hD.2.2.1
    refine G_S (pc := 5) f_158_5 rfl rfl rfl ?_
    refine G_S (pc := 6) f_158_6 rfl rfl rfl ?_
    refine G_S (pc := 7) f_158_7 rfl rfl (if_pos (by first | assumption | omega)) ?_
    refine G_S (pc := 14) f_158_14 rfl rfl rfl ?_
    refine G_S (pc := 15) f_158_15 rfl rfl rfl ?_
    refine G_CV (pc := 16) f_158_16 rfl rfl (by decide) rfl rfl (by first | assumption | exact hK.1 _ _ rfl) (by decide) ⟨Nat.le_of_ble_eq_true rfl, Nat.le_of_ble_eq_true rfl⟩ ?_
    refine CG.go (c_byHeight W1) ?_
    refine G_ri (pc := 19) f_158_19 ?_
    exact ⟨rfl, Fc.rf⟩
theorem c_fare (W : CLs M n L) : CG C 157 [.ref 0, .int k, .int f, .int t, .int x] M (fun w M' => w = some (.int (aLin (lin n L k) (zI (-1)) (fun D => fareF D f t x))) ∧ Fc CS M M') := by
  have hK := W.1
  cases hl : lin n L k with
  | none =>
    refine CG_in (mL := 6) (hl := false) (lv := [some (.ref 0), some (.int k), some (.int f), some (.int t), some (.int x), none]) (ll := []) rfl rfl rfl ?_
    refine G_S (pc := 0) f_157_0 rfl rfl rfl ?_
    refine G_S (pc := 1) f_157_1 rfl rfl rfl ?_
    refine G_CV (pc := 2) f_157_2 rfl rfl (by decide) rfl rfl (by first | assumption | exact hK.1 _ _ rfl) (by decide) ⟨Nat.le_of_ble_eq_true rfl, Nat.le_of_ble_eq_true rfl⟩ ?_
    refine CG.go (c_lineAtN W hl) ?_
    refine G_S (pc := 5) f_157_5 rfl rfl rfl ?_
    refine G_S (pc := 7) f_157_7 rfl rfl rfl ?_
    refine G_S (pc := 9) f_157_9 rfl rfl rfl ?_
    refine G_ic (v := zI (-1)) (pc := 30) f_157_30 (by decide) ?_
    refine G_ri (pc := 31) f_157_31 ?_
    exact ⟨rfl, Fc.rf⟩
  | some D =>
    show CG C 157 [.ref 0, .int k, .int f, .int t, .int x] M (fun w M' => w = some (.int (fareF D f t x)) ∧ Fc CS M M')
    by_cases hc : (0 ≤ f.toInt ∧ f.toInt < t.toInt) ∧ t.toInt ≤ (D 0 : Int)
    · obtain ⟨b, hb, rfl⟩ := i_nat (x := t) (n := D 0 + 1) (by omega) (by omega)
      obtain ⟨a, ha, rfl⟩ := i_nat (x := f) (n := D 0 + 1) (by omega) (by omega)
      refine CG_in (mL := 6) (hl := false) (lv := [some (.ref 0), some (.int k), some (.int (nI a)), some (.int (nI b)), some (.int x), none]) (ll := []) rfl rfl rfl ?_
      refine G_S (pc := 0) f_157_0 rfl rfl rfl ?_
      refine G_S (pc := 1) f_157_1 rfl rfl rfl ?_
      refine G_CV (pc := 2) f_157_2 rfl rfl (by decide) rfl rfl (by first | assumption | exact hK.1 _ _ rfl) (by decide) ⟨Nat.le_of_ble_eq_true rfl, Nat.le_of_ble_eq_true rfl⟩ ?_
      refine CG.mono (c_lineAtS2 W hl) ?_
      rintro _ M1 ⟨⟨l, hl2, rfl, W1⟩, rfl⟩
      have hK := W1.1
      obtain ⟨⟨t0, t1, t2, t3, t4, t5, t6⟩, r0, r3, r4, r6, r7, r8⟩ := W1.2.1
      obtain ⟨hD, ⟨v0, v1, v2⟩, vh, vr, vw, vf⟩ := W1.2.2.1
      have hs := W1.2.2.2.1
      have hh := W1.2.2.2.2
      have hn0 : _ ≤ 8 := hD.1
      have hn1 : _ ≤ 6 := hD.2.1.2
      have hn2 : _ ≤ 8 := hD.2.2.1
      rw [nI_toInt (by omega), nI_toInt (by omega)] at hc
      have hsub : ∀ i, i ∈ [8 + 22 * l + 6] → i ∈ CS := by
        rcases (show l = 0 ∨ l = 1 by omega) with rfl | rfl <;> decide
      have ht := tk_le hD (e := b - a) (by omega)
      refine G_S (pc := 5) f_157_5 rfl rfl rfl ?_
      refine G_S (pc := 7) f_157_7 rfl rfl rfl ?_
      refine G_S (pc := 9) f_157_9 rfl rfl (if_pos (by first | assumption | omega)) ?_
      refine G_S (pc := 12) f_157_12 rfl rfl rfl ?_
      refine G_zltZ (pc := 13) f_157_13 rfl (by first | exact nI_toInt (by omega) | exact zI_toInt (by omega) (by omega) | rfl) (fun b2 => ?_) (fun b2 => ?_)
      · exfalso; omega
      · refine G_S (pc := 16) f_157_16 rfl rfl rfl ?_
        refine G_S (pc := 17) f_157_17 rfl rfl rfl ?_
        refine G_jleZ (pc := 18) f_157_18 rfl (by first | exact nI_toInt (by omega) | exact zI_toInt (by omega) (by omega) | rfl) (by first | exact nI_toInt (by omega) | exact zI_toInt (by omega) (by omega) | rfl) (fun b3 => ?_) (fun b3 => ?_)
        · exfalso; omega
        · refine G_S (pc := 21) f_157_21 rfl rfl rfl ?_
          refine G_S (pc := 22) f_157_22 rfl rfl rfl ?_
          refine G_gIv (pc := 24) f_157_24 (by decide) rfl (by decide) (by first | assumption | exact hK.1 _ _ rfl) (by first | assumption | (try dsimp only) <;> (repeat (first | exact up2_s | refine up2_o (by first | decide | omega) ?_)) <;> first | assumption | rfl) ?_
          refine G_jleZ (pc := 27) f_157_27 rfl (by first | exact nI_toInt (by omega) | exact zI_toInt (by omega) (by omega) | rfl) (by first | exact nI_toInt (by omega) | exact zI_toInt (by omega) (by omega) | rfl) (fun b4 => ?_) (fun b4 => ?_)
          · refine G_S (pc := 32) f_157_32 rfl rfl rfl ?_
            rcases sw3 x with rfl | rfl | rfl | hw
            · refine G_S (pc := 34) f_157_34 rfl rfl rfl ?_
              refine G_S (pc := 60) f_157_60 rfl rfl rfl ?_
              refine G_S (pc := 62) f_157_62 rfl rfl rfl ?_
              refine G_S (pc := 63) f_157_63 rfl rfl rfl ?_
              first | refine G_subN (pc := 64) f_157_64 (by omega) ?_ | refine G_subZ (pc := 64) f_157_64 (by first | rfl | exact nI_zI _) (by first | rfl | exact nI_zI _) ?_ | refine G_S (pc := 64) f_157_64 rfl rfl rfl ?_
              refine G_CV (pc := 65) f_157_65 rfl rfl (by decide) rfl rfl (by first | assumption | exact hK.1 _ _ rfl) (by decide) ⟨Nat.le_of_ble_eq_true rfl, Nat.le_of_ble_eq_true rfl⟩ ?_
              refine CG.mono (c_cheapest W1 (by omega)) ?_
              rintro _ M2 ⟨rfl, hF⟩
              change tkF D (b - a) (b - a) ≤ _ at ht
              refine G_bi (v := nI 16) (pc := 68) f_157_68 (by decide) ?_
              refine G_divN (pc := 70) f_157_70 (by omega) (by omega) (by omega) ?_
              refine G_ri (pc := 71) f_157_71 ?_
              rw [fareF_i (by omega) (by omega) (by omega)]
              first
                | exact ⟨rfl, hF.sub hsub⟩
                | exact ⟨rfl, Fc.rf⟩
                | (rw [if_neg (by omega), if_neg (by omega), if_neg (by omega)]
                   exact ⟨rfl, Fc.rf⟩)
            · refine G_S (pc := 34) f_157_34 rfl rfl rfl ?_
              refine G_S (pc := 72) f_157_72 rfl rfl rfl ?_
              refine G_S (pc := 74) f_157_74 rfl rfl rfl ?_
              refine G_S (pc := 75) f_157_75 rfl rfl rfl ?_
              first | refine G_subN (pc := 76) f_157_76 (by omega) ?_ | refine G_subZ (pc := 76) f_157_76 (by first | rfl | exact nI_zI _) (by first | rfl | exact nI_zI _) ?_ | refine G_S (pc := 76) f_157_76 rfl rfl rfl ?_
              refine G_CV (pc := 77) f_157_77 rfl rfl (by decide) rfl rfl (by first | assumption | exact hK.1 _ _ rfl) (by decide) ⟨Nat.le_of_ble_eq_true rfl, Nat.le_of_ble_eq_true rfl⟩ ?_
              refine CG.mono (c_cheapest W1 (by omega)) ?_
              rintro _ M2 ⟨rfl, hF⟩
              change tkF D (b - a) (b - a) ≤ _ at ht
              refine G_bi (v := nI 16) (pc := 80) f_157_80 (by decide) ?_
              refine G_remN (pc := 82) f_157_82 (by omega) (by omega) (by omega) ?_
              refine G_ri (pc := 83) f_157_83 ?_
              rw [fareF_i (by omega) (by omega) (by omega)]
              first
                | exact ⟨rfl, hF.sub hsub⟩
                | exact ⟨rfl, Fc.rf⟩
                | (rw [if_neg (by omega), if_neg (by omega), if_neg (by omega)]
                   exact ⟨rfl, Fc.rf⟩)
            · refine G_S (pc := 34) f_157_34 rfl rfl rfl ?_
              refine G_S (pc := 84) f_157_84 rfl rfl rfl ?_
              refine G_S (pc := 86) f_157_86 rfl rfl rfl ?_
              refine G_S (pc := 87) f_157_87 rfl rfl rfl ?_
              refine G_CV (pc := 88) f_157_88 rfl rfl (by decide) rfl rfl (by first | assumption | exact hK.1 _ _ rfl) (by decide) ⟨Nat.le_of_ble_eq_true rfl, Nat.le_of_ble_eq_true rfl⟩ ?_
              refine CG.go (c_loophole W1 (by omega) (by omega)) ?_
              refine G_ri (pc := 91) f_157_91 ?_
              rw [fareF_i (by omega) (by omega) (by omega)]
              first
                | exact ⟨rfl, hF.sub hsub⟩
                | exact ⟨rfl, Fc.rf⟩
                | (rw [if_neg (by omega), if_neg (by omega), if_neg (by omega)]
                   exact ⟨rfl, Fc.rf⟩)
            · refine G_tsO (pc := 34) f_157_34 rfl (hw) ?_
              refine G_ic (v := zI (-1)) (pc := 92) f_157_92 (by decide) ?_
              refine G_ri (pc := 93) f_157_93 ?_
              rw [fareF_i (by omega) (by omega) (by omega)]
              first
                | exact ⟨rfl, hF.sub hsub⟩
                | exact ⟨rfl, Fc.rf⟩
                | (rw [if_neg (by omega), if_neg (by omega), if_neg (by omega)]
                   exact ⟨rfl, Fc.rf⟩)
          · exfalso; omega
    · refine CG_in (mL := 6) (hl := false) (lv := [some (.ref 0), some (.int k), some (.int f), some (.int t), some (.int x), none]) (ll := []) rfl rfl rfl ?_
      refine G_S (pc := 0) f_157_0 rfl rfl rfl ?_
      refine G_S (pc := 1) f_157_1 rfl rfl rfl ?_
      refine G_CV (pc := 2) f_157_2 rfl rfl (by decide) rfl rfl (by first | assumption | exact hK.1 _ _ rfl) (by decide) ⟨Nat.le_of_ble_eq_true rfl, Nat.le_of_ble_eq_true rfl⟩ ?_
      refine CG.mono (c_lineAtS W hl) ?_
      rintro _ M1 ⟨⟨h, rfl, W1⟩, rfl⟩
      have hK := W1.1
      obtain ⟨⟨t0, t1, t2, t3, t4, t5, t6⟩, r0, r3, r4, r6, r7, r8⟩ := W1.2.1
      obtain ⟨hD, ⟨v0, v1, v2⟩, vh, vr, vw, vf⟩ := W1.2.2.1
      have hs := W1.2.2.2.1
      have hh := W1.2.2.2.2
      have hn0 : _ ≤ 8 := hD.1
      have hn1 : _ ≤ 6 := hD.2.1.2
      have hn2 : _ ≤ 8 := hD.2.2.1
      refine G_S (pc := 5) f_157_5 rfl rfl rfl ?_
      refine G_S (pc := 7) f_157_7 rfl rfl rfl ?_
      refine G_S (pc := 9) f_157_9 rfl rfl (if_pos (by first | assumption | omega)) ?_
      refine G_S (pc := 12) f_157_12 rfl rfl rfl ?_
      refine G_zltZ (pc := 13) f_157_13 rfl (by first | exact nI_toInt (by omega) | exact zI_toInt (by omega) (by omega) | rfl) (fun b2 => ?_) (fun b2 => ?_)
      · refine G_ic (v := zI (-1)) (pc := 30) f_157_30 (by decide) ?_
        refine G_ri (pc := 31) f_157_31 ?_
        exact ⟨by rw [fareF_o (Or.inl hc)], Fc.rf⟩
      · refine G_S (pc := 16) f_157_16 rfl rfl rfl ?_
        refine G_S (pc := 17) f_157_17 rfl rfl rfl ?_
        refine G_jleZ (pc := 18) f_157_18 rfl (by first | exact nI_toInt (by omega) | exact zI_toInt (by omega) (by omega) | rfl) (by first | exact nI_toInt (by omega) | exact zI_toInt (by omega) (by omega) | rfl) (fun b3 => ?_) (fun b3 => ?_)
        · refine G_ic (v := zI (-1)) (pc := 30) f_157_30 (by decide) ?_
          refine G_ri (pc := 31) f_157_31 ?_
          exact ⟨by rw [fareF_o (Or.inl hc)], Fc.rf⟩
        · refine G_S (pc := 21) f_157_21 rfl rfl rfl ?_
          refine G_S (pc := 22) f_157_22 rfl rfl rfl ?_
          refine G_gIv (pc := 24) f_157_24 (by decide) rfl (by decide) (by first | assumption | exact hK.1 _ _ rfl) (by first | assumption | (try dsimp only) <;> (repeat (first | exact up2_s | refine up2_o (by first | decide | omega) ?_)) <;> first | assumption | rfl) ?_
          refine G_jleZ (pc := 27) f_157_27 rfl (by first | exact nI_toInt (by omega) | exact zI_toInt (by omega) (by omega) | rfl) (by first | exact nI_toInt (by omega) | exact zI_toInt (by omega) (by omega) | rfl) (fun b4 => ?_) (fun b4 => ?_)
          · exfalso; omega
          · refine G_ic (v := zI (-1)) (pc := 30) f_157_30 (by decide) ?_
            refine G_ri (pc := 31) f_157_31 ?_
            exact ⟨by rw [fareF_o (Or.inl hc)], Fc.rf⟩
theorem g_line (W : MLs M n L) : CG C 229 [.ref 98, .int k, .int x] M (fun w M' => w = some (.int (aLin (lin n L k) (zI (-1)) (fun D => lnF D x))) ∧ mQ M M') := by
  have hK := W.1
  cases hl : lin n L k with
  | none =>
    refine CG_in (mL := 4) (hl := false) (lv := [some (.ref 98), some (.int k), some (.int x), none]) (ll := []) rfl rfl rfl ?_
    refine G_S (pc := 0) f_229_0 rfl rfl rfl ?_
    refine G_ic (v := nI 0) (pc := 1) f_229_1 (by decide) ?_
    refine G_pI (pc := 2) f_229_2 rfl (by first | assumption | exact hK.1 _ _ rfl) ?_
    refine G_S (pc := 5) f_229_5 rfl rfl rfl ?_
    refine G_S (pc := 6) f_229_6 rfl rfl rfl ?_
    refine G_CV (pc := 7) f_229_7 rfl rfl (by decide) rfl rfl (by first | assumption | exact hK.1 _ _ rfl) (by decide) ⟨Nat.le_of_ble_eq_true rfl, Nat.le_of_ble_eq_true rfl⟩ ?_
    refine CG.go (g_handN (W.q mQ.cod) hl) ?_
    first | refine G_bNe (pc := 10) f_229_10 rfl (fun b1 => ?_) (fun b1 => ?_) | refine G_zneZ (pc := 10) f_229_10 rfl (by first | exact nI_toInt (by omega) | exact zI_toInt (by omega) (by omega) | rfl) (fun b1 => ?_) (fun b1 => ?_)
    · exact absurd b1 id
    · refine G_ic (v := zI (-1)) (pc := 13) f_229_13 (by decide) ?_
      refine G_ri (pc := 14) f_229_14 ?_
      exact ⟨rfl, mQ.cod⟩
  | some D =>
    show CG C 229 [.ref 98, .int k, .int x] M (fun w M' => w = some (.int (lnF D x)) ∧ mQ M M')
    by_cases hx : x.toInt < 0
    · have hd := tdiv_neg hx
      refine CG_in (mL := 4) (hl := false) (lv := [some (.ref 98), some (.int k), some (.int x), none]) (ll := []) rfl rfl rfl ?_
      refine G_S (pc := 0) f_229_0 rfl rfl rfl ?_
      refine G_ic (v := nI 0) (pc := 1) f_229_1 (by decide) ?_
      refine G_pI (pc := 2) f_229_2 rfl (by first | assumption | exact hK.1 _ _ rfl) ?_
      refine G_S (pc := 5) f_229_5 rfl rfl rfl ?_
      refine G_S (pc := 6) f_229_6 rfl rfl rfl ?_
      refine G_CV (pc := 7) f_229_7 rfl rfl (by decide) rfl rfl (by first | assumption | exact hK.1 _ _ rfl) (by decide) ⟨Nat.le_of_ble_eq_true rfl, Nat.le_of_ble_eq_true rfl⟩ ?_
      refine CG.mono (g_handS (W.q mQ.cod) hl) ?_
      rintro _ M1 ⟨rfl, hQ, l, W1⟩
      have hK := W1.1
      have hH := W1.2
      obtain ⟨⟨a0, a1, a2, a3⟩, hl8, hD, ao⟩ := W1.2
      have hn0 : _ ≤ 8 := hD.1
      have hn1 : _ ≤ 6 := hD.2.1.2
      have hn2 : _ ≤ 8 := hD.2.2.1
      first | refine G_bNe (pc := 10) f_229_10 rfl (fun b1 => ?_) (fun b1 => ?_) | refine G_zneZ (pc := 10) f_229_10 rfl (by first | exact nI_toInt (by omega) | exact zI_toInt (by omega) (by omega) | rfl) (fun b1 => ?_) (fun b1 => ?_)
      · refine G_S (pc := 15) f_229_15 rfl rfl rfl ?_
        refine G_bi (v := nI 10) (pc := 16) f_229_16 (by decide) ?_
        refine G_rem (pc := 18) f_229_18 (by decide) ?_
        refine G_S (pc := 19) f_229_19 rfl rfl rfl ?_
        refine G_S (pc := 20) f_229_20 rfl rfl rfl ?_
        refine G_bi (v := nI 10) (pc := 21) f_229_21 (by decide) ?_
        refine G_div (pc := 23) f_229_23 (by decide) ?_
        skip
        · refine G_tsO (pc := 24) f_229_24 rfl ((Or.inl (by omega))) ?_
          refine G_S (pc := 195) f_229_195 rfl rfl rfl ?_
          refine G_ic (v := nI 0) (pc := 196) f_229_196 (by decide) ?_
          refine G_ic (v := nI 2) (pc := 197) f_229_197 (by decide) ?_
          refine G_CS (pc := 198) f_229_198 rfl rfl (by decide) rfl rfl ⟨Nat.le_of_ble_eq_true rfl, Nat.le_of_ble_eq_true rfl⟩ ?_
          refine CG.go (m_inZ (by first | exact nI_toInt (by omega) | exact zI_toInt (by omega) (by omega) | rfl) (by first | exact nI_toInt (by omega) | exact zI_toInt (by omega) (by omega) | rfl) (by first | exact nI_toInt (by omega) | exact zI_toInt (by omega) (by omega) | rfl)) ?_
          first | refine G_bEq (pc := 201) f_229_201 rfl (fun b8 => ?_) (fun b8 => ?_) | refine G_zeqZ (pc := 201) f_229_201 rfl (by first | exact nI_toInt (by omega) | exact zI_toInt (by omega) (by omega) | rfl) (fun b8 => ?_) (fun b8 => ?_)
          · refine G_ic (v := zI (-1)) (pc := 212) f_229_212 (by decide) ?_
            refine G_ri (pc := 213) f_229_213 ?_
            refine ⟨?_, mQ.cod.tr hQ⟩
            unfold lnF
            rw [if_pos hx]
          · exfalso; omega
      · exact absurd trivial b1
    · obtain ⟨c, hc, rfl⟩ := i_nat (x := x) (n := 2 ^ 31) (by omega) (Int32.toInt_lt x)
      refine CG_in (mL := 4) (hl := false) (lv := [some (.ref 98), some (.int k), some (.int (nI c)), none]) (ll := []) rfl rfl rfl ?_
      have e10 : c / 10 < 2 ^ 31 := by omega
      refine G_S (pc := 0) f_229_0 rfl rfl rfl ?_
      refine G_ic (v := nI 0) (pc := 1) f_229_1 (by decide) ?_
      refine G_pI (pc := 2) f_229_2 rfl (by first | assumption | exact hK.1 _ _ rfl) ?_
      refine G_S (pc := 5) f_229_5 rfl rfl rfl ?_
      refine G_S (pc := 6) f_229_6 rfl rfl rfl ?_
      refine G_CV (pc := 7) f_229_7 rfl rfl (by decide) rfl rfl (by first | assumption | exact hK.1 _ _ rfl) (by decide) ⟨Nat.le_of_ble_eq_true rfl, Nat.le_of_ble_eq_true rfl⟩ ?_
      refine CG.mono (g_handS (W.q mQ.cod) hl) ?_
      rintro _ M1 ⟨rfl, hQ, l, W1⟩
      have hK := W1.1
      have hH := W1.2
      obtain ⟨⟨a0, a1, a2, a3⟩, hl8, hD, ao⟩ := W1.2
      have hn0 : _ ≤ 8 := hD.1
      have hn1 : _ ≤ 6 := hD.2.1.2
      have hn2 : _ ≤ 8 := hD.2.2.1
      have ho : c % 10 < 8 → D (19 + c % 10) ≤ 60 := fun q => hD.2.2.2.2.2.1 _ q
      first | refine G_bNe (pc := 10) f_229_10 rfl (fun b1 => ?_) (fun b1 => ?_) | refine G_zneZ (pc := 10) f_229_10 rfl (by first | exact nI_toInt (by omega) | exact zI_toInt (by omega) (by omega) | rfl) (fun b1 => ?_) (fun b1 => ?_)
      · refine G_S (pc := 15) f_229_15 rfl rfl rfl ?_
        refine G_bi (v := nI 10) (pc := 16) f_229_16 (by decide) ?_
        refine G_remN (pc := 18) f_229_18 (by omega) (by omega) (by omega) ?_
        refine G_S (pc := 19) f_229_19 rfl rfl rfl ?_
        refine G_S (pc := 20) f_229_20 rfl rfl rfl ?_
        refine G_bi (v := nI 10) (pc := 21) f_229_21 (by decide) ?_
        refine G_divN (pc := 23) f_229_23 (by omega) (by omega) (by omega) ?_
        generalize hp : c / 10 = p at e10
        generalize hk : c % 10 = k1 at ho
        have hk1 : k1 < 10 := by omega
        rcases sw16 p with rfl | rfl | rfl | rfl | rfl | rfl | hw
        · refine G_S (pc := 24) f_229_24 rfl rfl rfl ?_
          refine G_S (pc := 64) f_229_64 rfl rfl rfl ?_
          refine G_S (pc := 65) f_229_65 rfl rfl rfl ?_
          refine G_gIv (pc := 66) f_229_66 (by decide) rfl (by decide) (by first | assumption | exact hK.1 _ _ rfl) (by first | assumption | (try dsimp only) <;> (repeat (first | exact up2_s | refine up2_o (by first | decide | omega) ?_)) <;> first | assumption | rfl) ?_
          refine G_jgeZ (pc := 69) f_229_69 rfl (by first | exact nI_toInt (by omega) | exact zI_toInt (by omega) (by omega) | rfl) (by first | exact nI_toInt (by omega) | exact zI_toInt (by omega) (by omega) | rfl) (fun b2 => ?_) (fun b2 => ?_)
          · refine G_ic (v := zI (-1)) (pc := 82) f_229_82 (by decide) ?_
            refine G_ri (pc := 83) f_229_83 ?_
            refine ⟨?_, mQ.cod.tr hQ⟩
            congr 2
            unfold lnF
            rw [nI_toInt hc, if_neg (by omega), Int.toNat_natCast, hp, hk]
            first
              | (rcases hw with hw | hw
                 · rw [if_pos (show (c : Int) < 10 by omega)]
                   first
                     | rw [if_pos (by omega)]
                     | rw [if_neg (by omega)]
                 · rw [if_neg (show ¬ (c : Int) < 10 by omega)]
                   unfold lnP
                   rw [if_neg (show ¬ p = 1 by omega), if_neg (show ¬ p = 2 by omega), if_neg (show ¬ p = 3 by omega), if_neg (show ¬ p = 4 by omega), if_neg (show ¬ p = 5 by omega), if_neg (show ¬ p = 6 by omega)])
              | (rw [if_neg (by omega)]
                 first
                   | exact (if_pos (by omega)).symm
                   | exact (if_neg (by omega)).symm
                   | (show _ = (if k1 < D 0 then nI (D (3 + k1)) else zI (-1))
                      rw [if_neg (by omega)])
                   | (show _ = (if 1 ≤ k1 ∧ k1 ≤ 8 then nI (D (30 + k1)) else zI (-1))
                      rw [if_pos (by omega), show 30 + k1 = 31 + k1 - 1 by omega])
                   | (unfold lnP; rw [if_neg (by omega), if_neg (by omega), if_neg (by omega), if_neg (by omega), if_neg (by omega), if_neg (by omega)]))
              | (rw [if_pos (by omega)]
                 first
                   | rw [if_pos (by omega)]
                   | rw [if_neg (by omega)])
          · refine G_S (pc := 72) f_229_72 rfl rfl rfl ?_
            refine G_ic (v := nI 3) (pc := 73) f_229_73 (by decide) ?_
            refine G_S (pc := 74) f_229_74 rfl rfl rfl ?_
            first | refine G_addN (pc := 75) f_229_75 ?_ | refine G_addZ (pc := 75) f_229_75 (by first | rfl | exact nI_zI _) (by first | rfl | exact nI_zI _) ?_ | refine G_S (pc := 75) f_229_75 rfl rfl rfl ?_
            refine G_CV (pc := 76) f_229_76 rfl rfl (by decide) rfl rfl (by first | assumption | exact hK.1 _ _ rfl) (by decide) ⟨Nat.le_of_ble_eq_true rfl, Nat.le_of_ble_eq_true rfl⟩ ?_
            refine CG.go (m_ofD hK hH (by omega)) ?_
            refine G_S (pc := 79) f_229_79 rfl rfl rfl ?_
            refine G_ri (pc := 83) f_229_83 ?_
            refine ⟨?_, mQ.cod.tr hQ⟩
            congr 2
            unfold lnF
            rw [nI_toInt hc, if_neg (by omega), Int.toNat_natCast, hp, hk]
            first
              | (rcases hw with hw | hw
                 · rw [if_pos (show (c : Int) < 10 by omega)]
                   first
                     | rw [if_pos (by omega)]
                     | rw [if_neg (by omega)]
                 · rw [if_neg (show ¬ (c : Int) < 10 by omega)]
                   unfold lnP
                   rw [if_neg (show ¬ p = 1 by omega), if_neg (show ¬ p = 2 by omega), if_neg (show ¬ p = 3 by omega), if_neg (show ¬ p = 4 by omega), if_neg (show ¬ p = 5 by omega), if_neg (show ¬ p = 6 by omega)])
              | (rw [if_neg (by omega)]
                 first
                   | exact (if_pos (by omega)).symm
                   | exact (if_neg (by omega)).symm
                   | (show _ = (if k1 < D 0 then nI (D (3 + k1)) else zI (-1))
                      rw [if_neg (by omega)])
                   | (show _ = (if 1 ≤ k1 ∧ k1 ≤ 8 then nI (D (30 + k1)) else zI (-1))
                      rw [if_pos (by omega), show 30 + k1 = 31 + k1 - 1 by omega])
                   | (unfold lnP; rw [if_neg (by omega), if_neg (by omega), if_neg (by omega), if_neg (by omega), if_neg (by omega), if_neg (by omega)]))
              | (rw [if_pos (by omega)]
                 first
                   | rw [if_pos (by omega)]
                   | rw [if_neg (by omega)])
        · refine G_S (pc := 24) f_229_24 rfl rfl rfl ?_
          refine G_S (pc := 84) f_229_84 rfl rfl rfl ?_
          refine G_S (pc := 85) f_229_85 rfl rfl rfl ?_
          refine G_gIv (pc := 86) f_229_86 (by decide) rfl (by decide) (by first | assumption | exact hK.1 _ _ rfl) (by first | assumption | (try dsimp only) <;> (repeat (first | exact up2_s | refine up2_o (by first | decide | omega) ?_)) <;> first | assumption | rfl) ?_
          refine G_jgeZ (pc := 89) f_229_89 rfl (by first | exact nI_toInt (by omega) | exact zI_toInt (by omega) (by omega) | rfl) (by first | exact nI_toInt (by omega) | exact zI_toInt (by omega) (by omega) | rfl) (fun b3 => ?_) (fun b3 => ?_)
          · refine G_ic (v := zI (-1)) (pc := 103) f_229_103 (by decide) ?_
            refine G_ri (pc := 104) f_229_104 ?_
            refine ⟨?_, mQ.cod.tr hQ⟩
            congr 2
            unfold lnF
            rw [nI_toInt hc, if_neg (by omega), Int.toNat_natCast, hp, hk]
            first
              | (rcases hw with hw | hw
                 · rw [if_pos (show (c : Int) < 10 by omega)]
                   first
                     | rw [if_pos (by omega)]
                     | rw [if_neg (by omega)]
                 · rw [if_neg (show ¬ (c : Int) < 10 by omega)]
                   unfold lnP
                   rw [if_neg (show ¬ p = 1 by omega), if_neg (show ¬ p = 2 by omega), if_neg (show ¬ p = 3 by omega), if_neg (show ¬ p = 4 by omega), if_neg (show ¬ p = 5 by omega), if_neg (show ¬ p = 6 by omega)])
              | (rw [if_neg (by omega)]
                 first
                   | exact (if_pos (by omega)).symm
                   | exact (if_neg (by omega)).symm
                   | (show _ = (if k1 < D 0 then nI (D (3 + k1)) else zI (-1))
                      rw [if_neg (by omega)])
                   | (show _ = (if 1 ≤ k1 ∧ k1 ≤ 8 then nI (D (30 + k1)) else zI (-1))
                      rw [if_pos (by omega), show 30 + k1 = 31 + k1 - 1 by omega])
                   | (unfold lnP; rw [if_neg (by omega), if_neg (by omega), if_neg (by omega), if_neg (by omega), if_neg (by omega), if_neg (by omega)]))
              | (rw [if_pos (by omega)]
                 first
                   | rw [if_pos (by omega)]
                   | rw [if_neg (by omega)])
          · refine G_S (pc := 92) f_229_92 rfl rfl rfl ?_
            refine G_bi (v := nI 11) (pc := 93) f_229_93 (by decide) ?_
            refine G_S (pc := 95) f_229_95 rfl rfl rfl ?_
            first | refine G_addN (pc := 96) f_229_96 ?_ | refine G_addZ (pc := 96) f_229_96 (by first | rfl | exact nI_zI _) (by first | rfl | exact nI_zI _) ?_ | refine G_S (pc := 96) f_229_96 rfl rfl rfl ?_
            refine G_CV (pc := 97) f_229_97 rfl rfl (by decide) rfl rfl (by first | assumption | exact hK.1 _ _ rfl) (by decide) ⟨Nat.le_of_ble_eq_true rfl, Nat.le_of_ble_eq_true rfl⟩ ?_
            refine CG.go (m_ofD hK hH (by omega)) ?_
            refine G_S (pc := 100) f_229_100 rfl rfl rfl ?_
            refine G_ri (pc := 104) f_229_104 ?_
            refine ⟨?_, mQ.cod.tr hQ⟩
            congr 2
            unfold lnF
            rw [nI_toInt hc, if_neg (by omega), Int.toNat_natCast, hp, hk]
            first
              | (rcases hw with hw | hw
                 · rw [if_pos (show (c : Int) < 10 by omega)]
                   first
                     | rw [if_pos (by omega)]
                     | rw [if_neg (by omega)]
                 · rw [if_neg (show ¬ (c : Int) < 10 by omega)]
                   unfold lnP
                   rw [if_neg (show ¬ p = 1 by omega), if_neg (show ¬ p = 2 by omega), if_neg (show ¬ p = 3 by omega), if_neg (show ¬ p = 4 by omega), if_neg (show ¬ p = 5 by omega), if_neg (show ¬ p = 6 by omega)])
              | (rw [if_neg (by omega)]
                 first
                   | exact (if_pos (by omega)).symm
                   | exact (if_neg (by omega)).symm
                   | (show _ = (if k1 < D 0 then nI (D (3 + k1)) else zI (-1))
                      rw [if_neg (by omega)])
                   | (show _ = (if 1 ≤ k1 ∧ k1 ≤ 8 then nI (D (30 + k1)) else zI (-1))
                      rw [if_pos (by omega), show 30 + k1 = 31 + k1 - 1 by omega])
                   | (unfold lnP; rw [if_neg (by omega), if_neg (by omega), if_neg (by omega), if_neg (by omega), if_neg (by omega), if_neg (by omega)]))
              | (rw [if_pos (by omega)]
                 first
                   | rw [if_pos (by omega)]
                   | rw [if_neg (by omega)])
        · refine G_S (pc := 24) f_229_24 rfl rfl rfl ?_
          refine G_S (pc := 105) f_229_105 rfl rfl rfl ?_
          refine G_S (pc := 106) f_229_106 rfl rfl rfl ?_
          refine G_gIv (pc := 107) f_229_107 (by decide) rfl (by decide) (by first | assumption | exact hK.1 _ _ rfl) (by first | assumption | (try dsimp only) <;> (repeat (first | exact up2_s | refine up2_o (by first | decide | omega) ?_)) <;> first | assumption | rfl) ?_
          refine G_jgeZ (pc := 110) f_229_110 rfl (by first | exact nI_toInt (by omega) | exact zI_toInt (by omega) (by omega) | rfl) (by first | exact nI_toInt (by omega) | exact zI_toInt (by omega) (by omega) | rfl) (fun b4 => ?_) (fun b4 => ?_)
          · refine G_ic (v := zI (-1)) (pc := 124) f_229_124 (by decide) ?_
            refine G_ri (pc := 125) f_229_125 ?_
            refine ⟨?_, mQ.cod.tr hQ⟩
            congr 2
            unfold lnF
            rw [nI_toInt hc, if_neg (by omega), Int.toNat_natCast, hp, hk]
            first
              | (rcases hw with hw | hw
                 · rw [if_pos (show (c : Int) < 10 by omega)]
                   first
                     | rw [if_pos (by omega)]
                     | rw [if_neg (by omega)]
                 · rw [if_neg (show ¬ (c : Int) < 10 by omega)]
                   unfold lnP
                   rw [if_neg (show ¬ p = 1 by omega), if_neg (show ¬ p = 2 by omega), if_neg (show ¬ p = 3 by omega), if_neg (show ¬ p = 4 by omega), if_neg (show ¬ p = 5 by omega), if_neg (show ¬ p = 6 by omega)])
              | (rw [if_neg (by omega)]
                 first
                   | exact (if_pos (by omega)).symm
                   | exact (if_neg (by omega)).symm
                   | (show _ = (if k1 < D 0 then nI (D (3 + k1)) else zI (-1))
                      rw [if_neg (by omega)])
                   | (show _ = (if 1 ≤ k1 ∧ k1 ≤ 8 then nI (D (30 + k1)) else zI (-1))
                      rw [if_pos (by omega), show 30 + k1 = 31 + k1 - 1 by omega])
                   | (unfold lnP; rw [if_neg (by omega), if_neg (by omega), if_neg (by omega), if_neg (by omega), if_neg (by omega), if_neg (by omega)]))
              | (rw [if_pos (by omega)]
                 first
                   | rw [if_pos (by omega)]
                   | rw [if_neg (by omega)])
          · refine G_S (pc := 113) f_229_113 rfl rfl rfl ?_
            refine G_bi (v := nI 19) (pc := 114) f_229_114 (by decide) ?_
            refine G_S (pc := 116) f_229_116 rfl rfl rfl ?_
            first | refine G_addN (pc := 117) f_229_117 ?_ | refine G_addZ (pc := 117) f_229_117 (by first | rfl | exact nI_zI _) (by first | rfl | exact nI_zI _) ?_ | refine G_S (pc := 117) f_229_117 rfl rfl rfl ?_
            refine G_CV (pc := 118) f_229_118 rfl rfl (by decide) rfl rfl (by first | assumption | exact hK.1 _ _ rfl) (by decide) ⟨Nat.le_of_ble_eq_true rfl, Nat.le_of_ble_eq_true rfl⟩ ?_
            refine CG.go (m_ofD hK hH (by omega)) ?_
            refine G_S (pc := 121) f_229_121 rfl rfl rfl ?_
            refine G_ri (pc := 125) f_229_125 ?_
            refine ⟨?_, mQ.cod.tr hQ⟩
            congr 2
            unfold lnF
            rw [nI_toInt hc, if_neg (by omega), Int.toNat_natCast, hp, hk]
            first
              | (rcases hw with hw | hw
                 · rw [if_pos (show (c : Int) < 10 by omega)]
                   first
                     | rw [if_pos (by omega)]
                     | rw [if_neg (by omega)]
                 · rw [if_neg (show ¬ (c : Int) < 10 by omega)]
                   unfold lnP
                   rw [if_neg (show ¬ p = 1 by omega), if_neg (show ¬ p = 2 by omega), if_neg (show ¬ p = 3 by omega), if_neg (show ¬ p = 4 by omega), if_neg (show ¬ p = 5 by omega), if_neg (show ¬ p = 6 by omega)])
              | (rw [if_neg (by omega)]
                 first
                   | exact (if_pos (by omega)).symm
                   | exact (if_neg (by omega)).symm
                   | (show _ = (if k1 < D 0 then nI (D (3 + k1)) else zI (-1))
                      rw [if_neg (by omega)])
                   | (show _ = (if 1 ≤ k1 ∧ k1 ≤ 8 then nI (D (30 + k1)) else zI (-1))
                      rw [if_pos (by omega), show 30 + k1 = 31 + k1 - 1 by omega])
                   | (unfold lnP; rw [if_neg (by omega), if_neg (by omega), if_neg (by omega), if_neg (by omega), if_neg (by omega), if_neg (by omega)]))
              | (rw [if_pos (by omega)]
                 first
                   | rw [if_pos (by omega)]
                   | rw [if_neg (by omega)])
        · refine G_S (pc := 24) f_229_24 rfl rfl rfl ?_
          refine G_S (pc := 126) f_229_126 rfl rfl rfl ?_
          refine G_ic (v := nI 4) (pc := 127) f_229_127 (by decide) ?_
          refine G_jgeZ (pc := 128) f_229_128 rfl (by first | exact nI_toInt (by omega) | exact zI_toInt (by omega) (by omega) | rfl) (by first | exact nI_toInt (by omega) | exact zI_toInt (by omega) (by omega) | rfl) (fun b5 => ?_) (fun b5 => ?_)
          · refine G_ic (v := zI (-1)) (pc := 142) f_229_142 (by decide) ?_
            refine G_ri (pc := 143) f_229_143 ?_
            refine ⟨?_, mQ.cod.tr hQ⟩
            congr 2
            unfold lnF
            rw [nI_toInt hc, if_neg (by omega), Int.toNat_natCast, hp, hk]
            first
              | (rcases hw with hw | hw
                 · rw [if_pos (show (c : Int) < 10 by omega)]
                   first
                     | rw [if_pos (by omega)]
                     | rw [if_neg (by omega)]
                 · rw [if_neg (show ¬ (c : Int) < 10 by omega)]
                   unfold lnP
                   rw [if_neg (show ¬ p = 1 by omega), if_neg (show ¬ p = 2 by omega), if_neg (show ¬ p = 3 by omega), if_neg (show ¬ p = 4 by omega), if_neg (show ¬ p = 5 by omega), if_neg (show ¬ p = 6 by omega)])
              | (rw [if_neg (by omega)]
                 first
                   | exact (if_pos (by omega)).symm
                   | exact (if_neg (by omega)).symm
                   | (show _ = (if k1 < D 0 then nI (D (3 + k1)) else zI (-1))
                      rw [if_neg (by omega)])
                   | (show _ = (if 1 ≤ k1 ∧ k1 ≤ 8 then nI (D (30 + k1)) else zI (-1))
                      rw [if_pos (by omega), show 30 + k1 = 31 + k1 - 1 by omega])
                   | (unfold lnP; rw [if_neg (by omega), if_neg (by omega), if_neg (by omega), if_neg (by omega), if_neg (by omega), if_neg (by omega)]))
              | (rw [if_pos (by omega)]
                 first
                   | rw [if_pos (by omega)]
                   | rw [if_neg (by omega)])
          · refine G_S (pc := 131) f_229_131 rfl rfl rfl ?_
            refine G_bi (v := nI 27) (pc := 132) f_229_132 (by decide) ?_
            refine G_S (pc := 134) f_229_134 rfl rfl rfl ?_
            first | refine G_addN (pc := 135) f_229_135 ?_ | refine G_addZ (pc := 135) f_229_135 (by first | rfl | exact nI_zI _) (by first | rfl | exact nI_zI _) ?_ | refine G_S (pc := 135) f_229_135 rfl rfl rfl ?_
            refine G_CV (pc := 136) f_229_136 rfl rfl (by decide) rfl rfl (by first | assumption | exact hK.1 _ _ rfl) (by decide) ⟨Nat.le_of_ble_eq_true rfl, Nat.le_of_ble_eq_true rfl⟩ ?_
            refine CG.go (m_ofD hK hH (by omega)) ?_
            refine G_S (pc := 139) f_229_139 rfl rfl rfl ?_
            refine G_ri (pc := 143) f_229_143 ?_
            refine ⟨?_, mQ.cod.tr hQ⟩
            congr 2
            unfold lnF
            rw [nI_toInt hc, if_neg (by omega), Int.toNat_natCast, hp, hk]
            first
              | (rcases hw with hw | hw
                 · rw [if_pos (show (c : Int) < 10 by omega)]
                   first
                     | rw [if_pos (by omega)]
                     | rw [if_neg (by omega)]
                 · rw [if_neg (show ¬ (c : Int) < 10 by omega)]
                   unfold lnP
                   rw [if_neg (show ¬ p = 1 by omega), if_neg (show ¬ p = 2 by omega), if_neg (show ¬ p = 3 by omega), if_neg (show ¬ p = 4 by omega), if_neg (show ¬ p = 5 by omega), if_neg (show ¬ p = 6 by omega)])
              | (rw [if_neg (by omega)]
                 first
                   | exact (if_pos (by omega)).symm
                   | exact (if_neg (by omega)).symm
                   | (show _ = (if k1 < D 0 then nI (D (3 + k1)) else zI (-1))
                      rw [if_neg (by omega)])
                   | (show _ = (if 1 ≤ k1 ∧ k1 ≤ 8 then nI (D (30 + k1)) else zI (-1))
                      rw [if_pos (by omega), show 30 + k1 = 31 + k1 - 1 by omega])
                   | (unfold lnP; rw [if_neg (by omega), if_neg (by omega), if_neg (by omega), if_neg (by omega), if_neg (by omega), if_neg (by omega)]))
              | (rw [if_pos (by omega)]
                 first
                   | rw [if_pos (by omega)]
                   | rw [if_neg (by omega)])
        · refine G_S (pc := 24) f_229_24 rfl rfl rfl ?_
          refine G_S (pc := 144) f_229_144 rfl rfl rfl ?_
          refine G_ic (v := nI 1) (pc := 145) f_229_145 (by decide) ?_
          refine G_bi (v := nI 8) (pc := 146) f_229_146 (by decide) ?_
          refine G_CS (pc := 148) f_229_148 rfl rfl (by decide) rfl rfl ⟨Nat.le_of_ble_eq_true rfl, Nat.le_of_ble_eq_true rfl⟩ ?_
          refine CG.go (m_inZ (by first | exact nI_toInt (by omega) | exact zI_toInt (by omega) (by omega) | rfl) (by first | exact nI_toInt (by omega) | exact zI_toInt (by omega) (by omega) | rfl) (by first | exact nI_toInt (by omega) | exact zI_toInt (by omega) (by omega) | rfl)) ?_
          first | refine G_bEq (pc := 151) f_229_151 rfl (fun b6 => ?_) (fun b6 => ?_) | refine G_zeqZ (pc := 151) f_229_151 rfl (by first | exact nI_toInt (by omega) | exact zI_toInt (by omega) (by omega) | rfl) (fun b6 => ?_) (fun b6 => ?_)
          · refine G_ic (v := zI (-1)) (pc := 167) f_229_167 (by decide) ?_
            refine G_ri (pc := 168) f_229_168 ?_
            refine ⟨?_, mQ.cod.tr hQ⟩
            congr 2
            unfold lnF
            rw [nI_toInt hc, if_neg (by omega), Int.toNat_natCast, hp, hk]
            first
              | (rcases hw with hw | hw
                 · rw [if_pos (show (c : Int) < 10 by omega)]
                   first
                     | rw [if_pos (by omega)]
                     | rw [if_neg (by omega)]
                 · rw [if_neg (show ¬ (c : Int) < 10 by omega)]
                   unfold lnP
                   rw [if_neg (show ¬ p = 1 by omega), if_neg (show ¬ p = 2 by omega), if_neg (show ¬ p = 3 by omega), if_neg (show ¬ p = 4 by omega), if_neg (show ¬ p = 5 by omega), if_neg (show ¬ p = 6 by omega)])
              | (rw [if_neg (by omega)]
                 first
                   | exact (if_pos (by omega)).symm
                   | exact (if_neg (by omega)).symm
                   | (show _ = (if k1 < D 0 then nI (D (3 + k1)) else zI (-1))
                      rw [if_neg (by omega)])
                   | (show _ = (if 1 ≤ k1 ∧ k1 ≤ 8 then nI (D (30 + k1)) else zI (-1))
                      rw [if_pos (by omega), show 30 + k1 = 31 + k1 - 1 by omega])
                   | (unfold lnP; rw [if_neg (by omega), if_neg (by omega), if_neg (by omega), if_neg (by omega), if_neg (by omega), if_neg (by omega)]))
              | (rw [if_pos (by omega)]
                 first
                   | rw [if_pos (by omega)]
                   | rw [if_neg (by omega)])
          · refine G_S (pc := 154) f_229_154 rfl rfl rfl ?_
            refine G_bi (v := nI 31) (pc := 155) f_229_155 (by decide) ?_
            refine G_S (pc := 157) f_229_157 rfl rfl rfl ?_
            first | refine G_addN (pc := 158) f_229_158 ?_ | refine G_addZ (pc := 158) f_229_158 (by first | rfl | exact nI_zI _) (by first | rfl | exact nI_zI _) ?_ | refine G_S (pc := 158) f_229_158 rfl rfl rfl ?_
            refine G_ic (v := nI 1) (pc := 159) f_229_159 (by decide) ?_
            first | refine G_subN (pc := 160) f_229_160 (by omega) ?_ | refine G_subZ (pc := 160) f_229_160 (by first | rfl | exact nI_zI _) (by first | rfl | exact nI_zI _) ?_ | refine G_S (pc := 160) f_229_160 rfl rfl rfl ?_
            refine G_CV (pc := 161) f_229_161 rfl rfl (by decide) rfl rfl (by first | assumption | exact hK.1 _ _ rfl) (by decide) ⟨Nat.le_of_ble_eq_true rfl, Nat.le_of_ble_eq_true rfl⟩ ?_
            refine CG.go (m_ofD hK hH (by omega)) ?_
            refine G_S (pc := 164) f_229_164 rfl rfl rfl ?_
            refine G_ri (pc := 168) f_229_168 ?_
            refine ⟨?_, mQ.cod.tr hQ⟩
            congr 2
            unfold lnF
            rw [nI_toInt hc, if_neg (by omega), Int.toNat_natCast, hp, hk]
            first
              | (rcases hw with hw | hw
                 · rw [if_pos (show (c : Int) < 10 by omega)]
                   first
                     | rw [if_pos (by omega)]
                     | rw [if_neg (by omega)]
                 · rw [if_neg (show ¬ (c : Int) < 10 by omega)]
                   unfold lnP
                   rw [if_neg (show ¬ p = 1 by omega), if_neg (show ¬ p = 2 by omega), if_neg (show ¬ p = 3 by omega), if_neg (show ¬ p = 4 by omega), if_neg (show ¬ p = 5 by omega), if_neg (show ¬ p = 6 by omega)])
              | (rw [if_neg (by omega)]
                 first
                   | exact (if_pos (by omega)).symm
                   | exact (if_neg (by omega)).symm
                   | (show _ = (if k1 < D 0 then nI (D (3 + k1)) else zI (-1))
                      rw [if_neg (by omega)])
                   | (show _ = (if 1 ≤ k1 ∧ k1 ≤ 8 then nI (D (30 + k1)) else zI (-1))
                      rw [if_pos (by omega), show 30 + k1 = 31 + k1 - 1 by omega])
                   | (unfold lnP; rw [if_neg (by omega), if_neg (by omega), if_neg (by omega), if_neg (by omega), if_neg (by omega), if_neg (by omega)]))
              | (rw [if_pos (by omega)]
                 first
                   | rw [if_pos (by omega)]
                   | rw [if_neg (by omega)])
        · refine G_S (pc := 24) f_229_24 rfl rfl rfl ?_
          refine G_S (pc := 169) f_229_169 rfl rfl rfl ?_
          refine G_S (pc := 170) f_229_170 rfl rfl rfl ?_
          refine G_gIv (pc := 171) f_229_171 (by decide) rfl (by decide) (by first | assumption | exact hK.1 _ _ rfl) (by first | assumption | (try dsimp only) <;> (repeat (first | exact up2_s | refine up2_o (by first | decide | omega) ?_)) <;> first | assumption | rfl) ?_
          refine G_jgeZ (pc := 174) f_229_174 rfl (by first | exact nI_toInt (by omega) | exact zI_toInt (by omega) (by omega) | rfl) (by first | exact nI_toInt (by omega) | exact zI_toInt (by omega) (by omega) | rfl) (fun b7 => ?_) (fun b7 => ?_)
          · refine G_ic (v := zI (-1)) (pc := 193) f_229_193 (by decide) ?_
            refine G_ri (pc := 194) f_229_194 ?_
            refine ⟨?_, mQ.cod.tr hQ⟩
            congr 2
            unfold lnF
            rw [nI_toInt hc, if_neg (by omega), Int.toNat_natCast, hp, hk]
            first
              | (rcases hw with hw | hw
                 · rw [if_pos (show (c : Int) < 10 by omega)]
                   first
                     | rw [if_pos (by omega)]
                     | rw [if_neg (by omega)]
                 · rw [if_neg (show ¬ (c : Int) < 10 by omega)]
                   unfold lnP
                   rw [if_neg (show ¬ p = 1 by omega), if_neg (show ¬ p = 2 by omega), if_neg (show ¬ p = 3 by omega), if_neg (show ¬ p = 4 by omega), if_neg (show ¬ p = 5 by omega), if_neg (show ¬ p = 6 by omega)])
              | (rw [if_neg (by omega)]
                 first
                   | exact (if_pos (by omega)).symm
                   | exact (if_neg (by omega)).symm
                   | (show _ = (if k1 < D 0 then nI (D (3 + k1)) else zI (-1))
                      rw [if_neg (by omega)])
                   | (show _ = (if 1 ≤ k1 ∧ k1 ≤ 8 then nI (D (30 + k1)) else zI (-1))
                      rw [if_pos (by omega), show 30 + k1 = 31 + k1 - 1 by omega])
                   | (unfold lnP; rw [if_neg (by omega), if_neg (by omega), if_neg (by omega), if_neg (by omega), if_neg (by omega), if_neg (by omega)]))
              | (rw [if_pos (by omega)]
                 first
                   | rw [if_pos (by omega)]
                   | rw [if_neg (by omega)])
          · have ho := ho (by omega)
            refine G_S (pc := 177) f_229_177 rfl rfl rfl ?_
            refine G_S (pc := 178) f_229_178 rfl rfl rfl ?_
            refine G_S (pc := 179) f_229_179 rfl rfl rfl ?_
            refine G_bi (v := nI 19) (pc := 180) f_229_180 (by decide) ?_
            refine G_S (pc := 182) f_229_182 rfl rfl rfl ?_
            first | refine G_addN (pc := 183) f_229_183 ?_ | refine G_addZ (pc := 183) f_229_183 (by first | rfl | exact nI_zI _) (by first | rfl | exact nI_zI _) ?_ | refine G_S (pc := 183) f_229_183 rfl rfl rfl ?_
            refine G_CV (pc := 184) f_229_184 rfl rfl (by decide) rfl rfl (by first | assumption | exact hK.1 _ _ rfl) (by decide) ⟨Nat.le_of_ble_eq_true rfl, Nat.le_of_ble_eq_true rfl⟩ ?_
            refine CG.go (m_ofD hK hH (by omega)) ?_
            refine G_CV (pc := 187) f_229_187 rfl rfl (by decide) rfl rfl (by first | assumption | exact hK.1 _ _ rfl) (by decide) ⟨Nat.le_of_ble_eq_true rfl, Nat.le_of_ble_eq_true rfl⟩ ?_
            refine CG.go (m_pullD hK hH (by omega) (by omega)) ?_
            refine G_S (pc := 190) f_229_190 rfl rfl rfl ?_
            refine G_ri (pc := 194) f_229_194 ?_
            refine ⟨?_, mQ.cod.tr hQ⟩
            congr 2
            unfold lnF
            rw [nI_toInt hc, if_neg (by omega), Int.toNat_natCast, hp, hk]
            first
              | (rcases hw with hw | hw
                 · rw [if_pos (show (c : Int) < 10 by omega)]
                   first
                     | rw [if_pos (by omega)]
                     | rw [if_neg (by omega)]
                 · rw [if_neg (show ¬ (c : Int) < 10 by omega)]
                   unfold lnP
                   rw [if_neg (show ¬ p = 1 by omega), if_neg (show ¬ p = 2 by omega), if_neg (show ¬ p = 3 by omega), if_neg (show ¬ p = 4 by omega), if_neg (show ¬ p = 5 by omega), if_neg (show ¬ p = 6 by omega)])
              | (rw [if_neg (by omega)]
                 first
                   | exact (if_pos (by omega)).symm
                   | exact (if_neg (by omega)).symm
                   | (show _ = (if k1 < D 0 then nI (D (3 + k1)) else zI (-1))
                      rw [if_neg (by omega)])
                   | (show _ = (if 1 ≤ k1 ∧ k1 ≤ 8 then nI (D (30 + k1)) else zI (-1))
                      rw [if_pos (by omega), show 30 + k1 = 31 + k1 - 1 by omega])
                   | (unfold lnP; rw [if_neg (by omega), if_neg (by omega), if_neg (by omega), if_neg (by omega), if_neg (by omega), if_neg (by omega)]))
              | (rw [if_pos (by omega)]
                 first
                   | rw [if_pos (by omega)]
                   | rw [if_neg (by omega)])
        · refine G_tsO (pc := 24) f_229_24 rfl ((by rw [nI_toInt e10]; omega)) ?_
          refine G_S (pc := 195) f_229_195 rfl rfl rfl ?_
          refine G_ic (v := nI 0) (pc := 196) f_229_196 (by decide) ?_
          refine G_ic (v := nI 2) (pc := 197) f_229_197 (by decide) ?_
          refine G_CS (pc := 198) f_229_198 rfl rfl (by decide) rfl rfl ⟨Nat.le_of_ble_eq_true rfl, Nat.le_of_ble_eq_true rfl⟩ ?_
          refine CG.go (m_inZ (by first | exact nI_toInt (by omega) | exact zI_toInt (by omega) (by omega) | rfl) (by first | exact nI_toInt (by omega) | exact zI_toInt (by omega) (by omega) | rfl) (by first | exact nI_toInt (by omega) | exact zI_toInt (by omega) (by omega) | rfl)) ?_
          first | refine G_bEq (pc := 201) f_229_201 rfl (fun b8 => ?_) (fun b8 => ?_) | refine G_zeqZ (pc := 201) f_229_201 rfl (by first | exact nI_toInt (by omega) | exact zI_toInt (by omega) (by omega) | rfl) (fun b8 => ?_) (fun b8 => ?_)
          · refine G_ic (v := zI (-1)) (pc := 212) f_229_212 (by decide) ?_
            refine G_ri (pc := 213) f_229_213 ?_
            refine ⟨?_, mQ.cod.tr hQ⟩
            congr 2
            unfold lnF
            rw [nI_toInt hc, if_neg (by omega), Int.toNat_natCast, hp, hk]
            first
              | (rcases hw with hw | hw
                 · rw [if_pos (show (c : Int) < 10 by omega)]
                   first
                     | rw [if_pos (by omega)]
                     | rw [if_neg (by omega)]
                 · rw [if_neg (show ¬ (c : Int) < 10 by omega)]
                   unfold lnP
                   rw [if_neg (show ¬ p = 1 by omega), if_neg (show ¬ p = 2 by omega), if_neg (show ¬ p = 3 by omega), if_neg (show ¬ p = 4 by omega), if_neg (show ¬ p = 5 by omega), if_neg (show ¬ p = 6 by omega)])
              | (rw [if_neg (by omega)]
                 first
                   | exact (if_pos (by omega)).symm
                   | exact (if_neg (by omega)).symm
                   | (show _ = (if k1 < D 0 then nI (D (3 + k1)) else zI (-1))
                      rw [if_neg (by omega)])
                   | (show _ = (if 1 ≤ k1 ∧ k1 ≤ 8 then nI (D (30 + k1)) else zI (-1))
                      rw [if_pos (by omega), show 30 + k1 = 31 + k1 - 1 by omega])
                   | (unfold lnP; rw [if_neg (by omega), if_neg (by omega), if_neg (by omega), if_neg (by omega), if_neg (by omega), if_neg (by omega)]))
              | (rw [if_pos (by omega)]
                 first
                   | rw [if_pos (by omega)]
                   | rw [if_neg (by omega)])
          · refine G_S (pc := 204) f_229_204 rfl rfl rfl ?_
            refine G_S (pc := 205) f_229_205 rfl rfl rfl ?_
            refine G_CV (pc := 206) f_229_206 rfl rfl (by decide) rfl rfl (by first | assumption | exact hK.1 _ _ rfl) (by decide) ⟨Nat.le_of_ble_eq_true rfl, Nat.le_of_ble_eq_true rfl⟩ ?_
            refine CG.go (m_ofD hK hH (by omega)) ?_
            refine G_S (pc := 209) f_229_209 rfl rfl rfl ?_
            refine G_ri (pc := 213) f_229_213 ?_
            refine ⟨?_, mQ.cod.tr hQ⟩
            congr 2
            unfold lnF
            rw [nI_toInt hc, if_neg (by omega), Int.toNat_natCast, hp, hk]
            first
              | (rcases hw with hw | hw
                 · rw [if_pos (show (c : Int) < 10 by omega)]
                   first
                     | rw [if_pos (by omega)]
                     | rw [if_neg (by omega)]
                 · rw [if_neg (show ¬ (c : Int) < 10 by omega)]
                   unfold lnP
                   rw [if_neg (show ¬ p = 1 by omega), if_neg (show ¬ p = 2 by omega), if_neg (show ¬ p = 3 by omega), if_neg (show ¬ p = 4 by omega), if_neg (show ¬ p = 5 by omega), if_neg (show ¬ p = 6 by omega)])
              | (rw [if_neg (by omega)]
                 first
                   | exact (if_pos (by omega)).symm
                   | exact (if_neg (by omega)).symm
                   | (show _ = (if k1 < D 0 then nI (D (3 + k1)) else zI (-1))
                      rw [if_neg (by omega)])
                   | (show _ = (if 1 ≤ k1 ∧ k1 ≤ 8 then nI (D (30 + k1)) else zI (-1))
                      rw [if_pos (by omega), show 30 + k1 = 31 + k1 - 1 by omega])
                   | (unfold lnP; rw [if_neg (by omega), if_neg (by omega), if_neg (by omega), if_neg (by omega), if_neg (by omega), if_neg (by omega)]))
              | (rw [if_pos (by omega)]
                 first
                   | rw [if_pos (by omega)]
                   | rw [if_neg (by omega)])
      · exact absurd trivial b1
theorem g_route (W : MLs M n L) : CG C 304 [.ref 98, .int k, .int x] M (fun w M' => w = some (.int (aLin (lin n L k) (zI (-1)) (fun D => oI (leastF (rtB D x) (D 0) 0)))) ∧ mQ M M') := by
  have hK := W.1
  cases hl : lin n L k with
  | none =>
    refine CG_in (mL := 6) (hl := false) (lv := [some (.ref 98), some (.int k), some (.int x), none, none, none]) (ll := []) rfl rfl rfl ?_
    refine G_S (pc := 0) f_304_0 rfl rfl rfl ?_
    refine G_ic (v := nI 0) (pc := 1) f_304_1 (by decide) ?_
    refine G_pI (pc := 2) f_304_2 rfl (by first | assumption | exact hK.1 _ _ rfl) ?_
    refine G_S (pc := 5) f_304_5 rfl rfl rfl ?_
    refine G_S (pc := 6) f_304_6 rfl rfl rfl ?_
    refine G_CV (pc := 7) f_304_7 rfl rfl (by decide) rfl rfl (by first | assumption | exact hK.1 _ _ rfl) (by decide) ⟨Nat.le_of_ble_eq_true rfl, Nat.le_of_ble_eq_true rfl⟩ ?_
    refine CG.go (g_handN (W.q mQ.cod) hl) ?_
    first | refine G_bNe (pc := 10) f_304_10 rfl (fun b1 => ?_) (fun b1 => ?_) | refine G_zneZ (pc := 10) f_304_10 rfl (by first | exact nI_toInt (by omega) | exact zI_toInt (by omega) (by omega) | rfl) (fun b1 => ?_) (fun b1 => ?_)
    · exact absurd b1 id
    · refine G_ic (v := zI (-1)) (pc := 13) f_304_13 (by decide) ?_
      refine G_ri (pc := 14) f_304_14 ?_
      exact ⟨rfl, mQ.cod⟩
  | some D =>
    show CG C 304 [.ref 98, .int k, .int x] M (fun w M' => w = some (.int (oI (leastF (rtB D x) (D 0) 0))) ∧ mQ M M')
    have inner : ∀ {Q} l M1 h, h < D 0 → mH M1 l D → G C 304 (98, [some (.ref 98), some (.int k), some (.int x), some (.int (nI h)), some (.int (nI ((rkN D h (D 0))))), some (.int (nI (D 0)))], [], [], M1) Q → ∀ i, i ≤ D 0 → G C 304 (31, [some (.ref 98), some (.int k), some (.int x), some (.int (nI h)), some (.int (nI (rkN D h i))), some (.int (nI i))], [], [], M1) Q := by
      intro Q l M1 h hh W1 K
      have hK := W1.1
      have hH := W1.2
      obtain ⟨⟨a0, a1, a2, a3⟩, hl8, hD, ao⟩ := W1.2
      have hn0 : _ ≤ 8 := hD.1
      have hn1 : _ ≤ 6 := hD.2.1.2
      have hn2 : _ ≤ 8 := hD.2.2.1
      have hk9 := hD.2.2.2.1 h (by omega)
      refine upto (fun i hi ih => ?_)
      have hi9 : i < D 0 → D (3 + i) ≤ 99 := fun q => hD.2.2.2.1 i (by omega)
      refine G_S (pc := 31) f_304_31 rfl rfl rfl ?_
      refine G_S (pc := 33) f_304_33 rfl rfl rfl ?_
      refine G_gIv (pc := 34) f_304_34 (by decide) rfl (by decide) (by first | assumption | exact hK.1 _ _ rfl) (by first | assumption | (try dsimp only) <;> (repeat (first | exact up2_s | refine up2_o (by first | decide | omega) ?_)) <;> first | assumption | rfl) ?_
      refine G_jgeZ (pc := 37) f_304_37 rfl (by first | exact nI_toInt (by omega) | exact zI_toInt (by omega) (by omega) | rfl) (by first | exact nI_toInt (by omega) | exact zI_toInt (by omega) (by omega) | rfl) (fun b3 => ?_) (fun b3 => ?_)
      · rw [show i = D 0 by omega]
        exact K
      · have hi9 := hi9 (by omega)
        refine G_S (pc := 40) f_304_40 rfl rfl rfl ?_
        refine G_S (pc := 42) f_304_42 rfl rfl rfl ?_
        refine G_ic (v := nI 3) (pc := 43) f_304_43 (by decide) ?_
        refine G_S (pc := 44) f_304_44 rfl rfl rfl ?_
        first | refine G_addN (pc := 46) f_304_46 ?_ | refine G_addZ (pc := 46) f_304_46 (by first | rfl | exact nI_zI _) (by first | rfl | exact nI_zI _) ?_ | refine G_S (pc := 46) f_304_46 rfl rfl rfl ?_
        refine G_CV (pc := 47) f_304_47 rfl rfl (by decide) rfl rfl (by first | assumption | exact hK.1 _ _ rfl) (by decide) ⟨Nat.le_of_ble_eq_true rfl, Nat.le_of_ble_eq_true rfl⟩ ?_
        refine CG.go (m_ofD hK hH (by omega)) ?_
        refine G_S (pc := 50) f_304_50 rfl rfl rfl ?_
        refine G_ic (v := nI 3) (pc := 51) f_304_51 (by decide) ?_
        refine G_S (pc := 52) f_304_52 rfl rfl rfl ?_
        first | refine G_addN (pc := 53) f_304_53 ?_ | refine G_addZ (pc := 53) f_304_53 (by first | rfl | exact nI_zI _) (by first | rfl | exact nI_zI _) ?_ | refine G_S (pc := 53) f_304_53 rfl rfl rfl ?_
        refine G_CV (pc := 54) f_304_54 rfl rfl (by decide) rfl rfl (by first | assumption | exact hK.1 _ _ rfl) (by decide) ⟨Nat.le_of_ble_eq_true rfl, Nat.le_of_ble_eq_true rfl⟩ ?_
        refine CG.go (m_ofD hK hH (by omega)) ?_
        refine G_jgtZ (pc := 57) f_304_57 rfl (by first | exact nI_toInt (by omega) | exact zI_toInt (by omega) (by omega) | rfl) (by first | exact nI_toInt (by omega) | exact zI_toInt (by omega) (by omega) | rfl) (fun b4 => ?_) (fun b4 => ?_)
        · refine G_ic (v := nI 1) (pc := 84) f_304_84 (by decide) ?_
          refine G_S (pc := 85) f_304_85 rfl rfl rfl ?_
          first | refine G_addN (pc := 89) f_304_89 ?_ | refine G_addZ (pc := 89) f_304_89 (by first | rfl | exact nI_zI _) (by first | rfl | exact nI_zI _) ?_ | refine G_S (pc := 89) f_304_89 rfl rfl rfl ?_
          refine G_S (pc := 90) f_304_90 rfl rfl rfl ?_
          first | refine G_inc1 (pc := 92) f_304_92 rfl ?_ | refine G_S (pc := 92) f_304_92 rfl rfl rfl ?_
          refine G_S (pc := 95) f_304_95 rfl rfl rfl ?_
          have e := ih (by omega)
          first
            | (rw [rkN, if_pos (by omega)] at e; exact e)
            | (rw [rkN, if_neg (by omega)] at e; exact e)
        · refine G_S (pc := 60) f_304_60 rfl rfl rfl ?_
          refine G_ic (v := nI 3) (pc := 61) f_304_61 (by decide) ?_
          refine G_S (pc := 62) f_304_62 rfl rfl rfl ?_
          first | refine G_addN (pc := 64) f_304_64 ?_ | refine G_addZ (pc := 64) f_304_64 (by first | rfl | exact nI_zI _) (by first | rfl | exact nI_zI _) ?_ | refine G_S (pc := 64) f_304_64 rfl rfl rfl ?_
          refine G_CV (pc := 65) f_304_65 rfl rfl (by decide) rfl rfl (by first | assumption | exact hK.1 _ _ rfl) (by decide) ⟨Nat.le_of_ble_eq_true rfl, Nat.le_of_ble_eq_true rfl⟩ ?_
          refine CG.go (m_ofD hK hH (by omega)) ?_
          refine G_S (pc := 68) f_304_68 rfl rfl rfl ?_
          refine G_ic (v := nI 3) (pc := 69) f_304_69 (by decide) ?_
          refine G_S (pc := 70) f_304_70 rfl rfl rfl ?_
          first | refine G_addN (pc := 71) f_304_71 ?_ | refine G_addZ (pc := 71) f_304_71 (by first | rfl | exact nI_zI _) (by first | rfl | exact nI_zI _) ?_ | refine G_S (pc := 71) f_304_71 rfl rfl rfl ?_
          refine G_CV (pc := 72) f_304_72 rfl rfl (by decide) rfl rfl (by first | assumption | exact hK.1 _ _ rfl) (by decide) ⟨Nat.le_of_ble_eq_true rfl, Nat.le_of_ble_eq_true rfl⟩ ?_
          refine CG.go (m_ofD hK hH (by omega)) ?_
          refine G_jneZ (pc := 75) f_304_75 rfl (by first | exact nI_toInt (by omega) | exact zI_toInt (by omega) (by omega) | rfl) (by first | exact nI_toInt (by omega) | exact zI_toInt (by omega) (by omega) | rfl) (fun b5 => ?_) (fun b5 => ?_)
          · refine G_ic (v := nI 0) (pc := 88) f_304_88 (by decide) ?_
            first | refine G_addN (pc := 89) f_304_89 ?_ | refine G_addZ (pc := 89) f_304_89 (by first | rfl | exact nI_zI _) (by first | rfl | exact nI_zI _) ?_ | refine G_S (pc := 89) f_304_89 rfl rfl rfl ?_
            refine G_S (pc := 90) f_304_90 rfl rfl rfl ?_
            first | refine G_inc1 (pc := 92) f_304_92 rfl ?_ | refine G_S (pc := 92) f_304_92 rfl rfl rfl ?_
            refine G_S (pc := 95) f_304_95 rfl rfl rfl ?_
            have e := ih (by omega)
            first
              | (rw [rkN, if_pos (by omega)] at e; exact e)
              | (rw [rkN, if_neg (by omega)] at e; exact e)
          · refine G_S (pc := 78) f_304_78 rfl rfl rfl ?_
            refine G_S (pc := 80) f_304_80 rfl rfl rfl ?_
            refine G_jgeZ (pc := 81) f_304_81 rfl (by first | exact nI_toInt (by omega) | exact zI_toInt (by omega) (by omega) | rfl) (by first | exact nI_toInt (by omega) | exact zI_toInt (by omega) (by omega) | rfl) (fun b6 => ?_) (fun b6 => ?_)
            · refine G_ic (v := nI 0) (pc := 88) f_304_88 (by decide) ?_
              first | refine G_addN (pc := 89) f_304_89 ?_ | refine G_addZ (pc := 89) f_304_89 (by first | rfl | exact nI_zI _) (by first | rfl | exact nI_zI _) ?_ | refine G_S (pc := 89) f_304_89 rfl rfl rfl ?_
              refine G_S (pc := 90) f_304_90 rfl rfl rfl ?_
              first | refine G_inc1 (pc := 92) f_304_92 rfl ?_ | refine G_S (pc := 92) f_304_92 rfl rfl rfl ?_
              refine G_S (pc := 95) f_304_95 rfl rfl rfl ?_
              have e := ih (by omega)
              first
                | (rw [rkN, if_pos (by omega)] at e; exact e)
                | (rw [rkN, if_neg (by omega)] at e; exact e)
            · refine G_ic (v := nI 1) (pc := 84) f_304_84 (by decide) ?_
              refine G_S (pc := 85) f_304_85 rfl rfl rfl ?_
              first | refine G_addN (pc := 89) f_304_89 ?_ | refine G_addZ (pc := 89) f_304_89 (by first | rfl | exact nI_zI _) (by first | rfl | exact nI_zI _) ?_ | refine G_S (pc := 89) f_304_89 rfl rfl rfl ?_
              refine G_S (pc := 90) f_304_90 rfl rfl rfl ?_
              first | refine G_inc1 (pc := 92) f_304_92 rfl ?_ | refine G_S (pc := 92) f_304_92 rfl rfl rfl ?_
              refine G_S (pc := 95) f_304_95 rfl rfl rfl ?_
              have e := ih (by omega)
              first
                | (rw [rkN, if_pos (by omega)] at e; exact e)
                | (rw [rkN, if_neg (by omega)] at e; exact e)
    have loop : ∀ l M1, mH M1 l D → ∀ d i a b, i + d = D 0 → G C 304 (17, [some (.ref 98), some (.int k), some (.int x), some (.int (nI i)), a, b], [], [], M1) (fun w M' => w = some (.int (oI (leastF (rtB D x) d i))) ∧ M' = M1) := by
      intro l M1 W1 d
      have hK := W1.1
      have hH := W1.2
      obtain ⟨⟨a0, a1, a2, a3⟩, hl8, hD, ao⟩ := W1.2
      have hn0 : _ ≤ 8 := hD.1
      have hn1 : _ ≤ 6 := hD.2.1.2
      have hn2 : _ ≤ 8 := hD.2.2.1
      induction d with
      | zero =>
        intro i a b hi
        refine G_S (pc := 17) f_304_17 rfl rfl rfl ?_
        refine G_S (pc := 18) f_304_18 rfl rfl rfl ?_
        refine G_gIv (pc := 19) f_304_19 (by decide) rfl (by decide) (by first | assumption | exact hK.1 _ _ rfl) (by first | assumption | (try dsimp only) <;> (repeat (first | exact up2_s | refine up2_o (by first | decide | omega) ?_)) <;> first | assumption | rfl) ?_
        refine G_jgeZ (pc := 22) f_304_22 rfl (by first | exact nI_toInt (by omega) | exact zI_toInt (by omega) (by omega) | rfl) (by first | exact nI_toInt (by omega) | exact zI_toInt (by omega) (by omega) | rfl) (fun b2 => ?_) (fun b2 => ?_)
        · refine G_ic (v := zI (-1)) (pc := 112) f_304_112 (by decide) ?_
          refine G_ri (pc := 113) f_304_113 ?_
          exact ⟨rfl, rfl⟩
        · exfalso; omega
      | succ d ih =>
        intro i a b hi
        have hr := rkN_le D i (D 0)
        refine G_S (pc := 17) f_304_17 rfl rfl rfl ?_
        refine G_S (pc := 18) f_304_18 rfl rfl rfl ?_
        refine G_gIv (pc := 19) f_304_19 (by decide) rfl (by decide) (by first | assumption | exact hK.1 _ _ rfl) (by first | assumption | (try dsimp only) <;> (repeat (first | exact up2_s | refine up2_o (by first | decide | omega) ?_)) <;> first | assumption | rfl) ?_
        refine G_jgeZ (pc := 22) f_304_22 rfl (by first | exact nI_toInt (by omega) | exact zI_toInt (by omega) (by omega) | rfl) (by first | exact nI_toInt (by omega) | exact zI_toInt (by omega) (by omega) | rfl) (fun b2 => ?_) (fun b2 => ?_)
        · exfalso; omega
        · refine G_ic (v := nI 0) (pc := 25) f_304_25 (by decide) ?_
          refine G_S (pc := 26) f_304_26 rfl rfl rfl ?_
          refine G_ic (v := nI 0) (pc := 28) f_304_28 (by decide) ?_
          refine G_S (pc := 29) f_304_29 rfl rfl rfl ?_
          refine inner l M1 i (by omega) W1 ?_ 0 (Nat.zero_le _)
          refine G_S (pc := 98) f_304_98 rfl rfl rfl ?_
          refine G_S (pc := 100) f_304_100 rfl rfl rfl ?_
          refine G_jneZ (pc := 101) f_304_101 rfl (by first | exact nI_toInt (by omega) | exact zI_toInt (by omega) (by omega) | rfl) (by first | exact nI_toInt (by omega) | exact zI_toInt (by omega) (by omega) | rfl) (fun b7 => ?_) (fun b7 => ?_)
          · first | refine G_inc1 (pc := 106) f_304_106 rfl ?_ | refine G_S (pc := 106) f_304_106 rfl rfl rfl ?_
            refine G_S (pc := 109) f_304_109 rfl rfl rfl ?_
            have e := ih (i + 1) (some (.int (nI (rkN D i (D 0))))) (some (.int (nI (D 0)))) (by omega)
            rw [leastF, if_neg (show ¬ rtB D x i = true from fun q => b7 (of_decide_eq_true q))]
            exact e
          · refine G_S (pc := 104) f_304_104 rfl rfl rfl ?_
            refine G_ri (pc := 105) f_304_105 ?_
            rw [leastF, if_pos (show rtB D x i = true from decide_eq_true b7)]
            exact ⟨rfl, rfl⟩
    refine CG_in (mL := 6) (hl := false) (lv := [some (.ref 98), some (.int k), some (.int x), none, none, none]) (ll := []) rfl rfl rfl ?_
    refine G_S (pc := 0) f_304_0 rfl rfl rfl ?_
    refine G_ic (v := nI 0) (pc := 1) f_304_1 (by decide) ?_
    refine G_pI (pc := 2) f_304_2 rfl (by first | assumption | exact hK.1 _ _ rfl) ?_
    refine G_S (pc := 5) f_304_5 rfl rfl rfl ?_
    refine G_S (pc := 6) f_304_6 rfl rfl rfl ?_
    refine G_CV (pc := 7) f_304_7 rfl rfl (by decide) rfl rfl (by first | assumption | exact hK.1 _ _ rfl) (by decide) ⟨Nat.le_of_ble_eq_true rfl, Nat.le_of_ble_eq_true rfl⟩ ?_
    refine CG.mono (g_handS (W.q mQ.cod) hl) ?_
    rintro _ M1 ⟨rfl, hQ, l, W1⟩
    first | refine G_bNe (pc := 10) f_304_10 rfl (fun b1 => ?_) (fun b1 => ?_) | refine G_zneZ (pc := 10) f_304_10 rfl (by first | exact nI_toInt (by omega) | exact zI_toInt (by omega) (by omega) | rfl) (fun b1 => ?_) (fun b1 => ?_)
    · refine G_ic (v := nI 0) (pc := 15) f_304_15 (by decide) ?_
      refine G_S (pc := 16) f_304_16 rfl rfl rfl ?_
      exact G.mono (loop l M1 W1 (D 0) 0 _ _ (by omega)) (fun w M9 g => ⟨g.1, by rw [g.2]; exact mQ.cod.tr hQ⟩)
    · exact absurd trivial b1
theorem g_fareOf {e : Nat} (W : mH M l D) (h1 : 1 ≤ e) (h8 : e ≤ 8) : CG C 300 [.ref 98, .int (nI e)] M (fun w M' => w = some (.int (nI (D (30 + e)))) ∧ M' = M) := by
  have hK := W.1
  have hH := W.2
  obtain ⟨⟨a0, a1, a2, a3⟩, hl8, hD, ao⟩ := W.2
  have hn0 : _ ≤ 8 := hD.1
  have hn1 : _ ≤ 6 := hD.2.1.2
  have hn2 : _ ≤ 8 := hD.2.2.1
  refine CG_in (mL := 2) (hl := false) (lv := [some (.ref 98), some (.int (nI e))]) (ll := []) rfl rfl rfl ?_
  refine G_S (pc := 0) f_300_0 rfl rfl rfl ?_
  refine G_bi (v := nI 31) (pc := 1) f_300_1 (by decide) ?_
  refine G_S (pc := 3) f_300_3 rfl rfl rfl ?_
  first | refine G_addN (pc := 4) f_300_4 ?_ | refine G_addZ (pc := 4) f_300_4 (by first | rfl | exact nI_zI _) (by first | rfl | exact nI_zI _) ?_ | refine G_S (pc := 4) f_300_4 rfl rfl rfl ?_
  refine G_ic (v := nI 1) (pc := 5) f_300_5 (by decide) ?_
  first | refine G_subN (pc := 6) f_300_6 (by omega) ?_ | refine G_subZ (pc := 6) f_300_6 (by first | rfl | exact nI_zI _) (by first | rfl | exact nI_zI _) ?_ | refine G_S (pc := 6) f_300_6 rfl rfl rfl ?_
  refine G_CV (pc := 7) f_300_7 rfl rfl (by decide) rfl rfl (by first | assumption | exact hK.1 _ _ rfl) (by decide) ⟨Nat.le_of_ble_eq_true rfl, Nat.le_of_ble_eq_true rfl⟩ ?_
  refine CG.go (m_ofD hK hH (by omega)) ?_
  refine G_ri (pc := 10) f_300_10 ?_
  exact ⟨by rw [show 30 + e = 31 + e - 1 by omega], rfl⟩
theorem g_loop {a b : Nat} (W : mH M l D) (h1 : a < b) (h2 : b ≤ D 0) : CG C 302 [.ref 98, .int (nI a), .int (nI b)] M (fun w M' => w = some (.int (nI (loF D a b (D 0 - b)))) ∧ M' = M) := by
  have hK := W.1
  have hH := W.2
  obtain ⟨⟨a0, a1, a2, a3⟩, hl8, hD, ao⟩ := W.2
  have hn0 : _ ≤ 8 := hD.1
  have hn1 : _ ≤ 6 := hD.2.1.2
  have hn2 : _ ≤ 8 := hD.2.2.1
  have loop : ∀ i, i ≤ D 0 - b → G C 302 (7, [some (.ref 98), some (.int (nI a)), some (.int (nI b)), some (.int (nI (loF D a b i))), some (.int (nI (b + 1 + i)))], [], [], M) (fun w M' => w = some (.int (nI (loF D a b (D 0 - b)))) ∧ M' = M) := by
    refine upto (fun i hi ih => ?_)
    have hlo := loF_le D a b i
    have hf1 : b + 1 + i ≤ D 0 → D (30 + (b + 1 + i - a)) ≤ 99 := fun q => by
      have := hD.2.2.2.2.2.2.2 (b + 1 + i - a - 1) (by omega)
      rwa [show 31 + (b + 1 + i - a - 1) = 30 + (b + 1 + i - a) by omega] at this
    have hf2 := hD.2.2.2.2.2.2.2 (loF D a b i - a - 1) (by omega)
    rw [show 31 + (loF D a b i - a - 1) = 30 + (loF D a b i - a) by omega] at hf2
    refine G_S (pc := 7) f_302_7 rfl rfl rfl ?_
    refine G_S (pc := 9) f_302_9 rfl rfl rfl ?_
    refine G_gIv (pc := 10) f_302_10 (by decide) rfl (by decide) (by first | assumption | exact hK.1 _ _ rfl) (by first | assumption | (try dsimp only) <;> (repeat (first | exact up2_s | refine up2_o (by first | decide | omega) ?_)) <;> first | assumption | rfl) ?_
    refine G_jgtZ (pc := 13) f_302_13 rfl (by first | exact nI_toInt (by omega) | exact zI_toInt (by omega) (by omega) | rfl) (by first | exact nI_toInt (by omega) | exact zI_toInt (by omega) (by omega) | rfl) (fun b1 => ?_) (fun b1 => ?_)
    · refine G_S (pc := 47) f_302_47 rfl rfl rfl ?_
      refine G_ri (pc := 48) f_302_48 ?_
      rw [show i = D 0 - b by omega]
      exact ⟨rfl, rfl⟩
    · have hf1 := hf1 (by omega)
      refine G_S (pc := 16) f_302_16 rfl rfl rfl ?_
      refine G_S (pc := 17) f_302_17 rfl rfl rfl ?_
      refine G_S (pc := 19) f_302_19 rfl rfl rfl ?_
      first | refine G_subN (pc := 20) f_302_20 (by omega) ?_ | refine G_subZ (pc := 20) f_302_20 (by first | rfl | exact nI_zI _) (by first | rfl | exact nI_zI _) ?_ | refine G_S (pc := 20) f_302_20 rfl rfl rfl ?_
      refine G_CV (pc := 21) f_302_21 rfl rfl (by decide) rfl rfl (by first | assumption | exact hK.1 _ _ rfl) (by decide) ⟨Nat.le_of_ble_eq_true rfl, Nat.le_of_ble_eq_true rfl⟩ ?_
      refine CG.go (g_fareOf W (by omega) (by omega)) ?_
      refine G_S (pc := 24) f_302_24 rfl rfl rfl ?_
      refine G_S (pc := 25) f_302_25 rfl rfl rfl ?_
      refine G_S (pc := 26) f_302_26 rfl rfl rfl ?_
      first | refine G_subN (pc := 27) f_302_27 (by omega) ?_ | refine G_subZ (pc := 27) f_302_27 (by first | rfl | exact nI_zI _) (by first | rfl | exact nI_zI _) ?_ | refine G_S (pc := 27) f_302_27 rfl rfl rfl ?_
      refine G_CV (pc := 28) f_302_28 rfl rfl (by decide) rfl rfl (by first | assumption | exact hK.1 _ _ rfl) (by decide) ⟨Nat.le_of_ble_eq_true rfl, Nat.le_of_ble_eq_true rfl⟩ ?_
      refine CG.go (g_fareOf W (by omega) (by omega)) ?_
      refine G_jgeZ (pc := 31) f_302_31 rfl (by first | exact nI_toInt (by omega) | exact zI_toInt (by omega) (by omega) | rfl) (by first | exact nI_toInt (by omega) | exact zI_toInt (by omega) (by omega) | rfl) (fun b2 => ?_) (fun b2 => ?_)
      · refine G_S (pc := 39) f_302_39 rfl rfl rfl ?_
        refine G_S (pc := 40) f_302_40 rfl rfl rfl ?_
        first | refine G_inc1 (pc := 41) f_302_41 rfl ?_ | refine G_S (pc := 41) f_302_41 rfl rfl rfl ?_
        refine G_S (pc := 44) f_302_44 rfl rfl rfl ?_
        have e := ih (by omega)
        first
          | (rw [loF, if_pos (by omega)] at e; exact e)
          | (rw [loF, if_neg (by omega)] at e; exact e)
      · refine G_S (pc := 34) f_302_34 rfl rfl rfl ?_
        refine G_S (pc := 36) f_302_36 rfl rfl rfl ?_
        refine G_S (pc := 40) f_302_40 rfl rfl rfl ?_
        first | refine G_inc1 (pc := 41) f_302_41 rfl ?_ | refine G_S (pc := 41) f_302_41 rfl rfl rfl ?_
        refine G_S (pc := 44) f_302_44 rfl rfl rfl ?_
        have e := ih (by omega)
        first
          | (rw [loF, if_pos (by omega)] at e; exact e)
          | (rw [loF, if_neg (by omega)] at e; exact e)
  refine CG_in (mL := 5) (hl := false) (lv := [some (.ref 98), some (.int (nI a)), some (.int (nI b)), none, none]) (ll := []) rfl rfl rfl ?_
  refine G_S (pc := 0) f_302_0 rfl rfl rfl ?_
  refine G_S (pc := 1) f_302_1 rfl rfl rfl ?_
  refine G_S (pc := 2) f_302_2 rfl rfl rfl ?_
  refine G_ic (v := nI 1) (pc := 3) f_302_3 (by decide) ?_
  first | refine G_addN (pc := 4) f_302_4 ?_ | refine G_addZ (pc := 4) f_302_4 (by first | rfl | exact nI_zI _) (by first | rfl | exact nI_zI _) ?_ | refine G_S (pc := 4) f_302_4 rfl rfl rfl ?_
  refine G_S (pc := 5) f_302_5 rfl rfl rfl ?_
  exact loop 0 (Nat.zero_le _)
end LNT
