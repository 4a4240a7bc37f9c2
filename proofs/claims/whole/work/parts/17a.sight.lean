/-! sights -/
section GU
variable {C : Ct} {y pc len o i k : Nat} {lv : Lv} {ll : Ll} {st : List Value} {M : Mm} {Q : Option Value → Mm → Prop} {ret : Option FieldType}
theorem G_ushrN (hf : fe y pc = some (.iushr, len, o, ret)) (hi : i < 2 ^ 32) (hk : (((nI k).toUInt32 &&& Int32.toUInt32 31).toBitVec % 32).toNat = k) (K : G C y (pc + 1, lv, ll, .int (nI (i / 2 ^ k)) :: st, M) Q) : G C y (pc, lv, ll, .int (nI k) :: .int (nI i) :: st, M) Q := by
  rw [← pk_ushrN hi (nI k) k hk] at K
  exact G_S hf rfl rfl rfl K
end GU
/-- the lowest bit -/
def ntzF (S : Nat) : Nat := if S.testBit 0 then 0 else if S.testBit 1 then 1 else if S.testBit 2 then 2 else if S.testBit 3 then 3 else if S.testBit 4 then 4 else if S.testBit 5 then 5 else if S.testBit 6 then 6 else 7
theorem ntz_bits : ∀ S, S < 256 → 0 < S → (nI S ^^^ zI (-1)) &&& (nI S - nI 1) = nI (2 ^ ntzF S - 1) := by decide +kernel
theorem ntz_lt (S : Nat) : ntzF S < 8 := by
  unfold ntzF
  repeat' split
  all_goals omega
theorem ntz_pw (S : Nat) : (ntzF S = 0 ∧ 2 ^ ntzF S - 1 = 0) ∨ (ntzF S = 1 ∧ 2 ^ ntzF S - 1 = 1) ∨ (ntzF S = 2 ∧ 2 ^ ntzF S - 1 = 3) ∨ (ntzF S = 3 ∧ 2 ^ ntzF S - 1 = 7) ∨ (ntzF S = 4 ∧ 2 ^ ntzF S - 1 = 15) ∨ (ntzF S = 5 ∧ 2 ^ ntzF S - 1 = 31) ∨ (ntzF S = 6 ∧ 2 ^ ntzF S - 1 = 63) ∨ (ntzF S = 7 ∧ 2 ^ ntzF S - 1 = 127) := by
  have h := ntz_lt S
  generalize ntzF S = t at h ⊢
  rcases (show t = 0 ∨ t = 1 ∨ t = 2 ∨ t = 3 ∨ t = 4 ∨ t = 5 ∨ t = 6 ∨ t = 7 by omega) with rfl | rfl | rfl | rfl | rfl | rfl | rfl | rfl <;> decide
theorem j_ntz {C : Ct} {M : Mm} {S : Nat} (h0 : 0 < S) (hS : S < 256) : CG C 322 [.int (nI S)] M (fun w M' => w = some (.int (nI (ntzF S))) ∧ M' = M) := by
  have hp := ntz_pw S
  have hb := ntz_bits S hS h0
  generalize hv : 2 ^ ntzF S - 1 = v at hp hb
  have hv2 : v ≤ 127 := by omega
  refine CG_in (mL := 2) (hl := false) (lv := [some (.int (nI S)), none]) (ll := []) rfl rfl rfl ?_
  refine G_S (pc := 0) f_322_0 rfl rfl rfl ?_
  refine G_ic (v := zI (-1)) (pc := 1) f_322_1 (by decide) ?_
  first | refine G_xorN (pc := 2) f_322_2 ?_ | refine G_S (pc := 2) f_322_2 rfl rfl rfl ?_
  refine G_S (pc := 3) f_322_3 rfl rfl rfl ?_
  refine G_ic (v := nI 1) (pc := 4) f_322_4 (by decide) ?_
  refine G_S (pc := 5) f_322_5 rfl rfl rfl ?_
  first | refine G_andN (pc := 6) f_322_6 ?_ | refine G_andnN (pc := 6) f_322_6 ?_ | refine G_S (pc := 6) f_322_6 rfl rfl rfl ?_
  rw [hb]
  refine G_S (pc := 7) f_322_7 rfl rfl rfl ?_
  refine G_S (pc := 8) f_322_8 rfl rfl rfl ?_
  refine G_zgtZ (pc := 9) f_322_9 rfl (by first | exact nI_toInt (by omega) | exact zI_toInt (by omega) (by omega) | rfl) (fun b1 => ?_) (fun b1 => ?_)
  · refine G_ic (v := nI 1) (pc := 17) f_322_17 (by decide) ?_
    refine G_S (pc := 18) f_322_18 rfl rfl rfl ?_
    refine G_S (pc := 19) f_322_19 rfl rfl rfl ?_
    refine G_lc (v := zI 65536) (pc := 20) f_322_20 rfl (by decide) ?_
    refine G_jleZ (pc := 23) f_322_23 rfl (by first | exact nI_toInt (by omega) | exact zI_toInt (by omega) (by omega) | rfl) (by first | exact nI_toInt (by omega) | exact zI_toInt (by omega) (by omega) | rfl) (fun b2 => ?_) (fun b2 => ?_)
    · refine G_S (pc := 34) f_322_34 rfl rfl rfl ?_
      refine G_si (v := nI 256) (pc := 35) f_322_35 (by decide) ?_
      refine G_jleZ (pc := 38) f_322_38 rfl (by first | exact nI_toInt (by omega) | exact zI_toInt (by omega) (by omega) | rfl) (by first | exact nI_toInt (by omega) | exact zI_toInt (by omega) (by omega) | rfl) (fun b3 => ?_) (fun b3 => ?_)
      · refine G_S (pc := 49) f_322_49 rfl rfl rfl ?_
        refine G_bi (v := nI 16) (pc := 50) f_322_50 (by decide) ?_
        refine G_jleZ (pc := 52) f_322_52 rfl (by first | exact nI_toInt (by omega) | exact zI_toInt (by omega) (by omega) | rfl) (by first | exact nI_toInt (by omega) | exact zI_toInt (by omega) (by omega) | rfl) (fun b4 => ?_) (fun b4 => ?_)
        · refine G_S (pc := 62) f_322_62 rfl rfl rfl ?_
          refine G_ic (v := nI 4) (pc := 63) f_322_63 (by decide) ?_
          refine G_jleZ (pc := 64) f_322_64 rfl (by first | exact nI_toInt (by omega) | exact zI_toInt (by omega) (by omega) | rfl) (by first | exact nI_toInt (by omega) | exact zI_toInt (by omega) (by omega) | rfl) (fun b5 => ?_) (fun b5 => ?_)
          · refine G_S (pc := 74) f_322_74 rfl rfl rfl ?_
            refine G_S (pc := 75) f_322_75 rfl rfl rfl ?_
            refine G_ic (v := nI 1) (pc := 76) f_322_76 (by decide) ?_
            first | refine G_ushrN (pc := 77) f_322_77 (by omega) (by decide) ?_ | refine G_S (pc := 77) f_322_77 rfl rfl rfl ?_
            first | refine G_addN (pc := 78) f_322_78 ?_ | refine G_addZ (pc := 78) f_322_78 (by first | rfl | exact nI_zI _) (by first | rfl | exact nI_zI _) ?_ | refine G_S (pc := 78) f_322_78 rfl rfl rfl ?_
            refine G_ri (pc := 79) f_322_79 ?_
            refine ⟨?_, rfl⟩
            first
              | (congr 2; congr 1; omega)
              | (rw [show v = 0 by omega, show ntzF S = 0 by omega]; rfl)
          · first | refine G_incN (pc := 67) f_322_67 rfl (by decide) ?_ | refine G_incZ (pc := 67) f_322_67 rfl (by first | rfl | exact nI_zI _) ?_ | refine G_S (pc := 67) f_322_67 rfl rfl rfl ?_
            refine G_S (pc := 70) f_322_70 rfl rfl rfl ?_
            refine G_ic (v := nI 2) (pc := 71) f_322_71 (by decide) ?_
            first | refine G_ushrN (pc := 72) f_322_72 (by omega) (by decide) ?_ | refine G_S (pc := 72) f_322_72 rfl rfl rfl ?_
            refine G_S (pc := 73) f_322_73 rfl rfl rfl ?_
            refine G_S (pc := 74) f_322_74 rfl rfl rfl ?_
            refine G_S (pc := 75) f_322_75 rfl rfl rfl ?_
            refine G_ic (v := nI 1) (pc := 76) f_322_76 (by decide) ?_
            first | refine G_ushrN (pc := 77) f_322_77 (by omega) (by decide) ?_ | refine G_S (pc := 77) f_322_77 rfl rfl rfl ?_
            first | refine G_addN (pc := 78) f_322_78 ?_ | refine G_addZ (pc := 78) f_322_78 (by first | rfl | exact nI_zI _) (by first | rfl | exact nI_zI _) ?_ | refine G_S (pc := 78) f_322_78 rfl rfl rfl ?_
            refine G_ri (pc := 79) f_322_79 ?_
            refine ⟨?_, rfl⟩
            first
              | (congr 2; congr 1; omega)
              | (rw [show v = 0 by omega, show ntzF S = 0 by omega]; rfl)
        · first | refine G_incN (pc := 55) f_322_55 rfl (by decide) ?_ | refine G_incZ (pc := 55) f_322_55 rfl (by first | rfl | exact nI_zI _) ?_ | refine G_S (pc := 55) f_322_55 rfl rfl rfl ?_
          refine G_S (pc := 58) f_322_58 rfl rfl rfl ?_
          refine G_ic (v := nI 4) (pc := 59) f_322_59 (by decide) ?_
          first | refine G_ushrN (pc := 60) f_322_60 (by omega) (by decide) ?_ | refine G_S (pc := 60) f_322_60 rfl rfl rfl ?_
          refine G_S (pc := 61) f_322_61 rfl rfl rfl ?_
          refine G_S (pc := 62) f_322_62 rfl rfl rfl ?_
          refine G_ic (v := nI 4) (pc := 63) f_322_63 (by decide) ?_
          refine G_jleZ (pc := 64) f_322_64 rfl (by first | exact nI_toInt (by omega) | exact zI_toInt (by omega) (by omega) | rfl) (by first | exact nI_toInt (by omega) | exact zI_toInt (by omega) (by omega) | rfl) (fun b5 => ?_) (fun b5 => ?_)
          · refine G_S (pc := 74) f_322_74 rfl rfl rfl ?_
            refine G_S (pc := 75) f_322_75 rfl rfl rfl ?_
            refine G_ic (v := nI 1) (pc := 76) f_322_76 (by decide) ?_
            first | refine G_ushrN (pc := 77) f_322_77 (by omega) (by decide) ?_ | refine G_S (pc := 77) f_322_77 rfl rfl rfl ?_
            first | refine G_addN (pc := 78) f_322_78 ?_ | refine G_addZ (pc := 78) f_322_78 (by first | rfl | exact nI_zI _) (by first | rfl | exact nI_zI _) ?_ | refine G_S (pc := 78) f_322_78 rfl rfl rfl ?_
            refine G_ri (pc := 79) f_322_79 ?_
            refine ⟨?_, rfl⟩
            first
              | (congr 2; congr 1; omega)
              | (rw [show v = 0 by omega, show ntzF S = 0 by omega]; rfl)
          · first | refine G_incN (pc := 67) f_322_67 rfl (by decide) ?_ | refine G_incZ (pc := 67) f_322_67 rfl (by first | rfl | exact nI_zI _) ?_ | refine G_S (pc := 67) f_322_67 rfl rfl rfl ?_
            refine G_S (pc := 70) f_322_70 rfl rfl rfl ?_
            refine G_ic (v := nI 2) (pc := 71) f_322_71 (by decide) ?_
            first | refine G_ushrN (pc := 72) f_322_72 (by omega) (by decide) ?_ | refine G_S (pc := 72) f_322_72 rfl rfl rfl ?_
            refine G_S (pc := 73) f_322_73 rfl rfl rfl ?_
            refine G_S (pc := 74) f_322_74 rfl rfl rfl ?_
            refine G_S (pc := 75) f_322_75 rfl rfl rfl ?_
            refine G_ic (v := nI 1) (pc := 76) f_322_76 (by decide) ?_
            first | refine G_ushrN (pc := 77) f_322_77 (by omega) (by decide) ?_ | refine G_S (pc := 77) f_322_77 rfl rfl rfl ?_
            first | refine G_addN (pc := 78) f_322_78 ?_ | refine G_addZ (pc := 78) f_322_78 (by first | rfl | exact nI_zI _) (by first | rfl | exact nI_zI _) ?_ | refine G_S (pc := 78) f_322_78 rfl rfl rfl ?_
            refine G_ri (pc := 79) f_322_79 ?_
            refine ⟨?_, rfl⟩
            first
              | (congr 2; congr 1; omega)
              | (rw [show v = 0 by omega, show ntzF S = 0 by omega]; rfl)
      · exfalso; omega
    · exfalso; omega
  · refine G_S (pc := 12) f_322_12 rfl rfl rfl ?_
    refine G_bi (v := nI 32) (pc := 13) f_322_13 (by decide) ?_
    first | refine G_andN (pc := 15) f_322_15 ?_ | refine G_andnN (pc := 15) f_322_15 ?_ | refine G_S (pc := 15) f_322_15 rfl rfl rfl ?_
    refine G_ri (pc := 16) f_322_16 ?_
    refine ⟨?_, rfl⟩
    first
      | (congr 2; congr 1; omega)
      | (rw [show v = 0 by omega, show ntzF S = 0 by omega]; rfl)
/-- what a stranger bears in a way -/
def brw (w s : Nat) : Nat := w / 10 ^ s % 10
theorem brw_le (w s : Nat) : brw w s ≤ 9 := by
  unfold brw
  omega
def tgN (w set : Nat) : Nat → Nat
  | 0 => 0
  | s + 1 => tgN w set s + (if set.testBit s then brw w s else 0)
def tg (w set : Nat) : Nat := tgN w set 4
theorem tgN_le (w set : Nat) : ∀ n, tgN w set n ≤ n * 9
  | 0 => Nat.le_refl _
  | n + 1 => by
    have := tgN_le w set n
    have := brw_le w n
    rw [tgN, Nat.succ_mul]
    split <;> omega
theorem tg_le (w set : Nat) : tg w set ≤ 36 := tgN_le w set 4
theorem tg_low (w : Nat) : ∀ set, 0 < set → set < 16 → tg w (set &&& (set - 1)) + brw w (ntzF set) = tg w set := by
  intro set h0 h1
  unfold tg
  rcases (show set = 1 ∨ set = 2 ∨ set = 3 ∨ set = 4 ∨ set = 5 ∨ set = 6 ∨ set = 7 ∨ set = 8 ∨ set = 9 ∨ set = 10 ∨ set = 11 ∨ set = 12 ∨ set = 13 ∨ set = 14 ∨ set = 15 by omega) with rfl | rfl | rfl | rfl | rfl | rfl | rfl | rfl | rfl | rfl | rfl | rfl | rfl | rfl | rfl <;> simp [tgN, ntzF, Nat.testBit] <;> omega
def SOK (Z : Nat → Nat) : Prop := (1 ≤ Z 0 ∧ Z 0 ≤ 4) ∧ Z 1 ≤ 10 ∧ ∀ k, k < Z 1 → Z (2 + 3 * k) ≤ 1 ∧ Z (3 + 3 * k) < 2 ^ Z 0 ∧ Z (4 + 3 * k) ≤ 99
def ftN (Z : Nat → Nat) (w : Nat) : Nat → Bool
  | 0 => true
  | k + 1 => ftN Z w k && (decide (Z (4 + 3 * k) ≤ tg w (Z (3 + 3 * k))) == decide (Z (2 + 3 * k) = 1))
def ftB (Z : Nat → Nat) (w : Nat) : Bool := ftN Z w (Z 1)
theorem ftN_f {Z : Nat → Nat} {w i : Nat} (h : ¬ ftN Z w i = true) : ∀ {j}, i ≤ j → ¬ ftN Z w j = true := by
  intro j hj
  induction hj with
  | refl => exact h
  | step _ ih => exact fun q => ih (band.mp q).1
def loO (Z : Nat → Nat) (s : Nat) : Nat → Option Nat
  | 0 => none
  | w + 1 => if ftB Z w then (match loO Z s w with
    | none => some (brw w s)
    | some m => some (min m (brw w s))) else loO Z s w
def hiO (Z : Nat → Nat) (s : Nat) : Nat → Option Nat
  | 0 => none
  | w + 1 => if ftB Z w then (match hiO Z s w with
    | none => some (brw w s)
    | some m => some (max m (brw w s))) else hiO Z s w
theorem lo_c {Z : Nat → Nat} {s : Nat} : ∀ n, (cntF (ftB Z) n = 0 → loO Z s n = none ∧ hiO Z s n = none) ∧ (cntF (ftB Z) n ≠ 0 → ∃ a b, loO Z s n = some a ∧ hiO Z s n = some b ∧ a ≤ 9 ∧ b ≤ 9)
  | 0 => ⟨fun _ => ⟨rfl, rfl⟩, fun h => absurd rfl h⟩
  | n + 1 => by
    have ih := lo_c (Z := Z) (s := s) n
    have hb := brw_le n s
    rw [cntF, loO, hiO]
    split
    · refine ⟨fun h => absurd h (by omega), fun _ => ?_⟩
      by_cases hc : cntF (ftB Z) n = 0
      · obtain ⟨e1, e2⟩ := ih.1 hc
        rw [e1, e2]
        exact ⟨_, _, rfl, rfl, hb, hb⟩
      · obtain ⟨a, b, e1, e2, h1, h2⟩ := ih.2 hc
        rw [e1, e2]
        exact ⟨_, _, rfl, rfl, by omega, by omega⟩
    · exact ih
def tlB (Z : Nat → Nat) (set h w : Nat) : Bool := ftB Z w && decide (tg w set = h)
def blN (Z : Nat → Nat) (set n : Nat) : Nat → Nat
  | 0 => 0
  | m + 1 => blN Z set n m + cntF (tlB Z set m) n
theorem blN_s {Z : Nat → Nat} {set n : Nat} : ∀ m, blN Z set (n + 1) m = blN Z set n m + (if ftB Z n = true ∧ tg n set < m then 1 else 0)
  | 0 => by
    rw [if_neg (by omega)]
    rfl
  | m + 1 => by
    rw [blN, blN, blN_s m, cntF]
    by_cases hf : ftB Z n = true
    · by_cases ht : tg n set = m
      · rw [if_pos (show tlB Z set m n = true from band.mpr ⟨hf, decide_eq_true ht⟩), if_neg (by omega), if_pos ⟨hf, by omega⟩]
        omega
      · rw [if_neg (show ¬ tlB Z set m n = true from fun q => ht (of_decide_eq_true (band.mp q).2))]
        by_cases hl : tg n set < m
        · rw [if_pos ⟨hf, hl⟩, if_pos ⟨hf, by omega⟩]
          omega
        · rw [if_neg (fun q => hl q.2), if_neg (fun q => by omega)]
          omega
    · rw [if_neg (show ¬ tlB Z set m n = true from fun q => hf (band.mp q).1), if_neg (fun q => hf q.1), if_neg (fun q => hf q.1)]
      omega
theorem blN_le {Z : Nat → Nat} {set m : Nat} : ∀ n, blN Z set n m ≤ cntF (ftB Z) n
  | 0 => by
    have : ∀ m, blN Z set 0 m = 0 := by
      intro m
      induction m with
      | zero => rfl
      | succ m ih => rw [blN, ih]; rfl
    rw [this]
    exact Nat.zero_le _
  | n + 1 => by
    have ih := blN_le (Z := Z) (set := set) (m := m) n
    rw [blN_s, cntF]
    by_cases hf : ftB Z n = true
    · rw [if_pos hf]
      split <;> omega
    · rw [if_neg hf, if_neg (fun q => hf q.1)]
      exact ih
/-- the greater number of those that fit, climbing or not -/
def grN (Z : Nat → Nat) (N set h : Nat) : Nat := max (blN Z set N h) (cntF (ftB Z) N - blN Z set N h)
theorem grN_le {Z : Nat → Nat} {N set h : Nat} : grN Z N set h ≤ cntF (ftB Z) N := by
  have := blN_le (Z := Z) (set := set) (m := h) N
  unfold grN
  omega
def qB (Z : Nat → Nat) (N set m : Nat) : Option (Nat × Nat) → Option (Nat × Nat)
  | none => some (40 * set + m, grN Z N set m)
  | some q => if grN Z N set m < q.2 then some (40 * set + m, grN Z N set m) else some q
def qI (Z : Nat → Nat) (N set : Nat) : Nat → Option (Nat × Nat) → Option (Nat × Nat)
  | 0, a => a
  | m + 1, a => qB Z N set (m + 1) (qI Z N set m a)
def qS (Z : Nat → Nat) (N : Nat) : Nat → Option (Nat × Nat)
  | 0 => none
  | set + 1 => if set = 0 then none else qI Z N set 36 (qS Z N set)
def q1I : Option (Nat × Nat) → Int32
  | none => zI (-1)
  | some q => nI q.1
def fiF (Z : Nat → Nat) (x : Int32) : Int32 := if x.toInt = 0 then nI (cntF (ftB Z) (10 ^ Z 0)) else if x.toInt = 1 then (if cntF (ftB Z) (10 ^ Z 0) = 0 then zI (-1) else q1I (qS Z (10 ^ Z 0) (2 ^ Z 0))) else if 10 ≤ x.toInt ∧ x.toInt < 10 + (Z 0 : Int) then oI (loO Z (x.toInt.toNat - 10) (10 ^ Z 0)) else if 20 ≤ x.toInt ∧ x.toInt < 20 + (Z 0 : Int) then oI (hiO Z (x.toInt.toNat - 20) (10 ^ Z 0)) else zI (-2)
def faF (Z : Nat → Nat) (k x : Int32) : Int32 := if k.toInt = -1 then (if x.toInt = 0 then nI (Z 0) else if x.toInt = 1 then nI (Z 1) else zI (-2)) else if (0 ≤ k.toInt ∧ k.toInt < (Z 1 : Int)) ∧ 0 ≤ x.toInt ∧ x.toInt ≤ 2 then nI (Z (2 + 3 * k.toInt.toNat + x.toInt.toNat)) else zI (-2)
theorem p10 {n : Nat} (h : n ≤ 4) : 10 ^ n ≤ 10000 ∧ 1 ≤ 10 ^ n := by
  rcases (show n = 0 ∨ n = 1 ∨ n = 2 ∨ n = 3 ∨ n = 4 by omega) with rfl | rfl | rfl | rfl | rfl <;> decide
theorem p2 {n : Nat} (h : n ≤ 4) : 2 ^ n ≤ 16 ∧ 1 ≤ 2 ^ n := by
  rcases (show n = 0 ∨ n = 1 ∨ n = 2 ∨ n = 3 ∨ n = 4 by omega) with rfl | rfl | rfl | rfl | rfl <;> decide
