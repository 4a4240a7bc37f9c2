/-! which word is here -/
def eqW (t : Nat → Int) (q i : Nat) : Nat → Bool
  | 0 => true
  | j + 1 => eqW t q i j && decide (t (q + j) = (wl i j : Int))
theorem eqW_at {t : Nat → Int} {q i : Nat} : ∀ {m : Nat}, eqW t q i m = true ↔ ∀ j, j < m → t (q + j) = (wl i j : Int)
  | 0 => ⟨fun _ j h => absurd h (by omega), fun _ => rfl⟩
  | m + 1 => by
    rw [eqW, Bool.and_eq_true, eqW_at (m := m), decide_eq_true_eq]
    constructor
    · intro h j hj
      by_cases e : j = m
      · subst e
        exact h.2
      · exact h.1 j (by omega)
    · intro h
      exact ⟨fun j hj => h j (by omega), h m (by omega)⟩
def wdH (t : Nat → Int) (n p i : Nat) : Bool := decide (tkK t n p = 1) && (decide (tkR t n p = skp t n p + ln i) && eqW t (skp t n p) i (ln i))
def ffN (so : Nat) : Nat := ([0, 5, 13, 15, 18] : List Nat).getD so 0
theorem ffN_at : ∀ so, so < 5 → FFS.getD so 0 = nI (ffN so) ∧ ffN so ≤ 18 := by decide
theorem ffN_up : ∀ so, so < 4 → ffN so < ffN (so + 1) := by decide
def fmH (t : Nat → Int) (n so p : Nat) : Option Nat := leastF (wdH t n p) (ffN (so + 1) - ffN so) (ffN so)
def kdH (t : Nat → Int) (n p : Nat) : Option Nat := leastF (fun k => wdH t n p (18 + k)) 4 0
theorem leastF_lt {p : Nat → Bool} : ∀ d i c, leastF p d i = some c → i ≤ c ∧ c < i + d ∧ p c = true
  | 0, i, c, h => by cases h
  | d + 1, i, c, h => by
    rw [leastF] at h
    split at h
    · rename_i hp
      cases h
      exact ⟨Nat.le_refl _, by omega, hp⟩
    · have := leastF_lt d (i + 1) c h
      exact ⟨by omega, by omega, this.2.2⟩
theorem leastF_none {p : Nat → Bool} : ∀ d i, leastF p d i = none → ∀ c, i ≤ c → c < i + d → ¬ p c = true
  | 0, i, _, c, h1, h2 => by omega
  | d + 1, i, h, c, h1, h2 => by
    rw [leastF] at h
    split at h
    · cases h
    · rename_i hp
      by_cases e : c = i
      · subst e
        exact hp
      · exact leastF_none d (i + 1) h c (by omega) (by omega)
theorem fmH_lt {t : Nat → Int} {n so p g : Nat} (hso : so < 4) (h : fmH t n so p = some g) : ffN so ≤ g ∧ g < ffN (so + 1) ∧ g < 18 ∧ wdH t n p g = true := by
  have h1 := leastF_lt _ _ _ h
  have h2 := (ffN_at (so + 1) (by omega)).2
  have h3 := ffN_up so hso
  exact ⟨h1.1, by omega, by omega, h1.2.2⟩
section CHR
variable {C : Ct} {M : Mm} {t : Nat → Int} {n p i so : Nat}
theorem c_isHere (hC : CK C) (W : KTp M t n) (T : TCk M t n p) (hp : p ≤ n) (hi : i < 22) : CG C 86 [.ref 53, .ref (1000000 + i)] M (fun w M' => w = some (.int (b2i (wdH t n p i = true))) ∧ M' = M) := by
  obtain ⟨hK, hM, r6, v7, hn, ht⟩ := W
  obtain ⟨h8, h9, h10, _⟩ := T
  have hl := ln_at i hi
  have hr := tkR_b (t := t) hp
  have hk4 : tkK t n p ≤ 4 := by
    unfold tkK tkKq
    repeat' split
    all_goals omega
  have no : ∀ {j : Nat}, j < ln i → ¬ t (skp t n p + j) = (wl i j : Int) → ¬ wdH t n p i = true := by
    intro j hj hne q
    have := (Bool.and_eq_true _ _ ▸ (Bool.and_eq_true _ _ ▸ q).2).2
    exact hne (eqW_at.mp this j hj)
  have loop : tkK t n p = 1 → tkR t n p = skp t n p + ln i → ∀ j, j ≤ ln i → eqW t (skp t n p) i j = true → G C 86 (28, [some (.ref 53), some (.ref (1000000 + i)), some (.int (nI j))], [], [], M) (fun w M' => w = some (.int (b2i (wdH t n p i = true))) ∧ M' = M) := by
    intro hk1 hrr
    refine upto (fun j hj ih he => ?_)
    have ht1 : j < ln i → M.2.1 2 (skp t n p + j) = zI (t (skp t n p + j)) ∧ -128 ≤ t (skp t n p + j) ∧ t (skp t n p + j) < 128 := fun q => ht _ (by omega)
    have hw : j < ln i → 97 ≤ wl i j ∧ wl i j ≤ 122 := fun q => (wl_at i hi j q).2
    refine G_S (pc := 28) f_86_28 rfl rfl rfl ?_
    refine G_S (pc := 29) f_86_29 rfl rfl rfl ?_
    refine G_CVs (pc := 30) f_86_30 rfl rfl (by decide) rfl rfl (by first | assumption | exact con_none hM (by omega)) rfl (by omega) ⟨Nat.le_of_ble_eq_true rfl, Nat.le_of_ble_eq_true rfl⟩ ?_
    refine CG.go (s_length hC hM hi) ?_
    refine G_jgeZ (pc := 33) f_86_33 rfl (by first | exact nI_toInt (by omega) | exact zI_toInt (by omega) (by omega) | rfl) (by first | exact nI_toInt (by omega) | exact zI_toInt (by omega) (by omega) | rfl) (fun b3 => ?_) (fun b3 => ?_)
    · refine G_ic (v := nI 1) (pc := 63) f_86_63 (by decide) ?_
      refine G_rz (pc := 64) f_86_64 (by first | exact Or.inl rfl | exact Or.inr rfl | exact b2i_01 _ | assumption) ?_
      refine ⟨?_, rfl⟩
      congr 2
      first
        | (rw [show j = ln i by omega] at he
           refine (b2i_1 ?_).symm
           unfold wdH
           rw [Bool.and_eq_true, Bool.and_eq_true]
           exact ⟨decide_eq_true hk1, decide_eq_true hrr, he⟩)
        | exact (b2i_0 (no (by omega) b4)).symm
    · obtain ⟨t1, t2, t3⟩ := ht1 (by omega)
      have hw := hw (by omega)
      refine G_S (pc := 36) f_86_36 rfl rfl rfl ?_
      refine G_gR (pc := 37) f_86_37 (by decide) rfl (by first | assumption | exact hK.1 _ _ rfl) (by first | assumption | exact hK.2 _ _ _ rfl | (try dsimp only) <;> (repeat (first | exact up2_s | refine up2_o (by first | decide | omega) ?_)) <;> first | assumption | exact hK.2 _ _ _ rfl) ?_
      refine G_S (pc := 40) f_86_40 rfl rfl rfl ?_
      refine G_gIv (pc := 41) f_86_41 (by decide) rfl (by decide) (by first | assumption | exact hK.1 _ _ rfl) (by first | assumption | exact mI_s | ((refine mI_o (by first | decide | omega) ?_); (repeat (refine mI_o (by first | decide | omega) ?_)); first | exact mI_s | assumption) | rfl) ?_
      refine G_S (pc := 44) f_86_44 rfl rfl rfl ?_
      first | refine G_addN (pc := 45) f_86_45 ?_ | refine G_addZ (pc := 45) f_86_45 (by first | rfl | exact nI_zI _) (by first | rfl | exact nI_zI _) ?_ | refine G_S (pc := 45) f_86_45 rfl rfl rfl ?_
      refine G_baN (pc := 46) f_86_46 (by first | assumption | exact hK.1 _ _ rfl) (by decide) (by omega) (by omega) (by first | exact t1 | rfl) ?_
      refine G_S (pc := 47) f_86_47 rfl rfl rfl ?_
      refine G_S (pc := 48) f_86_48 rfl rfl rfl ?_
      refine G_CVs (pc := 49) f_86_49 rfl rfl (by decide) rfl rfl (by first | assumption | exact con_none hM (by omega)) rfl (by omega) ⟨Nat.le_of_ble_eq_true rfl, Nat.le_of_ble_eq_true rfl⟩ ?_
      refine CG.go (s_char hC hM hi (by omega)) ?_
      refine G_jeqZ (pc := 52) f_86_52 rfl (by first | exact nI_toInt (by omega) | exact zI_toInt (by omega) (by omega) | rfl) (by first | exact nI_toInt (by omega) | exact zI_toInt (by omega) (by omega) | rfl) (fun b4 => ?_) (fun b4 => ?_)
      · first | refine G_inc1 (pc := 57) f_86_57 rfl ?_ | refine G_S (pc := 57) f_86_57 rfl rfl rfl ?_
        refine G_S (pc := 60) f_86_60 rfl rfl rfl ?_
        refine ih (by omega) ?_
        rw [eqW, Bool.and_eq_true]
        exact ⟨he, decide_eq_true b4⟩
      · refine G_ic (v := nI 0) (pc := 55) f_86_55 (by decide) ?_
        refine G_rz (pc := 56) f_86_56 (by first | exact Or.inl rfl | exact Or.inr rfl | exact b2i_01 _ | assumption) ?_
        refine ⟨?_, rfl⟩
        congr 2
        first
          | (rw [show j = ln i by omega] at he
             refine (b2i_1 ?_).symm
             unfold wdH
             rw [Bool.and_eq_true, Bool.and_eq_true]
             exact ⟨decide_eq_true hk1, decide_eq_true hrr, he⟩)
          | exact (b2i_0 (no (by omega) b4)).symm
  refine CG_in (mL := 3) (hl := false) (lv := [some (.ref 53), some (.ref (1000000 + i)), none]) (ll := []) rfl rfl rfl ?_
  refine G_S (pc := 0) f_86_0 rfl rfl rfl ?_
  refine G_gIv (pc := 1) f_86_1 (by decide) rfl (by decide) (by first | assumption | exact hK.1 _ _ rfl) (by first | assumption | exact mI_s | ((refine mI_o (by first | decide | omega) ?_); (repeat (refine mI_o (by first | decide | omega) ?_)); first | exact mI_s | assumption) | rfl) ?_
  refine G_ic (v := nI 1) (pc := 4) f_86_4 (by decide) ?_
  refine G_jneZ (pc := 5) f_86_5 rfl (by first | exact nI_toInt (by omega) | exact zI_toInt (by omega) (by omega) | rfl) (by first | exact nI_toInt (by omega) | exact zI_toInt (by omega) (by omega) | rfl) (fun b1 => ?_) (fun b1 => ?_)
  · refine G_ic (v := nI 0) (pc := 24) f_86_24 (by decide) ?_
    refine G_rz (pc := 25) f_86_25 (by first | exact Or.inl rfl | exact Or.inr rfl | exact b2i_01 _ | assumption) ?_
    refine ⟨?_, rfl⟩
    congr 2
    refine (b2i_0 (fun q => ?_)).symm
    unfold wdH at q
    rw [Bool.and_eq_true, Bool.and_eq_true] at q
    have q1 := of_decide_eq_true q.1
    have q2 := of_decide_eq_true q.2.1
    omega
  · refine G_S (pc := 8) f_86_8 rfl rfl rfl ?_
    refine G_gIv (pc := 9) f_86_9 (by decide) rfl (by decide) (by first | assumption | exact hK.1 _ _ rfl) (by first | assumption | exact mI_s | ((refine mI_o (by first | decide | omega) ?_); (repeat (refine mI_o (by first | decide | omega) ?_)); first | exact mI_s | assumption) | rfl) ?_
    refine G_S (pc := 12) f_86_12 rfl rfl rfl ?_
    refine G_gIv (pc := 13) f_86_13 (by decide) rfl (by decide) (by first | assumption | exact hK.1 _ _ rfl) (by first | assumption | exact mI_s | ((refine mI_o (by first | decide | omega) ?_); (repeat (refine mI_o (by first | decide | omega) ?_)); first | exact mI_s | assumption) | rfl) ?_
    first | refine G_subN (pc := 16) f_86_16 (by omega) ?_ | refine G_subZ (pc := 16) f_86_16 (by first | rfl | exact nI_zI _) (by first | rfl | exact nI_zI _) ?_ | refine G_S (pc := 16) f_86_16 rfl rfl rfl ?_
    refine G_S (pc := 17) f_86_17 rfl rfl rfl ?_
    refine G_CVs (pc := 18) f_86_18 rfl rfl (by decide) rfl rfl (by first | assumption | exact con_none hM (by omega)) rfl (by omega) ⟨Nat.le_of_ble_eq_true rfl, Nat.le_of_ble_eq_true rfl⟩ ?_
    refine CG.go (s_length hC hM hi) ?_
    refine G_jeqZ (pc := 21) f_86_21 rfl (by first | exact nI_toInt (by omega) | exact zI_toInt (by omega) (by omega) | rfl) (by first | exact nI_toInt (by omega) | exact zI_toInt (by omega) (by omega) | rfl) (fun b2 => ?_) (fun b2 => ?_)
    · refine G_ic (v := nI 0) (pc := 26) f_86_26 (by decide) ?_
      refine G_S (pc := 27) f_86_27 rfl rfl rfl ?_
      exact loop (by omega) (by omega) 0 (Nat.zero_le _) rfl
    · refine G_ic (v := nI 0) (pc := 24) f_86_24 (by decide) ?_
      refine G_rz (pc := 25) f_86_25 (by first | exact Or.inl rfl | exact Or.inr rfl | exact b2i_01 _ | assumption) ?_
      refine ⟨?_, rfl⟩
      congr 2
      refine (b2i_0 (fun q => ?_)).symm
      unfold wdH at q
      rw [Bool.and_eq_true, Bool.and_eq_true] at q
      have q1 := of_decide_eq_true q.1
      have q2 := of_decide_eq_true q.2.1
      omega
theorem c_formHere (hC : CK C) (W : KTp M t n) (T : TCk M t n p) (hp : p ≤ n) (hs : so < 4) : CG C 84 [.ref 53, .int (nI so)] M (fun w M' => w = some (.int (oI (fmH t n so p))) ∧ M' = M) := by
  have hK := W.1
  have hM := W.2.1
  have hf0 := ffN_at so (by omega)
  have hf1 := ffN_at (so + 1) (by omega)
  have hup := ffN_up so hs
  have loop : ∀ d g, g + d = ffN (so + 1) → G C 84 (6, [some (.ref 53), some (.int (nI so)), some (.int (nI g))], [], [], M) (fun w M' => w = some (.int (oI (leastF (wdH t n p) d g))) ∧ M' = M) := by
    intro d
    induction d with
    | zero =>
      intro g hg
      refine G_S (pc := 6) f_84_6 rfl rfl rfl ?_
      refine G_S (pc := 7) f_84_7 rfl rfl rfl ?_
      refine G_S (pc := 10) f_84_10 rfl rfl rfl ?_
      refine G_ic (v := nI 1) (pc := 11) f_84_11 (by decide) ?_
      first | refine G_addN (pc := 12) f_84_12 ?_ | refine G_addZ (pc := 12) f_84_12 (by first | rfl | exact nI_zI _) (by first | rfl | exact nI_zI _) ?_ | refine G_S (pc := 12) f_84_12 rfl rfl rfl ?_
      refine G_iacN (pc := 13) f_84_13 (con_none hM (by decide)) hC.1 (by omega) (by decide) hf1.1 ?_
      refine G_jgeZ (pc := 14) f_84_14 rfl (by first | exact nI_toInt (by omega) | exact zI_toInt (by omega) (by omega) | rfl) (by first | exact nI_toInt (by omega) | exact zI_toInt (by omega) (by omega) | rfl) (fun b1 => ?_) (fun b1 => ?_)
      · refine G_ic (v := zI (-1)) (pc := 36) f_84_36 (by decide) ?_
        refine G_ri (pc := 37) f_84_37 ?_
        exact ⟨rfl, rfl⟩
      · exfalso; omega
    | succ d ih =>
      intro g hg
      refine G_S (pc := 6) f_84_6 rfl rfl rfl ?_
      refine G_S (pc := 7) f_84_7 rfl rfl rfl ?_
      refine G_S (pc := 10) f_84_10 rfl rfl rfl ?_
      refine G_ic (v := nI 1) (pc := 11) f_84_11 (by decide) ?_
      first | refine G_addN (pc := 12) f_84_12 ?_ | refine G_addZ (pc := 12) f_84_12 (by first | rfl | exact nI_zI _) (by first | rfl | exact nI_zI _) ?_ | refine G_S (pc := 12) f_84_12 rfl rfl rfl ?_
      refine G_iacN (pc := 13) f_84_13 (con_none hM (by decide)) hC.1 (by omega) (by decide) hf1.1 ?_
      refine G_jgeZ (pc := 14) f_84_14 rfl (by first | exact nI_toInt (by omega) | exact zI_toInt (by omega) (by omega) | rfl) (by first | exact nI_toInt (by omega) | exact zI_toInt (by omega) (by omega) | rfl) (fun b1 => ?_) (fun b1 => ?_)
      · exfalso; omega
      · refine G_S (pc := 17) f_84_17 rfl rfl rfl ?_
        refine G_S (pc := 18) f_84_18 rfl rfl rfl ?_
        refine G_CS (pc := 19) f_84_19 rfl rfl (by decide) rfl rfl ⟨Nat.le_of_ble_eq_true rfl, Nat.le_of_ble_eq_true rfl⟩ ?_
        refine CG.go (k_form (by omega)) ?_
        refine G_CV (pc := 22) f_84_22 rfl rfl (by decide) rfl rfl (by first | assumption | exact hK.1 _ _ rfl) (by decide) ⟨Nat.le_of_ble_eq_true rfl, Nat.le_of_ble_eq_true rfl⟩ ?_
        refine CG.go (c_isHere hC W T hp (by omega)) ?_
        first | refine G_bEq (pc := 25) f_84_25 rfl (fun b2 => ?_) (fun b2 => ?_) | refine G_zeqZ (pc := 25) f_84_25 rfl (by first | exact nI_toInt (by omega) | exact zI_toInt (by omega) (by omega) | rfl) (fun b2 => ?_) (fun b2 => ?_)
        · first | refine G_inc1 (pc := 30) f_84_30 rfl ?_ | refine G_S (pc := 30) f_84_30 rfl rfl rfl ?_
          refine G_S (pc := 33) f_84_33 rfl rfl rfl ?_
          have e := ih (g + 1) (by omega)
          rw [leastF, if_neg b2]
          exact e
        · refine G_S (pc := 28) f_84_28 rfl rfl rfl ?_
          refine G_ri (pc := 29) f_84_29 ?_
          rw [leastF, if_pos b2]
          exact ⟨rfl, rfl⟩
  refine CG_in (mL := 3) (hl := false) (lv := [some (.ref 53), some (.int (nI so)), none]) (ll := []) rfl rfl rfl ?_
  refine G_S (pc := 0) f_84_0 rfl rfl rfl ?_
  refine G_S (pc := 3) f_84_3 rfl rfl rfl ?_
  refine G_iacN (pc := 4) f_84_4 (con_none hM (by decide)) hC.1 (by omega) (by decide) hf0.1 ?_
  refine G_S (pc := 5) f_84_5 rfl rfl rfl ?_
  exact loop (ffN (so + 1) - ffN so) (ffN so) (by omega)
theorem c_kindHere (hC : CK C) (W : KTp M t n) (T : TCk M t n p) (hp : p ≤ n) : CG C 85 [.ref 53] M (fun w M' => w = some (.int (oI (kdH t n p))) ∧ M' = M) := by
  have hK := W.1
  have loop : ∀ d g, g + d = 4 → G C 85 (2, [some (.ref 53), some (.int (nI g))], [], [], M) (fun w M' => w = some (.int (oI (leastF (fun k => wdH t n p (18 + k)) d g))) ∧ M' = M) := by
    intro d
    induction d with
    | zero =>
      intro g hg
      refine G_S (pc := 2) f_85_2 rfl rfl rfl ?_
      refine G_ic (v := nI 4) (pc := 3) f_85_3 (by decide) ?_
      refine G_jgeZ (pc := 4) f_85_4 rfl (by first | exact nI_toInt (by omega) | exact zI_toInt (by omega) (by omega) | rfl) (by first | exact nI_toInt (by omega) | exact zI_toInt (by omega) (by omega) | rfl) (fun b1 => ?_) (fun b1 => ?_)
      · refine G_ic (v := zI (-1)) (pc := 26) f_85_26 (by decide) ?_
        refine G_ri (pc := 27) f_85_27 ?_
        exact ⟨rfl, rfl⟩
      · exfalso; omega
    | succ d ih =>
      intro g hg
      refine G_S (pc := 2) f_85_2 rfl rfl rfl ?_
      refine G_ic (v := nI 4) (pc := 3) f_85_3 (by decide) ?_
      refine G_jgeZ (pc := 4) f_85_4 rfl (by first | exact nI_toInt (by omega) | exact zI_toInt (by omega) (by omega) | rfl) (by first | exact nI_toInt (by omega) | exact zI_toInt (by omega) (by omega) | rfl) (fun b1 => ?_) (fun b1 => ?_)
      · exfalso; omega
      · refine G_S (pc := 7) f_85_7 rfl rfl rfl ?_
        refine G_S (pc := 8) f_85_8 rfl rfl rfl ?_
        refine G_CS (pc := 9) f_85_9 rfl rfl (by decide) rfl rfl ⟨Nat.le_of_ble_eq_true rfl, Nat.le_of_ble_eq_true rfl⟩ ?_
        refine CG.go (k_word (by omega)) ?_
        refine G_CV (pc := 12) f_85_12 rfl rfl (by decide) rfl rfl (by first | assumption | exact hK.1 _ _ rfl) (by decide) ⟨Nat.le_of_ble_eq_true rfl, Nat.le_of_ble_eq_true rfl⟩ ?_
        refine CG.go (c_isHere hC W T hp (by omega)) ?_
        first | refine G_bEq (pc := 15) f_85_15 rfl (fun b2 => ?_) (fun b2 => ?_) | refine G_zeqZ (pc := 15) f_85_15 rfl (by first | exact nI_toInt (by omega) | exact zI_toInt (by omega) (by omega) | rfl) (fun b2 => ?_) (fun b2 => ?_)
        · first | refine G_inc1 (pc := 20) f_85_20 rfl ?_ | refine G_S (pc := 20) f_85_20 rfl rfl rfl ?_
          refine G_S (pc := 23) f_85_23 rfl rfl rfl ?_
          have e := ih (g + 1) (by omega)
          rw [leastF, if_neg b2]
          exact e
        · refine G_S (pc := 18) f_85_18 rfl rfl rfl ?_
          refine G_ri (pc := 19) f_85_19 ?_
          rw [leastF, if_pos b2]
          exact ⟨rfl, rfl⟩
  refine CG_in (mL := 2) (hl := false) (lv := [some (.ref 53), none]) (ll := []) rfl rfl rfl ?_
  refine G_ic (v := nI 0) (pc := 0) f_85_0 (by decide) ?_
  refine G_S (pc := 1) f_85_1 rfl rfl rfl ?_
  exact loop 4 0 rfl
end CHR
