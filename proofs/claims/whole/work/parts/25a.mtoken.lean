/-! the reference's tokens -/
theorem pk_step {p c : Nat} (hp : p < 2 ^ 56) (hc : c < 256) : (nL p <<< ((nI 8).toInt64 &&& 63)) ||| (nI c).toInt64 = nL (p * 256 + c) := by
  have e8 : (nI 8).toInt64 &&& 63 = 8 := by decide
  rw [e8, nI_toL (by omega)]
  refine Int64.toBitVec_inj.mp ?_
  rw [Int64.toBitVec_or, Int64.toBitVec_shiftLeft]
  have e : (8 : Int64).toBitVec.smod 64 = 8#64 := by decide
  rw [e]
  refine BitVec.eq_of_toNat_eq ?_
  rw [BitVec.toNat_or, BitVec.shiftLeft_eq', BitVec.toNat_shiftLeft]
  show (BitVec.ofNat 64 p).toNat <<< 8 % 2 ^ 64 ||| (BitVec.ofNat 64 c).toNat = (BitVec.ofNat 64 (p * 256 + c)).toNat
  rw [BitVec.toNat_ofNat, BitVec.toNat_ofNat, BitVec.toNat_ofNat, Nat.mod_eq_of_lt (show p < 2 ^ 64 by omega), Nat.mod_eq_of_lt (show c < 2 ^ 64 by omega), Nat.shiftLeft_eq, Nat.mod_eq_of_lt (show p * 2 ^ 8 < 2 ^ 64 by omega), Nat.mod_eq_of_lt (show p * 256 + c < 2 ^ 64 by omega)]
  have := Nat.shiftLeft_add_eq_or_of_lt (show c < 2 ^ 8 by omega) p
  rw [Nat.shiftLeft_eq] at this
  rw [← this]
theorem nL_inj {a b : Nat} (ha : a < 2 ^ 64) (hb : b < 2 ^ 64) (h : nL a = nL b) : a = b := by
  have h1 : (BitVec.ofNat 64 a).toNat = (BitVec.ofNat 64 b).toNat := congrArg (fun z : Int64 => z.toBitVec.toNat) h
  rw [BitVec.toNat_ofNat, BitVec.toNat_ofNat, Nat.mod_eq_of_lt ha, Nat.mod_eq_of_lt hb] at h1
  exact h1
def pkB (w : Nat → Nat) : Nat → Nat
  | 0 => 0
  | j + 1 => pkB w j * 256 + w j
theorem pkB_lt {w : Nat → Nat} : ∀ j, (∀ k, k < j → w k < 256) → pkB w j < 256 ^ j
  | 0, _ => by show 0 < 1; omega
  | j + 1, h => by
    have h1 := pkB_lt j (fun k hk => h k (by omega))
    have h2 := h j (by omega)
    rw [pkB, Nat.pow_succ]
    omega
theorem pkB_inj {w w' : Nat → Nat} : ∀ j j', (∀ k, k < j → 1 ≤ w k ∧ w k < 256) → (∀ k, k < j' → 1 ≤ w' k ∧ w' k < 256) → pkB w j = pkB w' j' → j = j' ∧ ∀ k, k < j → w k = w' k
  | 0, 0, _, _, _ => ⟨rfl, fun k hk => absurd hk (by omega)⟩
  | 0, j' + 1, _, h', e => by
    have := h' j' (by omega)
    rw [pkB, pkB] at e
    omega
  | j + 1, 0, h, _, e => by
    have := h j (by omega)
    rw [pkB, pkB] at e
    omega
  | j + 1, j' + 1, h, h', e => by
    have h1 := h j (by omega)
    have h2 := h' j' (by omega)
    rw [pkB, pkB] at e
    have ih := pkB_inj j j' (fun k hk => h k (by omega)) (fun k hk => h' k (by omega)) (by omega)
    refine ⟨by omega, fun k hk => ?_⟩
    by_cases q : k = j
    · subst q
      rw [← ih.1] at h2 e
      omega
    · exact ih.2 k (by omega)
def wk (i : Nat) : Nat := pkB (wl i) (ln i)
def wvF (t : Nat → Int) (n p : Nat) : Int64 := if tkK t n p = 1 ∧ tkR t n p - skp t n p ≤ 8 then nL (pkB (fun k => (t (skp t n p + k)).toNat) (tkR t n p - skp t n p)) else 0
theorem wk_lt : ∀ i, i < 22 → wk i < 256 ^ 7 ∧ 0 < wk i := by decide +kernel
theorem word_b {t : Nat → Int} {n p : Nat} (hp : p ≤ n) (h : tkK t n p = 1) : ∀ j, j < tkR t n p - skp t n p → 97 ≤ t (skp t n p + j) ∧ t (skp t n p + j) ≤ 122 := by
  have hx := tk_nx hp (show tkK t n p ≠ 0 by omega)
  have h1 : ¬ n ≤ skp t n p := by omega
  have hL : isL (t (skp t n p)) = true := by
    by_cases q : isL (t (skp t n p)) = true
    · exact q
    · unfold tkK tkKq at h
      rw [if_neg h1, if_neg q] at h
      split at h
      · split at h <;> omega
      · split at h <;> omega
  have hr : tkR t n p = rn isL t (n - skp t n p) (skp t n p) := (tq_word h1 hL).2
  intro j hj
  have := rn_all (p := isL) (t := t) (n - skp t n p) (skp t n p) (skp t n p + j) (by omega) (by rw [← hr]; omega)
  exact of_decide_eq_true this
theorem wv_iff {t : Nat → Int} {n p i : Nat} (hp : p ≤ n) (hi : i < 22) : wvF t n p = nL (wk i) ↔ wdH t n p i = true := by
  have hw := wk_lt i hi
  have hl := ln_at i hi
  have h7 : (256 : Nat) ^ 7 < 2 ^ 64 := by decide
  have wb : ∀ k, k < ln i → 1 ≤ wl i k ∧ wl i k < 256 := fun k hk => by have := (wl_at i hi k hk).2; omega
  constructor
  · intro h
    unfold wvF at h
    split at h
    · rename_i hc
      have hb := word_b hp hc.1
      have tb : ∀ k, k < tkR t n p - skp t n p → 1 ≤ (t (skp t n p + k)).toNat ∧ (t (skp t n p + k)).toNat < 256 := fun k hk => by have := hb k hk; omega
      have hlt := pkB_lt (w := fun k => (t (skp t n p + k)).toNat) (tkR t n p - skp t n p) (fun k hk => (tb k hk).2)
      have hp8 : (256 : Nat) ^ (tkR t n p - skp t n p) ≤ 256 ^ 8 := Nat.pow_le_pow_right (by decide) hc.2
      have h8 : (256 : Nat) ^ 8 = 2 ^ 64 := by decide
      have e := nL_inj (by omega) (by omega) h
      have hj := pkB_inj _ _ tb wb e
      have hx := tk_nx hp (show tkK t n p ≠ 0 by omega)
      unfold wdH
      rw [Bool.and_eq_true, Bool.and_eq_true, eqW_at]
      refine ⟨decide_eq_true hc.1, decide_eq_true (by omega), fun j hj' => ?_⟩
      have := hj.2 j (by omega)
      have := hb j (by omega)
      omega
    · have e := nL_inj (a := 0) (by omega) (by omega) h
      omega
  · intro h
    have hk := wd_k h
    unfold wdH at h
    rw [Bool.and_eq_true, Bool.and_eq_true, eqW_at] at h
    have hr := of_decide_eq_true h.2.1
    have he : tkR t n p - skp t n p = ln i := by omega
    unfold wvF
    rw [if_pos ⟨hk, by omega⟩, he]
    have cg : ∀ j, j ≤ ln i → pkB (fun k => (t (skp t n p + k)).toNat) j = pkB (wl i) j := by
      intro j
      induction j with
      | zero => intro _; rfl
      | succ j ih =>
        intro hj
        rw [pkB, pkB, ih (by omega), h.2.2 j (by omega), Int.toNat_natCast]
    rw [cg _ (Nat.le_refl _)]
    rfl
/-! reading on -/
def uz (z : Int) : Int := if 0 ≤ z then z else z + 256
def sv (t : Nat → Int) (n i : Nat) : Int := if i < n then uz (t i) else -1
theorem uz_at : ∀ c : Nat, c < 256 → zI ((c : Int) - 128) &&& nI 255 = zI (uz ((c : Int) - 128)) := by decide +kernel
theorem uz_z {z : Int} (h1 : -128 ≤ z) (h2 : z < 128) : zI z &&& nI 255 = zI (uz z) := by
  have := uz_at (z + 128).toNat (by omega)
  rw [show ((z + 128).toNat : Int) - 128 = z by omega] at this
  exact this
theorem sv_b {t : Nat → Int} {n i : Nat} (ht : i < n → -128 ≤ t i ∧ t i < 128) : -1 ≤ sv t n i ∧ sv t n i < 256 ∧ (sv t n i < 0 ↔ n ≤ i) ∧ (∀ c : Int, 0 ≤ c → c < 128 → (sv t n i = c ↔ i < n ∧ t i = c)) ∧ (∀ a b : Int, 0 ≤ a → b < 128 → ((a ≤ sv t n i ∧ sv t n i ≤ b) ↔ i < n ∧ a ≤ t i ∧ t i ≤ b)) := by
  unfold sv
  by_cases h : i < n
  · have := ht h
    rw [if_pos h]
    unfold uz
    split
    · refine ⟨by omega, by omega, by omega, fun c h1 h2 => by omega, fun a b h1 h2 => by omega⟩
    · refine ⟨by omega, by omega, by omega, fun c h1 h2 => by omega, fun a b h1 h2 => by omega⟩
  · rw [if_neg h]
    refine ⟨by omega, by omega, by omega, fun c h1 h2 => by omega, fun a b h1 h2 => by omega⟩
def mkK (k : Nat) : Nat := if k = 0 then 0 else if k = 1 then 2 else if k = 2 then 3 else if k = 3 then 4 else 1
def TMs : List Nat := [10, 12, 13, 14]
def MTp (M : Mm) (t : Nat → Int) (n : Nat) : Prop := KM M.1 M.2.2.2 ∧ M.2.1 98 11 = nI n ∧ n ≤ 600 ∧ ∀ i, i < n → M.2.1 99 i = zI (t i) ∧ -128 ≤ t i ∧ t i < 128
theorem MTp.fp {M M' : Mm} {t : Nat → Int} {n : Nat} {os fs : List Nat} (W : MTp M t n) (h : Fp 98 os fs M M') (h1 : 11 ∉ fs) (h2 : 99 ∉ os) : MTp M' t n := by
  obtain ⟨hK, v7, hn, ht⟩ := W
  exact ⟨h.K hK, by rw [h.2.2 11 h1]; exact v7, hn, by rw [(h.2.1 99 (by decide) h2).1]; exact ht⟩
def MTk (M : Mm) (t : Nat → Int) (n p : Nat) : Prop := M.2.1 98 10 = nI (tkR t n p) ∧ M.2.1 98 12 = nI (skp t n p) ∧ M.2.1 98 13 = nI (mkK (tkK t n p)) ∧ (tkK t n p = 2 → M.2.1 98 14 = nI (vN t n p)) ∧ M.2.2.1 98 15 = wvF t n p
theorem Fp.upL {o : Nat} {os fs : List Nat} {M : Mm} {k : Nat} {x : Int64} : Fp o os fs M (M.1, M.2.1, up2 M.2.2.1 o k x, M.2.2.2) := ⟨⟨rfl, rfl⟩, fun j h98 _ => ⟨rfl, up2_ne h98⟩, fun _ _ => rfl⟩
section MTO
variable {C : Ct} {M : Mm} {t : Nat → Int} {n p i : Nat}
theorem m_see (W : MTp M t n) (hi : M.2.1 98 10 = nI i) (hin : i ≤ n) : CG C 200 [.ref 98] M (fun w M' => w = some (.int (zI (sv t n i))) ∧ M' = M) := by
  obtain ⟨hK, v7, hn, ht⟩ := W
  unfold sv
  by_cases h : i < n
  · obtain ⟨t1, t2, t3⟩ := ht i h
    rw [if_pos h]
    refine CG_in (mL := 1) (hl := false) (lv := [some (.ref 98)]) (ll := []) rfl rfl rfl ?_
    refine G_S (pc := 0) f_200_0 rfl rfl rfl ?_
    refine G_gIv (pc := 1) f_200_1 (by decide) rfl (by decide) (by first | assumption | exact hK.1 _ _ rfl) (by first | assumption | exact mI_s | ((refine mI_o (by first | decide | omega) ?_); (repeat (refine mI_o (by first | decide | omega) ?_)); first | exact mI_s | assumption) | rfl) ?_
    refine G_S (pc := 4) f_200_4 rfl rfl rfl ?_
    refine G_gIv (pc := 5) f_200_5 (by decide) rfl (by decide) (by first | assumption | exact hK.1 _ _ rfl) (by first | assumption | exact mI_s | ((refine mI_o (by first | decide | omega) ?_); (repeat (refine mI_o (by first | decide | omega) ?_)); first | exact mI_s | assumption) | rfl) ?_
    refine G_jgeZ (pc := 8) f_200_8 rfl (by first | exact nI_toInt (by omega) | exact zI_toInt (by omega) (by omega) | rfl) (by first | exact nI_toInt (by omega) | exact zI_toInt (by omega) (by omega) | rfl) (fun b1 => ?_) (fun b1 => ?_)
    · exfalso; omega
    · refine G_S (pc := 11) f_200_11 rfl rfl rfl ?_
      refine G_gR (pc := 12) f_200_12 (by decide) rfl (by first | assumption | exact hK.1 _ _ rfl) (by first | assumption | exact hK.2 _ _ _ rfl | (try dsimp only) <;> (repeat (first | exact up2_s | refine up2_o (by first | decide | omega) ?_)) <;> first | assumption | exact hK.2 _ _ _ rfl) ?_
      refine G_S (pc := 15) f_200_15 rfl rfl rfl ?_
      refine G_gIv (pc := 16) f_200_16 (by decide) rfl (by decide) (by first | assumption | exact hK.1 _ _ rfl) (by first | assumption | exact mI_s | ((refine mI_o (by first | decide | omega) ?_); (repeat (refine mI_o (by first | decide | omega) ?_)); first | exact mI_s | assumption) | rfl) ?_
      refine G_baN (pc := 19) f_200_19 (by first | assumption | exact hK.1 _ _ rfl) (by decide) (by omega) (by omega) (by first | exact t1 | rfl) ?_
      refine G_si (v := nI 255) (pc := 20) f_200_20 (by decide) ?_
      first | refine G_andN (pc := 23) f_200_23 ?_ | refine G_andnN (pc := 23) f_200_23 ?_ | refine G_S (pc := 23) f_200_23 rfl rfl rfl ?_
      refine G_S (pc := 24) f_200_24 rfl rfl rfl ?_
      refine G_ri (pc := 28) f_200_28 ?_
      refine ⟨?_, rfl⟩
      congr 2
      exact uz_z t2 t3
  · rw [if_neg h]
    refine CG_in (mL := 1) (hl := false) (lv := [some (.ref 98)]) (ll := []) rfl rfl rfl ?_
    refine G_S (pc := 0) f_200_0 rfl rfl rfl ?_
    refine G_gIv (pc := 1) f_200_1 (by decide) rfl (by decide) (by first | assumption | exact hK.1 _ _ rfl) (by first | assumption | exact mI_s | ((refine mI_o (by first | decide | omega) ?_); (repeat (refine mI_o (by first | decide | omega) ?_)); first | exact mI_s | assumption) | rfl) ?_
    refine G_S (pc := 4) f_200_4 rfl rfl rfl ?_
    refine G_gIv (pc := 5) f_200_5 (by decide) rfl (by decide) (by first | assumption | exact hK.1 _ _ rfl) (by first | assumption | exact mI_s | ((refine mI_o (by first | decide | omega) ?_); (repeat (refine mI_o (by first | decide | omega) ?_)); first | exact mI_s | assumption) | rfl) ?_
    refine G_jgeZ (pc := 8) f_200_8 rfl (by first | exact nI_toInt (by omega) | exact zI_toInt (by omega) (by omega) | rfl) (by first | exact nI_toInt (by omega) | exact zI_toInt (by omega) (by omega) | rfl) (fun b1 => ?_) (fun b1 => ?_)
    · refine G_ic (v := zI (-1)) (pc := 27) f_200_27 (by decide) ?_
      refine G_ri (pc := 28) f_200_28 ?_
      exact ⟨rfl, rfl⟩
    · exfalso; omega
end MTO
