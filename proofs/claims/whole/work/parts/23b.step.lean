/-! tokens -/
def isB (z : Int) : Bool := decide (z = 10 ∨ z = 32)
def isL (z : Int) : Bool := decide (97 ≤ z ∧ z ≤ 122)
def isG (z : Int) : Bool := decide (48 ≤ z ∧ z ≤ 57)
def rn (p : Int → Bool) (t : Nat → Int) : Nat → Nat → Nat
  | 0, i => i
  | f + 1, i => if p (t i) then rn p t f (i + 1) else i
theorem rn_b {p : Int → Bool} {t : Nat → Int} : ∀ f i, i ≤ rn p t f i ∧ rn p t f i ≤ i + f
  | 0, i => ⟨Nat.le_refl _, Nat.le_refl _⟩
  | f + 1, i => by
    rw [rn]
    split
    · have := rn_b (p := p) (t := t) f (i + 1)
      omega
    · omega
theorem rn_all {p : Int → Bool} {t : Nat → Int} : ∀ f i j, i ≤ j → j < rn p t f i → p (t j) = true
  | 0, i, j, h1, h2 => absurd h2 (by show ¬ j < i; omega)
  | f + 1, i, j, h1, h2 => by
    rw [rn] at h2
    split at h2
    · rename_i h
      by_cases e : j = i
      · subst e
        exact h
      · exact rn_all f (i + 1) j (by omega) h2
    · omega
theorem rn_y {p : Int → Bool} {t : Nat → Int} {n i : Nat} (hi : i < n) (h : p (t i) = true) : rn p t (n - i) i = rn p t (n - (i + 1)) (i + 1) := by
  rw [show n - i = n - (i + 1) + 1 by omega, rn, if_pos h]
theorem rn_n {p : Int → Bool} {t : Nat → Int} {n i : Nat} (h : ¬ (i < n ∧ p (t i) = true)) : rn p t (n - i) i = i := by
  by_cases hi : i < n
  · rw [show n - i = n - (i + 1) + 1 by omega, rn, if_neg (fun z => h ⟨hi, z⟩)]
  · rw [show n - i = 0 by omega]
    rfl
def skp (t : Nat → Int) (n p : Nat) : Nat := rn isB t (n - p) p
def tkKq (t : Nat → Int) (n q : Nat) : Nat := if n ≤ q then 0 else if isL (t q) then 1 else if isG (t q) then (if rn isG t (n - q) q - q ≤ 2 then 2 else 4) else if t q = 59 then 3 else 4
def tkRq (t : Nat → Int) (n q : Nat) : Nat := if n ≤ q then q else if isL (t q) then rn isL t (n - q) q else if isG (t q) then rn isG t (n - q) q else q + 1
def tkK (t : Nat → Int) (n p : Nat) : Nat := tkKq t n (skp t n p)
def tkR (t : Nat → Int) (n p : Nat) : Nat := tkRq t n (skp t n p)
theorem tq_end {t : Nat → Int} {n q : Nat} (h : n ≤ q) : tkKq t n q = 0 ∧ tkRq t n q = q := ⟨if_pos h, if_pos h⟩
theorem tq_word {t : Nat → Int} {n q : Nat} (h : ¬ n ≤ q) (h1 : isL (t q) = true) : tkKq t n q = 1 ∧ tkRq t n q = rn isL t (n - q) q := by
  unfold tkKq tkRq
  rw [if_neg h, if_neg h, if_pos h1, if_pos h1]
  exact ⟨rfl, rfl⟩
theorem tq_dig {t : Nat → Int} {n q : Nat} (h : ¬ n ≤ q) (h1 : ¬ isL (t q) = true) (h2 : isG (t q) = true) : tkKq t n q = (if rn isG t (n - q) q - q ≤ 2 then 2 else 4) ∧ tkRq t n q = rn isG t (n - q) q := by
  unfold tkKq tkRq
  rw [if_neg h, if_neg h, if_neg h1, if_neg h1, if_pos h2, if_pos h2]
  exact ⟨rfl, rfl⟩
theorem tq_oth {t : Nat → Int} {n q : Nat} (h : ¬ n ≤ q) (h1 : ¬ isL (t q) = true) (h2 : ¬ isG (t q) = true) : tkKq t n q = (if t q = 59 then 3 else 4) ∧ tkRq t n q = q + 1 := by
  unfold tkKq tkRq
  rw [if_neg h, if_neg h, if_neg h1, if_neg h1, if_neg h2, if_neg h2]
  exact ⟨rfl, rfl⟩
def nvA (t : Nat → Int) (q : Nat) : Nat → Int
  | 0 => 0
  | j + 1 => nvA t q j * 10 + t (q + j) - 48
theorem skp_b {t : Nat → Int} {n p : Nat} (h : p ≤ n) : p ≤ skp t n p ∧ skp t n p ≤ n := by
  have := rn_b (p := isB) (t := t) (n - p) p
  unfold skp
  omega
theorem tkR_b {t : Nat → Int} {n p : Nat} (h : p ≤ n) : skp t n p ≤ tkR t n p ∧ tkR t n p ≤ n ∧ (skp t n p < n → skp t n p < tkR t n p) := by
  have h1 := skp_b (t := t) h
  unfold tkR tkRq
  split
  · omega
  · rename_i hq
    split
    · rename_i hL
      have := rn_b (p := isL) (t := t) (n - (skp t n p + 1)) (skp t n p + 1)
      rw [rn_y (by omega) hL]
      omega
    · split
      · rename_i hG
        have := rn_b (p := isG) (t := t) (n - (skp t n p + 1)) (skp t n p + 1)
        rw [rn_y (by omega) hG]
        omega
      · omega
/-! frames with one object's fields -/
def Fp (o : Nat) (os fs : List Nat) (M M' : Mm) : Prop := (M'.1 = M.1 ∧ M'.2.2.2 = M.2.2.2) ∧ (∀ i, i ≠ o → i ∉ os → M'.2.1 i = M.2.1 i ∧ M'.2.2.1 i = M.2.2.1 i) ∧ ∀ k, k ∉ fs → M'.2.1 o k = M.2.1 o k
theorem Fp.rf {o : Nat} {os fs : List Nat} {M : Mm} : Fp o os fs M M := ⟨⟨rfl, rfl⟩, fun _ _ _ => ⟨rfl, rfl⟩, fun _ _ => rfl⟩
theorem Fp.tr {o : Nat} {os fs : List Nat} {M M1 M2 : Mm} (h1 : Fp o os fs M M1) (h2 : Fp o os fs M1 M2) : Fp o os fs M M2 := ⟨⟨h2.1.1.trans h1.1.1, h2.1.2.trans h1.1.2⟩, fun i h hi => ⟨(h2.2.1 i h hi).1.trans (h1.2.1 i h hi).1, (h2.2.1 i h hi).2.trans (h1.2.1 i h hi).2⟩, fun k hk => (h2.2.2 k hk).trans (h1.2.2 k hk)⟩
theorem Fp.sub {o : Nat} {os fs os' fs' : List Nat} {M M' : Mm} (h : Fp o os fs M M') (hs : ∀ i, i ∈ os → i ∈ os') (hf : ∀ i, i ∈ fs → i ∈ fs') : Fp o os' fs' M M' := ⟨h.1, fun i h0 hi => h.2.1 i h0 (fun q => hi (hs i q)), fun k hk => h.2.2 k (fun q => hk (hf k q))⟩
theorem Fp.up {o : Nat} {os fs : List Nat} {M : Mm} {i k : Nat} {x : Int32} (hi : i ∈ os) (h98 : i ≠ o) : Fp o os fs M (M.1, up2 M.2.1 i k x, M.2.2.1, M.2.2.2) := ⟨⟨rfl, rfl⟩, fun j _ hj => ⟨up2_ne (fun q => hj (q ▸ hi)), rfl⟩, fun _ _ => by show up2 M.2.1 i k x o _ = _; rw [up2_ne (fun q => h98 q.symm)]⟩
theorem Fp.upf {o : Nat} {os fs : List Nat} {M : Mm} {k : Nat} {x : Int32} (hk : k ∈ fs) : Fp o os fs M (M.1, up2 M.2.1 o k x, M.2.2.1, M.2.2.2) := ⟨⟨rfl, rfl⟩, fun j h98 _ => ⟨up2_ne h98, rfl⟩, fun k' hk' => by
  show up2 M.2.1 o k x o k' = _
  rw [up2_at]
  split
  · rename_i q
    subst q
    exact absurd hk hk'
  · rfl⟩
theorem Fp.K {o : Nat} {os fs : List Nat} {M M' : Mm} (h : Fp o os fs M M') (hK : KM M.1 M.2.2.2) : KM M'.1 M'.2.2.2 := by
  rw [h.1.1, h.1.2]
  exact hK
/-! the class's tokens -/
def TS : List Nat := [8, 9, 10, 11]
def KTp (M : Mm) (t : Nat → Int) (n : Nat) : Prop := KM M.1 M.2.2.2 ∧ M.1.length ≤ 600000 ∧ M.2.2.2 53 6 = some 2 ∧ M.2.1 53 7 = nI n ∧ n ≤ 600 ∧ ∀ i, i < n → M.2.1 2 i = zI (t i) ∧ -128 ≤ t i ∧ t i < 128
theorem KTp.fp {M M' : Mm} {t : Nat → Int} {n : Nat} {os fs : List Nat} (W : KTp M t n) (h : Fp 53 os fs M M') (h1 : 7 ∉ fs) (h2 : 2 ∉ os) : KTp M' t n := by
  obtain ⟨hK, hM, r6, v7, hn, ht⟩ := W
  exact ⟨h.K hK, by rw [h.1.1]; exact hM, by rw [h.1.2]; exact r6, by rw [h.2.2 7 h1]; exact v7, hn, by rw [(h.2.1 2 (by decide) h2).1]; exact ht⟩
def TCk (M : Mm) (t : Nat → Int) (n p : Nat) : Prop := M.2.1 53 8 = nI (tkR t n p) ∧ M.2.1 53 9 = nI (tkK t n p) ∧ M.2.1 53 10 = nI (skp t n p) ∧ (tkK t n p = 2 → M.2.1 53 11 = zI (nvA t (skp t n p) (tkR t n p - skp t n p)))
section CST
variable {C : Ct} {M : Mm} {t : Nat → Int} {n p i : Nat} {z : Int}
theorem c_isBlank (h1 : -128 ≤ z) (h2 : z < 128) : CG C 81 [.int (zI z)] M (fun w M' => w = some (.int (b2i (isB z = true))) ∧ M' = M) := by
  refine CG_in (mL := 1) (hl := false) (lv := [some (.int (zI z))]) (ll := []) rfl rfl rfl ?_
  refine G_S (pc := 0) f_81_0 rfl rfl rfl ?_
  refine G_bi (v := nI 10) (pc := 1) f_81_1 (by decide) ?_
  refine G_jeqZ (pc := 3) f_81_3 rfl (by first | exact nI_toInt (by omega) | exact zI_toInt (by omega) (by omega) | rfl) (by first | exact nI_toInt (by omega) | exact zI_toInt (by omega) (by omega) | rfl) (fun b1 => ?_) (fun b1 => ?_)
  · refine G_ic (v := nI 1) (pc := 12) f_81_12 (by decide) ?_
    refine G_S (pc := 13) f_81_13 rfl rfl rfl ?_
    refine G_rz (pc := 17) f_81_17 (by first | exact Or.inl rfl | exact Or.inr rfl | exact b2i_01 _ | assumption) ?_
    refine ⟨?_, rfl⟩
    congr 2
    first
      | exact (b2i_1 (decide_eq_true (by omega))).symm
      | exact (b2i_0 (fun q => absurd (of_decide_eq_true q) (by omega))).symm
  · refine G_S (pc := 6) f_81_6 rfl rfl rfl ?_
    refine G_bi (v := nI 32) (pc := 7) f_81_7 (by decide) ?_
    refine G_jneZ (pc := 9) f_81_9 rfl (by first | exact nI_toInt (by omega) | exact zI_toInt (by omega) (by omega) | rfl) (by first | exact nI_toInt (by omega) | exact zI_toInt (by omega) (by omega) | rfl) (fun b2 => ?_) (fun b2 => ?_)
    · refine G_ic (v := nI 0) (pc := 16) f_81_16 (by decide) ?_
      refine G_rz (pc := 17) f_81_17 (by first | exact Or.inl rfl | exact Or.inr rfl | exact b2i_01 _ | assumption) ?_
      refine ⟨?_, rfl⟩
      congr 2
      first
        | exact (b2i_1 (decide_eq_true (by omega))).symm
        | exact (b2i_0 (fun q => absurd (of_decide_eq_true q) (by omega))).symm
    · refine G_ic (v := nI 1) (pc := 12) f_81_12 (by decide) ?_
      refine G_S (pc := 13) f_81_13 rfl rfl rfl ?_
      refine G_rz (pc := 17) f_81_17 (by first | exact Or.inl rfl | exact Or.inr rfl | exact b2i_01 _ | assumption) ?_
      refine ⟨?_, rfl⟩
      congr 2
      first
        | exact (b2i_1 (decide_eq_true (by omega))).symm
        | exact (b2i_0 (fun q => absurd (of_decide_eq_true q) (by omega))).symm
theorem c_isLetter (h1 : -128 ≤ z) (h2 : z < 128) : CG C 82 [.int (zI z)] M (fun w M' => w = some (.int (b2i (isL z = true))) ∧ M' = M) := by
  refine CG_in (mL := 1) (hl := false) (lv := [some (.int (zI z))]) (ll := []) rfl rfl rfl ?_
  refine G_S (pc := 0) f_82_0 rfl rfl rfl ?_
  refine G_bi (v := nI 97) (pc := 1) f_82_1 (by decide) ?_
  refine G_jltZ (pc := 3) f_82_3 rfl (by first | exact nI_toInt (by omega) | exact zI_toInt (by omega) (by omega) | rfl) (by first | exact nI_toInt (by omega) | exact zI_toInt (by omega) (by omega) | rfl) (fun b1 => ?_) (fun b1 => ?_)
  · refine G_ic (v := nI 0) (pc := 16) f_82_16 (by decide) ?_
    refine G_rz (pc := 17) f_82_17 (by first | exact Or.inl rfl | exact Or.inr rfl | exact b2i_01 _ | assumption) ?_
    refine ⟨?_, rfl⟩
    congr 2
    first
      | exact (b2i_1 (decide_eq_true (by omega))).symm
      | exact (b2i_0 (fun q => absurd (of_decide_eq_true q) (by omega))).symm
  · refine G_S (pc := 6) f_82_6 rfl rfl rfl ?_
    refine G_bi (v := nI 122) (pc := 7) f_82_7 (by decide) ?_
    refine G_jgtZ (pc := 9) f_82_9 rfl (by first | exact nI_toInt (by omega) | exact zI_toInt (by omega) (by omega) | rfl) (by first | exact nI_toInt (by omega) | exact zI_toInt (by omega) (by omega) | rfl) (fun b2 => ?_) (fun b2 => ?_)
    · refine G_ic (v := nI 0) (pc := 16) f_82_16 (by decide) ?_
      refine G_rz (pc := 17) f_82_17 (by first | exact Or.inl rfl | exact Or.inr rfl | exact b2i_01 _ | assumption) ?_
      refine ⟨?_, rfl⟩
      congr 2
      first
        | exact (b2i_1 (decide_eq_true (by omega))).symm
        | exact (b2i_0 (fun q => absurd (of_decide_eq_true q) (by omega))).symm
    · refine G_ic (v := nI 1) (pc := 12) f_82_12 (by decide) ?_
      refine G_S (pc := 13) f_82_13 rfl rfl rfl ?_
      refine G_rz (pc := 17) f_82_17 (by first | exact Or.inl rfl | exact Or.inr rfl | exact b2i_01 _ | assumption) ?_
      refine ⟨?_, rfl⟩
      congr 2
      first
        | exact (b2i_1 (decide_eq_true (by omega))).symm
        | exact (b2i_0 (fun q => absurd (of_decide_eq_true q) (by omega))).symm
theorem c_isDigit (h1 : -128 ≤ z) (h2 : z < 128) : CG C 83 [.int (zI z)] M (fun w M' => w = some (.int (b2i (isG z = true))) ∧ M' = M) := by
  refine CG_in (mL := 1) (hl := false) (lv := [some (.int (zI z))]) (ll := []) rfl rfl rfl ?_
  refine G_S (pc := 0) f_83_0 rfl rfl rfl ?_
  refine G_bi (v := nI 48) (pc := 1) f_83_1 (by decide) ?_
  refine G_jltZ (pc := 3) f_83_3 rfl (by first | exact nI_toInt (by omega) | exact zI_toInt (by omega) (by omega) | rfl) (by first | exact nI_toInt (by omega) | exact zI_toInt (by omega) (by omega) | rfl) (fun b1 => ?_) (fun b1 => ?_)
  · refine G_ic (v := nI 0) (pc := 16) f_83_16 (by decide) ?_
    refine G_rz (pc := 17) f_83_17 (by first | exact Or.inl rfl | exact Or.inr rfl | exact b2i_01 _ | assumption) ?_
    refine ⟨?_, rfl⟩
    congr 2
    first
      | exact (b2i_1 (decide_eq_true (by omega))).symm
      | exact (b2i_0 (fun q => absurd (of_decide_eq_true q) (by omega))).symm
  · refine G_S (pc := 6) f_83_6 rfl rfl rfl ?_
    refine G_bi (v := nI 57) (pc := 7) f_83_7 (by decide) ?_
    refine G_jgtZ (pc := 9) f_83_9 rfl (by first | exact nI_toInt (by omega) | exact zI_toInt (by omega) (by omega) | rfl) (by first | exact nI_toInt (by omega) | exact zI_toInt (by omega) (by omega) | rfl) (fun b2 => ?_) (fun b2 => ?_)
    · refine G_ic (v := nI 0) (pc := 16) f_83_16 (by decide) ?_
      refine G_rz (pc := 17) f_83_17 (by first | exact Or.inl rfl | exact Or.inr rfl | exact b2i_01 _ | assumption) ?_
      refine ⟨?_, rfl⟩
      congr 2
      first
        | exact (b2i_1 (decide_eq_true (by omega))).symm
        | exact (b2i_0 (fun q => absurd (of_decide_eq_true q) (by omega))).symm
    · refine G_ic (v := nI 1) (pc := 12) f_83_12 (by decide) ?_
      refine G_S (pc := 13) f_83_13 rfl rfl rfl ?_
      refine G_rz (pc := 17) f_83_17 (by first | exact Or.inl rfl | exact Or.inr rfl | exact b2i_01 _ | assumption) ?_
      refine ⟨?_, rfl⟩
      congr 2
      first
        | exact (b2i_1 (decide_eq_true (by omega))).symm
        | exact (b2i_0 (fun q => absurd (of_decide_eq_true q) (by omega))).symm
theorem c_overWord (W : KTp M t n) (hq : M.2.1 53 8 = nI p) (hp : p ≤ n) : CG C 79 [.ref 53] M (fun w M' => w = none ∧ Fp 53 [] TS M M' ∧ M'.2.1 53 8 = nI (rn isL t (n - p) p) ∧ M'.2.1 53 9 = nI 1 ∧ M'.2.1 53 10 = M.2.1 53 10) := by
  have loop : ∀ i, i ≤ n → ∀ M1, Fp 53 [] TS M M1 → M1.2.1 53 8 = nI i → M1.2.1 53 10 = M.2.1 53 10 → rn isL t (n - i) i = rn isL t (n - p) p → G C 79 (0, [some (.ref 53)], [], [], M1) (fun w M' => w = none ∧ Fp 53 [] TS M M' ∧ M'.2.1 53 8 = nI (rn isL t (n - p) p) ∧ M'.2.1 53 9 = nI 1 ∧ M'.2.1 53 10 = M.2.1 53 10) := by
    refine upto (fun i hi ih M1 hF h8 h10 hr => ?_)
    obtain ⟨hK, hM, r6, v7, hn, ht⟩ := W.fp hF (by decide) (by decide)
    have hti : i < n → M1.2.1 2 i = zI (t i) ∧ -128 ≤ t i ∧ t i < 128 := fun q => ht i q
    refine G_S (pc := 0) f_79_0 rfl rfl rfl ?_
    refine G_gIv (pc := 1) f_79_1 (by decide) rfl (by decide) (by first | assumption | exact hK.1 _ _ rfl) (by first | assumption | exact mI_s | ((refine mI_o (by first | decide | omega) ?_); (repeat (refine mI_o (by first | decide | omega) ?_)); first | exact mI_s | assumption) | rfl) ?_
    refine G_S (pc := 4) f_79_4 rfl rfl rfl ?_
    refine G_gIv (pc := 5) f_79_5 (by decide) rfl (by decide) (by first | assumption | exact hK.1 _ _ rfl) (by first | assumption | exact mI_s | ((refine mI_o (by first | decide | omega) ?_); (repeat (refine mI_o (by first | decide | omega) ?_)); first | exact mI_s | assumption) | rfl) ?_
    refine G_jgeZ (pc := 8) f_79_8 rfl (by first | exact nI_toInt (by omega) | exact zI_toInt (by omega) (by omega) | rfl) (by first | exact nI_toInt (by omega) | exact zI_toInt (by omega) (by omega) | rfl) (fun b1 => ?_) (fun b1 => ?_)
    · refine G_S (pc := 39) f_79_39 rfl rfl rfl ?_
      refine G_ic (v := nI 1) (pc := 40) f_79_40 (by decide) ?_
      refine G_pI (pc := 41) f_79_41 rfl (by first | assumption | exact hK.1 _ _ rfl) ?_
      refine G_rv (pc := 44) f_79_44 ?_
      have e : rn isL t (n - p) p = i := by
        rw [← hr]
        exact rn_n (by first | exact fun z => absurd z.1 (by omega) | exact fun z => b2 z.2)
      rw [e]
      exact ⟨rfl, hF.tr (Fp.upf (k := 9) (x := nI 1) (by decide)), (by (try dsimp only); exact up2_o (by omega) h8), (by (try dsimp only); exact up2_s), (by (try dsimp only); exact up2_o (by omega) h10)⟩
    · obtain ⟨t1, t2, t3⟩ := hti (by omega)
      refine G_S (pc := 11) f_79_11 rfl rfl rfl ?_
      refine G_gR (pc := 12) f_79_12 (by decide) rfl (by first | assumption | exact hK.1 _ _ rfl) (by first | assumption | exact hK.2 _ _ _ rfl | (try dsimp only) <;> (repeat (first | exact up2_s | refine up2_o (by first | decide | omega) ?_)) <;> first | assumption | exact hK.2 _ _ _ rfl) ?_
      refine G_S (pc := 15) f_79_15 rfl rfl rfl ?_
      refine G_gIv (pc := 16) f_79_16 (by decide) rfl (by decide) (by first | assumption | exact hK.1 _ _ rfl) (by first | assumption | exact mI_s | ((refine mI_o (by first | decide | omega) ?_); (repeat (refine mI_o (by first | decide | omega) ?_)); first | exact mI_s | assumption) | rfl) ?_
      refine G_baN (pc := 19) f_79_19 (by first | assumption | exact hK.1 _ _ rfl) (by decide) (by omega) (by omega) (by first | exact t1 | rfl) ?_
      refine G_CS (pc := 20) f_79_20 rfl rfl (by decide) rfl rfl ⟨Nat.le_of_ble_eq_true rfl, Nat.le_of_ble_eq_true rfl⟩ ?_
      refine CG.go (c_isLetter t2 t3) ?_
      first | refine G_bEq (pc := 23) f_79_23 rfl (fun b2 => ?_) (fun b2 => ?_) | refine G_zeqZ (pc := 23) f_79_23 rfl (by first | exact nI_toInt (by omega) | exact zI_toInt (by omega) (by omega) | rfl) (fun b2 => ?_) (fun b2 => ?_)
      · refine G_S (pc := 39) f_79_39 rfl rfl rfl ?_
        refine G_ic (v := nI 1) (pc := 40) f_79_40 (by decide) ?_
        refine G_pI (pc := 41) f_79_41 rfl (by first | assumption | exact hK.1 _ _ rfl) ?_
        refine G_rv (pc := 44) f_79_44 ?_
        have e : rn isL t (n - p) p = i := by
          rw [← hr]
          exact rn_n (by first | exact fun z => absurd z.1 (by omega) | exact fun z => b2 z.2)
        rw [e]
        exact ⟨rfl, hF.tr (Fp.upf (k := 9) (x := nI 1) (by decide)), (by (try dsimp only); exact up2_o (by omega) h8), (by (try dsimp only); exact up2_s), (by (try dsimp only); exact up2_o (by omega) h10)⟩
      · refine G_S (pc := 26) f_79_26 rfl rfl rfl ?_
        refine G_S (pc := 27) f_79_27 rfl rfl rfl ?_
        refine G_gIv (pc := 28) f_79_28 (by decide) rfl (by decide) (by first | assumption | exact hK.1 _ _ rfl) (by first | assumption | exact mI_s | ((refine mI_o (by first | decide | omega) ?_); (repeat (refine mI_o (by first | decide | omega) ?_)); first | exact mI_s | assumption) | rfl) ?_
        refine G_ic (v := nI 1) (pc := 31) f_79_31 (by decide) ?_
        first | refine G_addN (pc := 32) f_79_32 ?_ | refine G_addZ (pc := 32) f_79_32 (by first | rfl | exact nI_zI _) (by first | rfl | exact nI_zI _) ?_ | refine G_S (pc := 32) f_79_32 rfl rfl rfl ?_
        refine G_pI (pc := 33) f_79_33 rfl (by first | assumption | exact hK.1 _ _ rfl) ?_
        refine G_S (pc := 36) f_79_36 rfl rfl rfl ?_
        exact ih (by omega) _ (hF.tr (Fp.upf (k := 8) (x := nI (i + 1)) (by decide))) (by (try dsimp only); exact up2_s) (by (try dsimp only); exact up2_o (by omega) h10) ((rn_y (by omega) b2).symm.trans hr)
  refine CG_in (mL := 1) (hl := false) (lv := [some (.ref 53)]) (ll := []) rfl rfl rfl ?_
  exact loop p hp M Fp.rf hq rfl rfl
theorem c_overDig (W : KTp M t n) (hq : M.2.1 53 8 = nI p) (h10 : M.2.1 53 10 = nI p) (hp : p ≤ n) : CG C 80 [.ref 53] M (fun w M' => w = none ∧ Fp 53 [] TS M M' ∧ M'.2.1 53 8 = nI (rn isG t (n - p) p) ∧ M'.2.1 53 9 = nI (if rn isG t (n - p) p - p ≤ 2 then 2 else 4) ∧ M'.2.1 53 10 = nI p ∧ M'.2.1 53 11 = zI (nvA t p (rn isG t (n - p) p - p))) := by
  have loop : ∀ i, i ≤ n → p ≤ i → ∀ M1, Fp 53 [] TS M M1 → M1.2.1 53 8 = nI i → M1.2.1 53 10 = nI p → M1.2.1 53 11 = zI (nvA t p (i - p)) → rn isG t (n - i) i = rn isG t (n - p) p → G C 80 (5, [some (.ref 53)], [], [], M1) (fun w M' => w = none ∧ Fp 53 [] TS M M' ∧ M'.2.1 53 8 = nI (rn isG t (n - p) p) ∧ M'.2.1 53 9 = nI (if rn isG t (n - p) p - p ≤ 2 then 2 else 4) ∧ M'.2.1 53 10 = nI p ∧ M'.2.1 53 11 = zI (nvA t p (rn isG t (n - p) p - p))) := by
    refine upto (fun i hi ih hpi M1 hF h8 h10 h11 hr => ?_)
    obtain ⟨hK, hM, r6, v7, hn, ht⟩ := W.fp hF (by decide) (by decide)
    have hti : i < n → M1.2.1 2 i = zI (t i) ∧ -128 ≤ t i ∧ t i < 128 := fun q => ht i q
    refine G_S (pc := 5) f_80_5 rfl rfl rfl ?_
    refine G_gIv (pc := 6) f_80_6 (by decide) rfl (by decide) (by first | assumption | exact hK.1 _ _ rfl) (by first | assumption | exact mI_s | ((refine mI_o (by first | decide | omega) ?_); (repeat (refine mI_o (by first | decide | omega) ?_)); first | exact mI_s | assumption) | rfl) ?_
    refine G_S (pc := 9) f_80_9 rfl rfl rfl ?_
    refine G_gIv (pc := 10) f_80_10 (by decide) rfl (by decide) (by first | assumption | exact hK.1 _ _ rfl) (by first | assumption | exact mI_s | ((refine mI_o (by first | decide | omega) ?_); (repeat (refine mI_o (by first | decide | omega) ?_)); first | exact mI_s | assumption) | rfl) ?_
    refine G_jgeZ (pc := 13) f_80_13 rfl (by first | exact nI_toInt (by omega) | exact zI_toInt (by omega) (by omega) | rfl) (by first | exact nI_toInt (by omega) | exact zI_toInt (by omega) (by omega) | rfl) (fun b1 => ?_) (fun b1 => ?_)
    · refine G_S (pc := 68) f_80_68 rfl rfl rfl ?_
      refine G_S (pc := 69) f_80_69 rfl rfl rfl ?_
      refine G_gIv (pc := 70) f_80_70 (by decide) rfl (by decide) (by first | assumption | exact hK.1 _ _ rfl) (by first | assumption | exact mI_s | ((refine mI_o (by first | decide | omega) ?_); (repeat (refine mI_o (by first | decide | omega) ?_)); first | exact mI_s | assumption) | rfl) ?_
      refine G_S (pc := 73) f_80_73 rfl rfl rfl ?_
      refine G_gIv (pc := 74) f_80_74 (by decide) rfl (by decide) (by first | assumption | exact hK.1 _ _ rfl) (by first | assumption | exact mI_s | ((refine mI_o (by first | decide | omega) ?_); (repeat (refine mI_o (by first | decide | omega) ?_)); first | exact mI_s | assumption) | rfl) ?_
      first | refine G_subN (pc := 77) f_80_77 (by omega) ?_ | refine G_subZ (pc := 77) f_80_77 (by first | rfl | exact nI_zI _) (by first | rfl | exact nI_zI _) ?_ | refine G_S (pc := 77) f_80_77 rfl rfl rfl ?_
      refine G_ic (v := nI 2) (pc := 78) f_80_78 (by decide) ?_
      refine G_jgtZ (pc := 79) f_80_79 rfl (by first | exact nI_toInt (by omega) | exact zI_toInt (by omega) (by omega) | rfl) (by first | exact nI_toInt (by omega) | exact zI_toInt (by omega) (by omega) | rfl) (fun b3 => ?_) (fun b3 => ?_)
      · refine G_ic (v := nI 4) (pc := 86) f_80_86 (by decide) ?_
        refine G_pI (pc := 87) f_80_87 rfl (by first | assumption | exact hK.1 _ _ rfl) ?_
        refine G_rv (pc := 90) f_80_90 ?_
        have e : rn isG t (n - p) p = i := by
          rw [← hr]
          exact rn_n (by first | exact fun z => absurd z.1 (by omega) | exact fun z => b2 z.2)
        rw [e]
        first
          | (rw [if_pos (by omega)]
             exact ⟨rfl, hF.tr (Fp.upf (k := 9) (x := nI 2) (by decide)), (by (try dsimp only); exact up2_o (by omega) h8), (by (try dsimp only); exact up2_s), (by (try dsimp only); exact up2_o (by omega) h10), (by (try dsimp only); exact up2_o (by omega) h11)⟩)
          | (rw [if_neg (by omega)]
             exact ⟨rfl, hF.tr (Fp.upf (k := 9) (x := nI 4) (by decide)), (by (try dsimp only); exact up2_o (by omega) h8), (by (try dsimp only); exact up2_s), (by (try dsimp only); exact up2_o (by omega) h10), (by (try dsimp only); exact up2_o (by omega) h11)⟩)
      · refine G_ic (v := nI 2) (pc := 82) f_80_82 (by decide) ?_
        refine G_S (pc := 83) f_80_83 rfl rfl rfl ?_
        refine G_pI (pc := 87) f_80_87 rfl (by first | assumption | exact hK.1 _ _ rfl) ?_
        refine G_rv (pc := 90) f_80_90 ?_
        have e : rn isG t (n - p) p = i := by
          rw [← hr]
          exact rn_n (by first | exact fun z => absurd z.1 (by omega) | exact fun z => b2 z.2)
        rw [e]
        first
          | (rw [if_pos (by omega)]
             exact ⟨rfl, hF.tr (Fp.upf (k := 9) (x := nI 2) (by decide)), (by (try dsimp only); exact up2_o (by omega) h8), (by (try dsimp only); exact up2_s), (by (try dsimp only); exact up2_o (by omega) h10), (by (try dsimp only); exact up2_o (by omega) h11)⟩)
          | (rw [if_neg (by omega)]
             exact ⟨rfl, hF.tr (Fp.upf (k := 9) (x := nI 4) (by decide)), (by (try dsimp only); exact up2_o (by omega) h8), (by (try dsimp only); exact up2_s), (by (try dsimp only); exact up2_o (by omega) h10), (by (try dsimp only); exact up2_o (by omega) h11)⟩)
    · obtain ⟨t1, t2, t3⟩ := hti (by omega)
      refine G_S (pc := 16) f_80_16 rfl rfl rfl ?_
      refine G_gR (pc := 17) f_80_17 (by decide) rfl (by first | assumption | exact hK.1 _ _ rfl) (by first | assumption | exact hK.2 _ _ _ rfl | (try dsimp only) <;> (repeat (first | exact up2_s | refine up2_o (by first | decide | omega) ?_)) <;> first | assumption | exact hK.2 _ _ _ rfl) ?_
      refine G_S (pc := 20) f_80_20 rfl rfl rfl ?_
      refine G_gIv (pc := 21) f_80_21 (by decide) rfl (by decide) (by first | assumption | exact hK.1 _ _ rfl) (by first | assumption | exact mI_s | ((refine mI_o (by first | decide | omega) ?_); (repeat (refine mI_o (by first | decide | omega) ?_)); first | exact mI_s | assumption) | rfl) ?_
      refine G_baN (pc := 24) f_80_24 (by first | assumption | exact hK.1 _ _ rfl) (by decide) (by omega) (by omega) (by first | exact t1 | rfl) ?_
      refine G_CS (pc := 25) f_80_25 rfl rfl (by decide) rfl rfl ⟨Nat.le_of_ble_eq_true rfl, Nat.le_of_ble_eq_true rfl⟩ ?_
      refine CG.go (c_isDigit t2 t3) ?_
      first | refine G_bEq (pc := 28) f_80_28 rfl (fun b2 => ?_) (fun b2 => ?_) | refine G_zeqZ (pc := 28) f_80_28 rfl (by first | exact nI_toInt (by omega) | exact zI_toInt (by omega) (by omega) | rfl) (fun b2 => ?_) (fun b2 => ?_)
      · refine G_S (pc := 68) f_80_68 rfl rfl rfl ?_
        refine G_S (pc := 69) f_80_69 rfl rfl rfl ?_
        refine G_gIv (pc := 70) f_80_70 (by decide) rfl (by decide) (by first | assumption | exact hK.1 _ _ rfl) (by first | assumption | exact mI_s | ((refine mI_o (by first | decide | omega) ?_); (repeat (refine mI_o (by first | decide | omega) ?_)); first | exact mI_s | assumption) | rfl) ?_
        refine G_S (pc := 73) f_80_73 rfl rfl rfl ?_
        refine G_gIv (pc := 74) f_80_74 (by decide) rfl (by decide) (by first | assumption | exact hK.1 _ _ rfl) (by first | assumption | exact mI_s | ((refine mI_o (by first | decide | omega) ?_); (repeat (refine mI_o (by first | decide | omega) ?_)); first | exact mI_s | assumption) | rfl) ?_
        first | refine G_subN (pc := 77) f_80_77 (by omega) ?_ | refine G_subZ (pc := 77) f_80_77 (by first | rfl | exact nI_zI _) (by first | rfl | exact nI_zI _) ?_ | refine G_S (pc := 77) f_80_77 rfl rfl rfl ?_
        refine G_ic (v := nI 2) (pc := 78) f_80_78 (by decide) ?_
        refine G_jgtZ (pc := 79) f_80_79 rfl (by first | exact nI_toInt (by omega) | exact zI_toInt (by omega) (by omega) | rfl) (by first | exact nI_toInt (by omega) | exact zI_toInt (by omega) (by omega) | rfl) (fun b3 => ?_) (fun b3 => ?_)
        · refine G_ic (v := nI 4) (pc := 86) f_80_86 (by decide) ?_
          refine G_pI (pc := 87) f_80_87 rfl (by first | assumption | exact hK.1 _ _ rfl) ?_
          refine G_rv (pc := 90) f_80_90 ?_
          have e : rn isG t (n - p) p = i := by
            rw [← hr]
            exact rn_n (by first | exact fun z => absurd z.1 (by omega) | exact fun z => b2 z.2)
          rw [e]
          first
            | (rw [if_pos (by omega)]
               exact ⟨rfl, hF.tr (Fp.upf (k := 9) (x := nI 2) (by decide)), (by (try dsimp only); exact up2_o (by omega) h8), (by (try dsimp only); exact up2_s), (by (try dsimp only); exact up2_o (by omega) h10), (by (try dsimp only); exact up2_o (by omega) h11)⟩)
            | (rw [if_neg (by omega)]
               exact ⟨rfl, hF.tr (Fp.upf (k := 9) (x := nI 4) (by decide)), (by (try dsimp only); exact up2_o (by omega) h8), (by (try dsimp only); exact up2_s), (by (try dsimp only); exact up2_o (by omega) h10), (by (try dsimp only); exact up2_o (by omega) h11)⟩)
        · refine G_ic (v := nI 2) (pc := 82) f_80_82 (by decide) ?_
          refine G_S (pc := 83) f_80_83 rfl rfl rfl ?_
          refine G_pI (pc := 87) f_80_87 rfl (by first | assumption | exact hK.1 _ _ rfl) ?_
          refine G_rv (pc := 90) f_80_90 ?_
          have e : rn isG t (n - p) p = i := by
            rw [← hr]
            exact rn_n (by first | exact fun z => absurd z.1 (by omega) | exact fun z => b2 z.2)
          rw [e]
          first
            | (rw [if_pos (by omega)]
               exact ⟨rfl, hF.tr (Fp.upf (k := 9) (x := nI 2) (by decide)), (by (try dsimp only); exact up2_o (by omega) h8), (by (try dsimp only); exact up2_s), (by (try dsimp only); exact up2_o (by omega) h10), (by (try dsimp only); exact up2_o (by omega) h11)⟩)
            | (rw [if_neg (by omega)]
               exact ⟨rfl, hF.tr (Fp.upf (k := 9) (x := nI 4) (by decide)), (by (try dsimp only); exact up2_o (by omega) h8), (by (try dsimp only); exact up2_s), (by (try dsimp only); exact up2_o (by omega) h10), (by (try dsimp only); exact up2_o (by omega) h11)⟩)
      · refine G_S (pc := 31) f_80_31 rfl rfl rfl ?_
        refine G_S (pc := 32) f_80_32 rfl rfl rfl ?_
        refine G_gIv (pc := 33) f_80_33 (by decide) rfl (by decide) (by first | assumption | exact hK.1 _ _ rfl) (h11) ?_
        refine G_bi (v := nI 10) (pc := 36) f_80_36 (by decide) ?_
        first | refine G_mulN (pc := 38) f_80_38 ?_ | refine G_mulZ (pc := 38) f_80_38 (by first | rfl | exact nI_zI _) (by first | rfl | exact nI_zI _) ?_ | refine G_S (pc := 38) f_80_38 rfl rfl rfl ?_
        refine G_S (pc := 39) f_80_39 rfl rfl rfl ?_
        refine G_gR (pc := 40) f_80_40 (by decide) rfl (by first | assumption | exact hK.1 _ _ rfl) (by first | assumption | exact hK.2 _ _ _ rfl | (try dsimp only) <;> (repeat (first | exact up2_s | refine up2_o (by first | decide | omega) ?_)) <;> first | assumption | exact hK.2 _ _ _ rfl) ?_
        refine G_S (pc := 43) f_80_43 rfl rfl rfl ?_
        refine G_gIv (pc := 44) f_80_44 (by decide) rfl (by decide) (by first | assumption | exact hK.1 _ _ rfl) (by first | assumption | exact mI_s | ((refine mI_o (by first | decide | omega) ?_); (repeat (refine mI_o (by first | decide | omega) ?_)); first | exact mI_s | assumption) | rfl) ?_
        refine G_baN (pc := 47) f_80_47 (by first | assumption | exact hK.1 _ _ rfl) (by decide) (by omega) (by omega) (by first | exact t1 | rfl) ?_
        first | refine G_addN (pc := 48) f_80_48 ?_ | refine G_addZ (pc := 48) f_80_48 (by first | rfl | exact nI_zI _) (by first | rfl | exact nI_zI _) ?_ | refine G_S (pc := 48) f_80_48 rfl rfl rfl ?_
        refine G_bi (v := nI 48) (pc := 49) f_80_49 (by decide) ?_
        first | refine G_subN (pc := 51) f_80_51 (by omega) ?_ | refine G_subZ (pc := 51) f_80_51 (by first | rfl | exact nI_zI _) (by first | rfl | exact nI_zI _) ?_ | refine G_S (pc := 51) f_80_51 rfl rfl rfl ?_
        refine G_pI (pc := 52) f_80_52 rfl (by first | assumption | exact hK.1 _ _ rfl) ?_
        refine G_S (pc := 55) f_80_55 rfl rfl rfl ?_
        refine G_S (pc := 56) f_80_56 rfl rfl rfl ?_
        refine G_gIv (pc := 57) f_80_57 (by decide) rfl (by decide) (by first | assumption | exact hK.1 _ _ rfl) (by first | assumption | exact mI_s | ((refine mI_o (by first | decide | omega) ?_); (repeat (refine mI_o (by first | decide | omega) ?_)); first | exact mI_s | assumption) | rfl) ?_
        refine G_ic (v := nI 1) (pc := 60) f_80_60 (by decide) ?_
        first | refine G_addN (pc := 61) f_80_61 ?_ | refine G_addZ (pc := 61) f_80_61 (by first | rfl | exact nI_zI _) (by first | rfl | exact nI_zI _) ?_ | refine G_S (pc := 61) f_80_61 rfl rfl rfl ?_
        refine G_pI (pc := 62) f_80_62 rfl (by first | assumption | exact hK.1 _ _ rfl) ?_
        refine G_S (pc := 65) f_80_65 rfl rfl rfl ?_
        have ev : zI (nvA t p (i - p) * ((10 : Nat) : Int) + t i - ((48 : Nat) : Int)) = zI (nvA t p (i + 1 - p)) := by
          rw [show i + 1 - p = i - p + 1 by omega, nvA, show p + (i - p) = i by omega]
          rfl
        refine ih (by omega) (by omega) _ (hF.tr ((Fp.upf (k := 11) (x := zI (nvA t p (i - p) * ((10 : Nat) : Int) + t i - ((48 : Nat) : Int))) (by decide)).tr (Fp.upf (k := 8) (x := nI (i + 1)) (by decide)))) (by (try dsimp only); exact up2_s) (by (try dsimp only); exact up2_o (by omega) (by (try dsimp only); exact up2_o (by omega) h10)) ?_ ((rn_y (by omega) b2).symm.trans hr)
        rw [← ev]
        exact (by (try dsimp only); exact up2_o (by omega) (by (try dsimp only); exact up2_s))
  have hK := W.1
  refine CG_in (mL := 1) (hl := false) (lv := [some (.ref 53)]) (ll := []) rfl rfl rfl ?_
  refine G_S (pc := 0) f_80_0 rfl rfl rfl ?_
  refine G_ic (v := nI 0) (pc := 1) f_80_1 (by decide) ?_
  refine G_pI (pc := 2) f_80_2 rfl (by first | assumption | exact hK.1 _ _ rfl) ?_
  refine loop p hp (Nat.le_refl _) _ (Fp.upf (k := 11) (x := nI 0) (by decide)) (by (try dsimp only); exact up2_o (by omega) hq) (by (try dsimp only); exact up2_o (by omega) h10) ?_ rfl
  rw [Nat.sub_self]
  exact (by (try dsimp only); exact up2_s)
theorem c_step (W : KTp M t n) (hq : M.2.1 53 8 = nI p) (hp : p ≤ n) : CG C 78 [.ref 53] M (fun w M' => w = none ∧ Fp 53 [] TS M M' ∧ TCk M' t n p) := by
  have loop : ∀ i, i ≤ n → ∀ M1, Fp 53 [] TS M M1 → M1.2.1 53 8 = nI i → rn isB t (n - i) i = skp t n p → G C 78 (0, [some (.ref 53)], [], [], M1) (fun w M' => w = none ∧ Fp 53 [] TS M M' ∧ TCk M' t n p) := by
    refine upto (fun i hi ih M1 hF h8 hr => ?_)
    have W1 := W.fp hF (by decide) (by decide)
    obtain ⟨hK, hM, r6, v7, hn, ht⟩ := W1
    by_cases hb : i < n ∧ isB (t i) = true
    · obtain ⟨t1, t2, t3⟩ := ht i hb.1
      refine G_S (pc := 0) f_78_0 rfl rfl rfl ?_
      refine G_gIv (pc := 1) f_78_1 (by decide) rfl (by decide) (by first | assumption | exact hK.1 _ _ rfl) (by first | assumption | exact mI_s | ((refine mI_o (by first | decide | omega) ?_); (repeat (refine mI_o (by first | decide | omega) ?_)); first | exact mI_s | assumption) | rfl) ?_
      refine G_S (pc := 4) f_78_4 rfl rfl rfl ?_
      refine G_gIv (pc := 5) f_78_5 (by decide) rfl (by decide) (by first | assumption | exact hK.1 _ _ rfl) (by first | assumption | exact mI_s | ((refine mI_o (by first | decide | omega) ?_); (repeat (refine mI_o (by first | decide | omega) ?_)); first | exact mI_s | assumption) | rfl) ?_
      refine G_jgeZ (pc := 8) f_78_8 rfl (by first | exact nI_toInt (by omega) | exact zI_toInt (by omega) (by omega) | rfl) (by first | exact nI_toInt (by omega) | exact zI_toInt (by omega) (by omega) | rfl) (fun b1 => ?_) (fun b1 => ?_)
      · exfalso; omega
      · refine G_S (pc := 11) f_78_11 rfl rfl rfl ?_
        refine G_gR (pc := 12) f_78_12 (by decide) rfl (by first | assumption | exact hK.1 _ _ rfl) (by first | assumption | exact hK.2 _ _ _ rfl | (try dsimp only) <;> (repeat (first | exact up2_s | refine up2_o (by first | decide | omega) ?_)) <;> first | assumption | exact hK.2 _ _ _ rfl) ?_
        refine G_S (pc := 15) f_78_15 rfl rfl rfl ?_
        refine G_gIv (pc := 16) f_78_16 (by decide) rfl (by decide) (by first | assumption | exact hK.1 _ _ rfl) (by first | assumption | exact mI_s | ((refine mI_o (by first | decide | omega) ?_); (repeat (refine mI_o (by first | decide | omega) ?_)); first | exact mI_s | assumption) | rfl) ?_
        refine G_baN (pc := 19) f_78_19 (by first | assumption | exact hK.1 _ _ rfl) (by decide) (by omega) (by omega) (by first | exact t1 | rfl) ?_
        refine G_CS (pc := 20) f_78_20 rfl rfl (by decide) rfl rfl ⟨Nat.le_of_ble_eq_true rfl, Nat.le_of_ble_eq_true rfl⟩ ?_
        refine CG.go (c_isBlank t2 t3) ?_
        first | refine G_bEq (pc := 23) f_78_23 rfl (fun b2 => ?_) (fun b2 => ?_) | refine G_zeqZ (pc := 23) f_78_23 rfl (by first | exact nI_toInt (by omega) | exact zI_toInt (by omega) (by omega) | rfl) (fun b2 => ?_) (fun b2 => ?_)
        · exact absurd hb.2 b2
        · refine G_S (pc := 26) f_78_26 rfl rfl rfl ?_
          refine G_S (pc := 27) f_78_27 rfl rfl rfl ?_
          refine G_gIv (pc := 28) f_78_28 (by decide) rfl (by decide) (by first | assumption | exact hK.1 _ _ rfl) (by first | assumption | exact mI_s | ((refine mI_o (by first | decide | omega) ?_); (repeat (refine mI_o (by first | decide | omega) ?_)); first | exact mI_s | assumption) | rfl) ?_
          refine G_ic (v := nI 1) (pc := 31) f_78_31 (by decide) ?_
          first | refine G_addN (pc := 32) f_78_32 ?_ | refine G_addZ (pc := 32) f_78_32 (by first | rfl | exact nI_zI _) (by first | rfl | exact nI_zI _) ?_ | refine G_S (pc := 32) f_78_32 rfl rfl rfl ?_
          refine G_pI (pc := 33) f_78_33 rfl (by first | assumption | exact hK.1 _ _ rfl) ?_
          refine G_S (pc := 36) f_78_36 rfl rfl rfl ?_
          exact ih (by omega) _ (hF.tr (Fp.upf (k := 8) (x := nI (i + 1)) (by decide))) (by (try dsimp only); exact up2_s) ((rn_y (by omega) b2).symm.trans hr)
    · have e : skp t n p = i := by
        rw [← hr]
        exact rn_n hb
      unfold TCk tkR tkK
      rw [e]
      have rest : G C 78 (39, [some (.ref 53)], [], [], M1) (fun w M' => w = none ∧ Fp 53 [] TS M M' ∧ (M'.2.1 53 8 = nI (tkRq t n i) ∧ M'.2.1 53 9 = nI (tkKq t n i) ∧ M'.2.1 53 10 = nI i ∧ (tkKq t n i = 2 → M'.2.1 53 11 = zI (nvA t i (tkRq t n i - i))))) := by
        have hF1 : Fp 53 [] TS M1 (M1.1, up2 M1.2.1 53 10 (nI i), M1.2.2.1, M1.2.2.2) := Fp.upf (by decide)
        have W2 : KTp (M1.1, up2 M1.2.1 53 10 (nI i), M1.2.2.1, M1.2.2.2) t n := KTp.fp ⟨hK, hM, r6, v7, hn, ht⟩ hF1 (by decide) (by decide)
        have h8' : up2 M1.2.1 53 10 (nI i) 53 8 = nI i := (by (try dsimp only); exact up2_o (by omega) h8)
        have v7' : up2 M1.2.1 53 10 (nI i) 53 7 = nI n := (by (try dsimp only); exact up2_o (by omega) v7)
        by_cases hin : i < n
        · obtain ⟨t1, t2, t3⟩ := ht i hin
          have t1' : up2 M1.2.1 53 10 (nI i) 2 i = zI (t i) := (by (try dsimp only); exact up2_o (by omega) t1)
          have hni : ¬ n ≤ i := by omega
          refine G_S (pc := 39) f_78_39 rfl rfl rfl ?_
          refine G_S (pc := 40) f_78_40 rfl rfl rfl ?_
          refine G_gIv (pc := 41) f_78_41 (by decide) rfl (by decide) (by first | assumption | exact hK.1 _ _ rfl) (by first | assumption | exact mI_s | ((refine mI_o (by first | decide | omega) ?_); (repeat (refine mI_o (by first | decide | omega) ?_)); first | exact mI_s | assumption) | rfl) ?_
          refine G_pI (pc := 44) f_78_44 rfl (by first | assumption | exact hK.1 _ _ rfl) ?_
          refine G_S (pc := 47) f_78_47 rfl rfl rfl ?_
          refine G_gIv (pc := 48) f_78_48 (by decide) rfl (by decide) (by first | assumption | exact hK.1 _ _ rfl) (by first | assumption | exact mI_s | ((refine mI_o (by first | decide | omega) ?_); (repeat (refine mI_o (by first | decide | omega) ?_)); first | exact mI_s | assumption) | rfl) ?_
          refine G_S (pc := 51) f_78_51 rfl rfl rfl ?_
          refine G_gIv (pc := 52) f_78_52 (by decide) rfl (by decide) (by first | assumption | exact hK.1 _ _ rfl) (by first | assumption | exact mI_s | ((refine mI_o (by first | decide | omega) ?_); (repeat (refine mI_o (by first | decide | omega) ?_)); first | exact mI_s | assumption) | rfl) ?_
          refine G_jltZ (pc := 55) f_78_55 rfl (by first | exact nI_toInt (by omega) | exact zI_toInt (by omega) (by omega) | rfl) (by first | exact nI_toInt (by omega) | exact zI_toInt (by omega) (by omega) | rfl) (fun b3 => ?_) (fun b3 => ?_)
          · refine G_S (pc := 66) f_78_66 rfl rfl rfl ?_
            refine G_gR (pc := 67) f_78_67 (by decide) rfl (by first | assumption | exact hK.1 _ _ rfl) (by first | assumption | exact hK.2 _ _ _ rfl | (try dsimp only) <;> (repeat (first | exact up2_s | refine up2_o (by first | decide | omega) ?_)) <;> first | assumption | exact hK.2 _ _ _ rfl) ?_
            refine G_S (pc := 70) f_78_70 rfl rfl rfl ?_
            refine G_gIv (pc := 71) f_78_71 (by decide) rfl (by decide) (by first | assumption | exact hK.1 _ _ rfl) (by first | assumption | exact mI_s | ((refine mI_o (by first | decide | omega) ?_); (repeat (refine mI_o (by first | decide | omega) ?_)); first | exact mI_s | assumption) | rfl) ?_
            refine G_baN (pc := 74) f_78_74 (by first | assumption | exact hK.1 _ _ rfl) (by decide) (by omega) (by omega) (by first | exact t1' | rfl) ?_
            refine G_CS (pc := 75) f_78_75 rfl rfl (by decide) rfl rfl ⟨Nat.le_of_ble_eq_true rfl, Nat.le_of_ble_eq_true rfl⟩ ?_
            refine CG.go (c_isLetter t2 t3) ?_
            first | refine G_bEq (pc := 78) f_78_78 rfl (fun b4 => ?_) (fun b4 => ?_) | refine G_zeqZ (pc := 78) f_78_78 rfl (by first | exact nI_toInt (by omega) | exact zI_toInt (by omega) (by omega) | rfl) (fun b4 => ?_) (fun b4 => ?_)
            · refine G_S (pc := 88) f_78_88 rfl rfl rfl ?_
              refine G_gR (pc := 89) f_78_89 (by decide) rfl (by first | assumption | exact hK.1 _ _ rfl) (by first | assumption | exact hK.2 _ _ _ rfl | (try dsimp only) <;> (repeat (first | exact up2_s | refine up2_o (by first | decide | omega) ?_)) <;> first | assumption | exact hK.2 _ _ _ rfl) ?_
              refine G_S (pc := 92) f_78_92 rfl rfl rfl ?_
              refine G_gIv (pc := 93) f_78_93 (by decide) rfl (by decide) (by first | assumption | exact hK.1 _ _ rfl) (by first | assumption | exact mI_s | ((refine mI_o (by first | decide | omega) ?_); (repeat (refine mI_o (by first | decide | omega) ?_)); first | exact mI_s | assumption) | rfl) ?_
              refine G_baN (pc := 96) f_78_96 (by first | assumption | exact hK.1 _ _ rfl) (by decide) (by omega) (by omega) (by first | exact t1' | rfl) ?_
              refine G_CS (pc := 97) f_78_97 rfl rfl (by decide) rfl rfl ⟨Nat.le_of_ble_eq_true rfl, Nat.le_of_ble_eq_true rfl⟩ ?_
              refine CG.go (c_isDigit t2 t3) ?_
              first | refine G_bEq (pc := 100) f_78_100 rfl (fun b5 => ?_) (fun b5 => ?_) | refine G_zeqZ (pc := 100) f_78_100 rfl (by first | exact nI_toInt (by omega) | exact zI_toInt (by omega) (by omega) | rfl) (fun b5 => ?_) (fun b5 => ?_)
              · refine G_S (pc := 110) f_78_110 rfl rfl rfl ?_
                refine G_S (pc := 111) f_78_111 rfl rfl rfl ?_
                refine G_gR (pc := 112) f_78_112 (by decide) rfl (by first | assumption | exact hK.1 _ _ rfl) (by first | assumption | exact hK.2 _ _ _ rfl | (try dsimp only) <;> (repeat (first | exact up2_s | refine up2_o (by first | decide | omega) ?_)) <;> first | assumption | exact hK.2 _ _ _ rfl) ?_
                refine G_S (pc := 115) f_78_115 rfl rfl rfl ?_
                refine G_gIv (pc := 116) f_78_116 (by decide) rfl (by decide) (by first | assumption | exact hK.1 _ _ rfl) (by first | assumption | exact mI_s | ((refine mI_o (by first | decide | omega) ?_); (repeat (refine mI_o (by first | decide | omega) ?_)); first | exact mI_s | assumption) | rfl) ?_
                refine G_baN (pc := 119) f_78_119 (by first | assumption | exact hK.1 _ _ rfl) (by decide) (by omega) (by omega) (by first | exact t1' | rfl) ?_
                refine G_bi (v := nI 59) (pc := 120) f_78_120 (by decide) ?_
                refine G_jneZ (pc := 122) f_78_122 rfl (by first | exact nI_toInt (by omega) | exact zI_toInt (by omega) (by omega) | rfl) (by first | exact nI_toInt (by omega) | exact zI_toInt (by omega) (by omega) | rfl) (fun b6 => ?_) (fun b6 => ?_)
                · refine G_ic (v := nI 4) (pc := 129) f_78_129 (by decide) ?_
                  refine G_pI (pc := 130) f_78_130 rfl (by first | assumption | exact hK.1 _ _ rfl) ?_
                  refine G_S (pc := 133) f_78_133 rfl rfl rfl ?_
                  refine G_S (pc := 134) f_78_134 rfl rfl rfl ?_
                  refine G_gIv (pc := 135) f_78_135 (by decide) rfl (by decide) (by first | assumption | exact hK.1 _ _ rfl) (by first | assumption | exact mI_s | ((refine mI_o (by first | decide | omega) ?_); (repeat (refine mI_o (by first | decide | omega) ?_)); first | exact mI_s | assumption) | rfl) ?_
                  refine G_ic (v := nI 1) (pc := 138) f_78_138 (by decide) ?_
                  first | refine G_addN (pc := 139) f_78_139 ?_ | refine G_addZ (pc := 139) f_78_139 (by first | rfl | exact nI_zI _) (by first | rfl | exact nI_zI _) ?_ | refine G_S (pc := 139) f_78_139 rfl rfl rfl ?_
                  refine G_pI (pc := 140) f_78_140 rfl (by first | assumption | exact hK.1 _ _ rfl) ?_
                  refine G_rv (pc := 143) f_78_143 ?_
                  first
                    | (have eq := tq_word hni b4
                       rw [eq.1, eq.2]
                       exact ⟨rfl, (hF.tr hF1).tr hF2, g8, g9, g10.trans (by (try dsimp only); exact up2_s), fun z => absurd z (by decide)⟩)
                    | (have eq := tq_dig hni b4 b5
                       rw [eq.1, eq.2]
                       exact ⟨rfl, (hF.tr hF1).tr hF2, g8, g9, g10, fun _ => g11⟩)
                    | (have eq := tq_oth hni b4 b5
                       rw [if_neg (show ¬ t i = 59 by omega)] at eq
                       rw [eq.1, eq.2]
                       exact ⟨rfl, ((hF.tr hF1).tr (Fp.upf (k := 9) (x := nI 4) (by decide))).tr (Fp.upf (k := 8) (x := nI (i + 1)) (by decide)), (by (try dsimp only); exact up2_s), (by (try dsimp only); exact up2_o (by omega) (by (try dsimp only); exact up2_s)), (by (try dsimp only); exact up2_o (by omega) (by (try dsimp only); exact up2_o (by omega) (by (try dsimp only); exact up2_s))), fun z => absurd z (by decide)⟩)
                    | (have eq := tq_oth hni b4 b5
                       rw [if_pos (show t i = 59 by omega)] at eq
                       rw [eq.1, eq.2]
                       exact ⟨rfl, ((hF.tr hF1).tr (Fp.upf (k := 9) (x := nI 3) (by decide))).tr (Fp.upf (k := 8) (x := nI (i + 1)) (by decide)), (by (try dsimp only); exact up2_s), (by (try dsimp only); exact up2_o (by omega) (by (try dsimp only); exact up2_s)), (by (try dsimp only); exact up2_o (by omega) (by (try dsimp only); exact up2_o (by omega) (by (try dsimp only); exact up2_s))), fun z => absurd z (by decide)⟩)
                · refine G_ic (v := nI 3) (pc := 125) f_78_125 (by decide) ?_
                  refine G_S (pc := 126) f_78_126 rfl rfl rfl ?_
                  refine G_pI (pc := 130) f_78_130 rfl (by first | assumption | exact hK.1 _ _ rfl) ?_
                  refine G_S (pc := 133) f_78_133 rfl rfl rfl ?_
                  refine G_S (pc := 134) f_78_134 rfl rfl rfl ?_
                  refine G_gIv (pc := 135) f_78_135 (by decide) rfl (by decide) (by first | assumption | exact hK.1 _ _ rfl) (by first | assumption | exact mI_s | ((refine mI_o (by first | decide | omega) ?_); (repeat (refine mI_o (by first | decide | omega) ?_)); first | exact mI_s | assumption) | rfl) ?_
                  refine G_ic (v := nI 1) (pc := 138) f_78_138 (by decide) ?_
                  first | refine G_addN (pc := 139) f_78_139 ?_ | refine G_addZ (pc := 139) f_78_139 (by first | rfl | exact nI_zI _) (by first | rfl | exact nI_zI _) ?_ | refine G_S (pc := 139) f_78_139 rfl rfl rfl ?_
                  refine G_pI (pc := 140) f_78_140 rfl (by first | assumption | exact hK.1 _ _ rfl) ?_
                  refine G_rv (pc := 143) f_78_143 ?_
                  first
                    | (have eq := tq_word hni b4
                       rw [eq.1, eq.2]
                       exact ⟨rfl, (hF.tr hF1).tr hF2, g8, g9, g10.trans (by (try dsimp only); exact up2_s), fun z => absurd z (by decide)⟩)
                    | (have eq := tq_dig hni b4 b5
                       rw [eq.1, eq.2]
                       exact ⟨rfl, (hF.tr hF1).tr hF2, g8, g9, g10, fun _ => g11⟩)
                    | (have eq := tq_oth hni b4 b5
                       rw [if_neg (show ¬ t i = 59 by omega)] at eq
                       rw [eq.1, eq.2]
                       exact ⟨rfl, ((hF.tr hF1).tr (Fp.upf (k := 9) (x := nI 4) (by decide))).tr (Fp.upf (k := 8) (x := nI (i + 1)) (by decide)), (by (try dsimp only); exact up2_s), (by (try dsimp only); exact up2_o (by omega) (by (try dsimp only); exact up2_s)), (by (try dsimp only); exact up2_o (by omega) (by (try dsimp only); exact up2_o (by omega) (by (try dsimp only); exact up2_s))), fun z => absurd z (by decide)⟩)
                    | (have eq := tq_oth hni b4 b5
                       rw [if_pos (show t i = 59 by omega)] at eq
                       rw [eq.1, eq.2]
                       exact ⟨rfl, ((hF.tr hF1).tr (Fp.upf (k := 9) (x := nI 3) (by decide))).tr (Fp.upf (k := 8) (x := nI (i + 1)) (by decide)), (by (try dsimp only); exact up2_s), (by (try dsimp only); exact up2_o (by omega) (by (try dsimp only); exact up2_s)), (by (try dsimp only); exact up2_o (by omega) (by (try dsimp only); exact up2_o (by omega) (by (try dsimp only); exact up2_s))), fun z => absurd z (by decide)⟩)
              · refine G_S (pc := 103) f_78_103 rfl rfl rfl ?_
                refine G_CV (pc := 104) f_78_104 rfl rfl (by decide) rfl rfl (by first | assumption | exact hK.1 _ _ rfl) (by decide) ⟨Nat.le_of_ble_eq_true rfl, Nat.le_of_ble_eq_true rfl⟩ ?_
                refine CG.mono (c_overDig W2 h8' (by (try dsimp only); exact up2_s) hi) ?_
                rintro _ M2 ⟨rfl, hF2, g8, g9, g10, g11⟩
                refine G_S (pc := 107) f_78_107 rfl rfl rfl ?_
                refine G_rv (pc := 143) f_78_143 ?_
                first
                  | (have eq := tq_word hni b4
                     rw [eq.1, eq.2]
                     exact ⟨rfl, (hF.tr hF1).tr hF2, g8, g9, g10.trans (by (try dsimp only); exact up2_s), fun z => absurd z (by decide)⟩)
                  | (have eq := tq_dig hni b4 b5
                     rw [eq.1, eq.2]
                     exact ⟨rfl, (hF.tr hF1).tr hF2, g8, g9, g10, fun _ => g11⟩)
                  | (have eq := tq_oth hni b4 b5
                     rw [if_neg (show ¬ t i = 59 by omega)] at eq
                     rw [eq.1, eq.2]
                     exact ⟨rfl, ((hF.tr hF1).tr (Fp.upf (k := 9) (x := nI 4) (by decide))).tr (Fp.upf (k := 8) (x := nI (i + 1)) (by decide)), (by (try dsimp only); exact up2_s), (by (try dsimp only); exact up2_o (by omega) (by (try dsimp only); exact up2_s)), (by (try dsimp only); exact up2_o (by omega) (by (try dsimp only); exact up2_o (by omega) (by (try dsimp only); exact up2_s))), fun z => absurd z (by decide)⟩)
                  | (have eq := tq_oth hni b4 b5
                     rw [if_pos (show t i = 59 by omega)] at eq
                     rw [eq.1, eq.2]
                     exact ⟨rfl, ((hF.tr hF1).tr (Fp.upf (k := 9) (x := nI 3) (by decide))).tr (Fp.upf (k := 8) (x := nI (i + 1)) (by decide)), (by (try dsimp only); exact up2_s), (by (try dsimp only); exact up2_o (by omega) (by (try dsimp only); exact up2_s)), (by (try dsimp only); exact up2_o (by omega) (by (try dsimp only); exact up2_o (by omega) (by (try dsimp only); exact up2_s))), fun z => absurd z (by decide)⟩)
            · refine G_S (pc := 81) f_78_81 rfl rfl rfl ?_
              refine G_CV (pc := 82) f_78_82 rfl rfl (by decide) rfl rfl (by first | assumption | exact hK.1 _ _ rfl) (by decide) ⟨Nat.le_of_ble_eq_true rfl, Nat.le_of_ble_eq_true rfl⟩ ?_
              refine CG.mono (c_overWord W2 h8' hi) ?_
              rintro _ M2 ⟨rfl, hF2, g8, g9, g10⟩
              refine G_S (pc := 85) f_78_85 rfl rfl rfl ?_
              refine G_rv (pc := 143) f_78_143 ?_
              first
                | (have eq := tq_word hni b4
                   rw [eq.1, eq.2]
                   exact ⟨rfl, (hF.tr hF1).tr hF2, g8, g9, g10.trans (by (try dsimp only); exact up2_s), fun z => absurd z (by decide)⟩)
                | (have eq := tq_dig hni b4 b5
                   rw [eq.1, eq.2]
                   exact ⟨rfl, (hF.tr hF1).tr hF2, g8, g9, g10, fun _ => g11⟩)
                | (have eq := tq_oth hni b4 b5
                   rw [if_neg (show ¬ t i = 59 by omega)] at eq
                   rw [eq.1, eq.2]
                   exact ⟨rfl, ((hF.tr hF1).tr (Fp.upf (k := 9) (x := nI 4) (by decide))).tr (Fp.upf (k := 8) (x := nI (i + 1)) (by decide)), (by (try dsimp only); exact up2_s), (by (try dsimp only); exact up2_o (by omega) (by (try dsimp only); exact up2_s)), (by (try dsimp only); exact up2_o (by omega) (by (try dsimp only); exact up2_o (by omega) (by (try dsimp only); exact up2_s))), fun z => absurd z (by decide)⟩)
                | (have eq := tq_oth hni b4 b5
                   rw [if_pos (show t i = 59 by omega)] at eq
                   rw [eq.1, eq.2]
                   exact ⟨rfl, ((hF.tr hF1).tr (Fp.upf (k := 9) (x := nI 3) (by decide))).tr (Fp.upf (k := 8) (x := nI (i + 1)) (by decide)), (by (try dsimp only); exact up2_s), (by (try dsimp only); exact up2_o (by omega) (by (try dsimp only); exact up2_s)), (by (try dsimp only); exact up2_o (by omega) (by (try dsimp only); exact up2_o (by omega) (by (try dsimp only); exact up2_s))), fun z => absurd z (by decide)⟩)
          · exfalso; omega
        · have hni : n ≤ i := by omega
          have eq := tq_end (t := t) hni
          rw [eq.1, eq.2]
          refine G_S (pc := 39) f_78_39 rfl rfl rfl ?_
          refine G_S (pc := 40) f_78_40 rfl rfl rfl ?_
          refine G_gIv (pc := 41) f_78_41 (by decide) rfl (by decide) (by first | assumption | exact hK.1 _ _ rfl) (by first | assumption | exact mI_s | ((refine mI_o (by first | decide | omega) ?_); (repeat (refine mI_o (by first | decide | omega) ?_)); first | exact mI_s | assumption) | rfl) ?_
          refine G_pI (pc := 44) f_78_44 rfl (by first | assumption | exact hK.1 _ _ rfl) ?_
          refine G_S (pc := 47) f_78_47 rfl rfl rfl ?_
          refine G_gIv (pc := 48) f_78_48 (by decide) rfl (by decide) (by first | assumption | exact hK.1 _ _ rfl) (by first | assumption | exact mI_s | ((refine mI_o (by first | decide | omega) ?_); (repeat (refine mI_o (by first | decide | omega) ?_)); first | exact mI_s | assumption) | rfl) ?_
          refine G_S (pc := 51) f_78_51 rfl rfl rfl ?_
          refine G_gIv (pc := 52) f_78_52 (by decide) rfl (by decide) (by first | assumption | exact hK.1 _ _ rfl) (by first | assumption | exact mI_s | ((refine mI_o (by first | decide | omega) ?_); (repeat (refine mI_o (by first | decide | omega) ?_)); first | exact mI_s | assumption) | rfl) ?_
          refine G_jltZ (pc := 55) f_78_55 rfl (by first | exact nI_toInt (by omega) | exact zI_toInt (by omega) (by omega) | rfl) (by first | exact nI_toInt (by omega) | exact zI_toInt (by omega) (by omega) | rfl) (fun b3 => ?_) (fun b3 => ?_)
          · exfalso; omega
          · refine G_S (pc := 58) f_78_58 rfl rfl rfl ?_
            refine G_ic (v := nI 0) (pc := 59) f_78_59 (by decide) ?_
            refine G_pI (pc := 60) f_78_60 rfl (by first | assumption | exact hK.1 _ _ rfl) ?_
            refine G_S (pc := 63) f_78_63 rfl rfl rfl ?_
            refine G_rv (pc := 143) f_78_143 ?_
            exact ⟨rfl, (hF.tr hF1).tr (Fp.upf (k := 9) (x := nI 0) (by decide)), (by (try dsimp only); exact up2_o (by omega) (by (try dsimp only); exact up2_o (by omega) h8)), (by (try dsimp only); exact up2_s), (by (try dsimp only); exact up2_o (by omega) (by (try dsimp only); exact up2_s)), fun z => absurd z (by decide)⟩
      by_cases hin : i < n
      · obtain ⟨t1, t2, t3⟩ := ht i hin
        refine G_S (pc := 0) f_78_0 rfl rfl rfl ?_
        refine G_gIv (pc := 1) f_78_1 (by decide) rfl (by decide) (by first | assumption | exact hK.1 _ _ rfl) (by first | assumption | exact mI_s | ((refine mI_o (by first | decide | omega) ?_); (repeat (refine mI_o (by first | decide | omega) ?_)); first | exact mI_s | assumption) | rfl) ?_
        refine G_S (pc := 4) f_78_4 rfl rfl rfl ?_
        refine G_gIv (pc := 5) f_78_5 (by decide) rfl (by decide) (by first | assumption | exact hK.1 _ _ rfl) (by first | assumption | exact mI_s | ((refine mI_o (by first | decide | omega) ?_); (repeat (refine mI_o (by first | decide | omega) ?_)); first | exact mI_s | assumption) | rfl) ?_
        refine G_jgeZ (pc := 8) f_78_8 rfl (by first | exact nI_toInt (by omega) | exact zI_toInt (by omega) (by omega) | rfl) (by first | exact nI_toInt (by omega) | exact zI_toInt (by omega) (by omega) | rfl) (fun b1 => ?_) (fun b1 => ?_)
        · exfalso; omega
        · refine G_S (pc := 11) f_78_11 rfl rfl rfl ?_
          refine G_gR (pc := 12) f_78_12 (by decide) rfl (by first | assumption | exact hK.1 _ _ rfl) (by first | assumption | exact hK.2 _ _ _ rfl | (try dsimp only) <;> (repeat (first | exact up2_s | refine up2_o (by first | decide | omega) ?_)) <;> first | assumption | exact hK.2 _ _ _ rfl) ?_
          refine G_S (pc := 15) f_78_15 rfl rfl rfl ?_
          refine G_gIv (pc := 16) f_78_16 (by decide) rfl (by decide) (by first | assumption | exact hK.1 _ _ rfl) (by first | assumption | exact mI_s | ((refine mI_o (by first | decide | omega) ?_); (repeat (refine mI_o (by first | decide | omega) ?_)); first | exact mI_s | assumption) | rfl) ?_
          refine G_baN (pc := 19) f_78_19 (by first | assumption | exact hK.1 _ _ rfl) (by decide) (by omega) (by omega) (by first | exact t1 | rfl) ?_
          refine G_CS (pc := 20) f_78_20 rfl rfl (by decide) rfl rfl ⟨Nat.le_of_ble_eq_true rfl, Nat.le_of_ble_eq_true rfl⟩ ?_
          refine CG.go (c_isBlank t2 t3) ?_
          first | refine G_bEq (pc := 23) f_78_23 rfl (fun b2 => ?_) (fun b2 => ?_) | refine G_zeqZ (pc := 23) f_78_23 rfl (by first | exact nI_toInt (by omega) | exact zI_toInt (by omega) (by omega) | rfl) (fun b2 => ?_) (fun b2 => ?_)
          · exact rest
          · exact absurd ⟨hin, b2⟩ hb
      · refine G_S (pc := 0) f_78_0 rfl rfl rfl ?_
        refine G_gIv (pc := 1) f_78_1 (by decide) rfl (by decide) (by first | assumption | exact hK.1 _ _ rfl) (by first | assumption | exact mI_s | ((refine mI_o (by first | decide | omega) ?_); (repeat (refine mI_o (by first | decide | omega) ?_)); first | exact mI_s | assumption) | rfl) ?_
        refine G_S (pc := 4) f_78_4 rfl rfl rfl ?_
        refine G_gIv (pc := 5) f_78_5 (by decide) rfl (by decide) (by first | assumption | exact hK.1 _ _ rfl) (by first | assumption | exact mI_s | ((refine mI_o (by first | decide | omega) ?_); (repeat (refine mI_o (by first | decide | omega) ?_)); first | exact mI_s | assumption) | rfl) ?_
        refine G_jgeZ (pc := 8) f_78_8 rfl (by first | exact nI_toInt (by omega) | exact zI_toInt (by omega) (by omega) | rfl) (by first | exact nI_toInt (by omega) | exact zI_toInt (by omega) (by omega) | rfl) (fun b1 => ?_) (fun b1 => ?_)
        · exact rest
        · exfalso; omega
  refine CG_in (mL := 1) (hl := false) (lv := [some (.ref 53)]) (ll := []) rfl rfl rfl ?_
  exact loop p hp M Fp.rf hq rfl
end CST
