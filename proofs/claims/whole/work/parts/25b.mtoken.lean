/-! the reference's tokens: one token -/
def MTq (M : Mm) (t : Nat → Int) (n i : Nat) : Prop := M.2.1 98 10 = nI (tkRq t n i) ∧ M.2.1 98 12 = nI i ∧ M.2.1 98 13 = nI (mkK (tkKq t n i)) ∧ (tkKq t n i = 2 → M.2.1 98 14 = zI (nvA t i (tkRq t n i - i))) ∧ M.2.2.1 98 15 = (if tkKq t n i = 1 ∧ tkRq t n i - i ≤ 8 then nL (pkB (fun k => (t (i + k)).toNat) (tkRq t n i - i)) else 0)
section MTK
variable {C : Ct} {M : Mm} {t : Nat → Int} {n p : Nat}
theorem m_word {q : Nat} {c : Int32} (hq : q < n) (hL : isL (t q) = true) : ∀ i, i ≤ n → q ≤ i → ∀ M1 Wj, MTp M1 t n → M1.2.1 98 10 = nI i → M1.2.1 98 12 = nI q → M1.2.2.1 98 15 = Wj → (i - q ≤ 8 → Wj = nL (pkB (fun k => (t (q + k)).toNat) (i - q))) → rn isL t (n - i) i = rn isL t (n - q) q → (∀ k, q ≤ k → k < i → isL (t k) = true) → G C 201 (74, [some (.ref 98), some (.int c), some (.int (nI (i - q)))], [], [], M1) (fun w M' => w = none ∧ Fp 98 [] TMs M1 M' ∧ MTq M' t n q) := by
  have hni : ¬ n ≤ q := by omega
  have eq := tq_word hni hL
  refine upto (fun i hi ih hqi M1 Wj W1 h10 h12 hW hp8 hr hall => ?_)
  have W1' := W1
  obtain ⟨hK, v7, hn, ht⟩ := W1
  obtain ⟨s1, s2, s3, s4, s5⟩ := sv_b (t := t) (n := n) (i := i) (fun z => (ht i z).2)
  have s97 := s5 97 122 (by decide) (by decide)
  have ts := m_see (C := C) W1' h10 hi
  refine G_S (pc := 74) f_201_74 rfl rfl rfl ?_
  refine G_CV (pc := 75) f_201_75 rfl rfl (by decide) rfl rfl (by first | assumption | exact hK.1 _ _ rfl) (by decide) ⟨Nat.le_of_ble_eq_true rfl, Nat.le_of_ble_eq_true rfl⟩ ?_
  refine CG.go (ts) ?_
  refine G_bi (v := nI 97) (pc := 78) f_201_78 (by decide) ?_
  refine G_bi (v := nI 122) (pc := 80) f_201_80 (by decide) ?_
  refine G_CS (pc := 82) f_201_82 rfl rfl (by decide) rfl rfl ⟨Nat.le_of_ble_eq_true rfl, Nat.le_of_ble_eq_true rfl⟩ ?_
  refine CG.go (m_inZ (by first | exact nI_toInt (by omega) | exact zI_toInt (by omega) (by omega) | rfl) (by first | exact nI_toInt (by omega) | exact zI_toInt (by omega) (by omega) | rfl) (by first | exact nI_toInt (by omega) | exact zI_toInt (by omega) (by omega) | rfl)) ?_
  first | refine G_bEq (pc := 85) f_201_85 rfl (fun b5 => ?_) (fun b5 => ?_) | refine G_zeqZ (pc := 85) f_201_85 rfl (by first | exact nI_toInt (by omega) | exact zI_toInt (by omega) (by omega) | rfl) (fun b5 => ?_) (fun b5 => ?_)
  · refine G_S (pc := 121) f_201_121 rfl rfl rfl ?_
    refine G_S (pc := 122) f_201_122 rfl rfl rfl ?_
    refine G_bi (v := nI 8) (pc := 123) f_201_123 (by decide) ?_
    refine G_jleZ (pc := 125) f_201_125 rfl (by first | exact nI_toInt (by omega) | exact zI_toInt (by omega) (by omega) | rfl) (by first | exact nI_toInt (by omega) | exact zI_toInt (by omega) (by omega) | rfl) (fun b6 => ?_) (fun b6 => ?_)
    · refine G_S (pc := 132) f_201_132 rfl rfl rfl ?_
      refine G_gLv (pc := 133) f_201_133 (by decide) rfl (by first | assumption | exact hK.1 _ _ rfl) (by first | assumption | exact mI_s | ((refine mI_o (by first | decide | omega) ?_); (repeat (refine mI_o (by first | decide | omega) ?_)); first | exact mI_s | assumption) | rfl) ?_
      refine G_pL (pc := 136) f_201_136 rfl (by first | assumption | exact hK.1 _ _ rfl) ?_
      refine G_S (pc := 139) f_201_139 rfl rfl rfl ?_
      refine G_ic (v := nI 2) (pc := 140) f_201_140 (by decide) ?_
      refine G_pI (pc := 141) f_201_141 rfl (by first | assumption | exact hK.1 _ _ rfl) ?_
      refine G_S (pc := 144) f_201_144 rfl rfl rfl ?_
      refine G_rv (pc := 266) f_201_266 ?_
      have hnot : ¬ (i < n ∧ isL (t i) = true) := fun z => by
        have := of_decide_eq_true z.2
        exact absurd (s97.mpr ⟨z.1, this⟩) (by omega)
      have er : tkRq t n q = i := by
        rw [eq.2, ← hr]
        exact rn_n hnot
      unfold MTq
      rw [er, eq.1]
      first
        | (have hF1 : Fp 98 [] TMs M1 (M1.1, up2 M1.2.1 98 13 (nI 2), up2 M1.2.2.1 98 15 Wj, M1.2.2.2) := (Fp.upL (k := 15) (x := Wj)).tr (Fp.upf (k := 13) (x := nI 2) (by decide))
           refine ⟨rfl, hF1, (by (try dsimp only); exact up2_o (by omega) h10), (by (try dsimp only); exact up2_o (by omega) h12), (by (try dsimp only); exact up2_s), fun z => absurd z (by decide), ?_⟩
           rw [if_pos ⟨rfl, by omega⟩, ← hp8 (by omega)]
           exact (by (try dsimp only); exact up2_s))
        | (have hF1 : Fp 98 [] TMs M1 (M1.1, up2 M1.2.1 98 13 (nI 2), up2 M1.2.2.1 98 15 0, M1.2.2.2) := (Fp.upL (k := 15) (x := 0)).tr (Fp.upf (k := 13) (x := nI 2) (by decide))
           refine ⟨rfl, hF1, (by (try dsimp only); exact up2_o (by omega) h10), (by (try dsimp only); exact up2_o (by omega) h12), (by (try dsimp only); exact up2_s), fun z => absurd z (by decide), ?_⟩
           rw [if_neg (fun z => absurd z.2 (by omega))]
           exact (by (try dsimp only); exact up2_s))
    · refine G_S (pc := 128) f_201_128 rfl rfl rfl ?_
      refine G_S (pc := 129) f_201_129 rfl rfl rfl ?_
      refine G_pL (pc := 136) f_201_136 rfl (by first | assumption | exact hK.1 _ _ rfl) ?_
      refine G_S (pc := 139) f_201_139 rfl rfl rfl ?_
      refine G_ic (v := nI 2) (pc := 140) f_201_140 (by decide) ?_
      refine G_pI (pc := 141) f_201_141 rfl (by first | assumption | exact hK.1 _ _ rfl) ?_
      refine G_S (pc := 144) f_201_144 rfl rfl rfl ?_
      refine G_rv (pc := 266) f_201_266 ?_
      have hnot : ¬ (i < n ∧ isL (t i) = true) := fun z => by
        have := of_decide_eq_true z.2
        exact absurd (s97.mpr ⟨z.1, this⟩) (by omega)
      have er : tkRq t n q = i := by
        rw [eq.2, ← hr]
        exact rn_n hnot
      unfold MTq
      rw [er, eq.1]
      first
        | (have hF1 : Fp 98 [] TMs M1 (M1.1, up2 M1.2.1 98 13 (nI 2), up2 M1.2.2.1 98 15 Wj, M1.2.2.2) := (Fp.upL (k := 15) (x := Wj)).tr (Fp.upf (k := 13) (x := nI 2) (by decide))
           refine ⟨rfl, hF1, (by (try dsimp only); exact up2_o (by omega) h10), (by (try dsimp only); exact up2_o (by omega) h12), (by (try dsimp only); exact up2_s), fun z => absurd z (by decide), ?_⟩
           rw [if_pos ⟨rfl, by omega⟩, ← hp8 (by omega)]
           exact (by (try dsimp only); exact up2_s))
        | (have hF1 : Fp 98 [] TMs M1 (M1.1, up2 M1.2.1 98 13 (nI 2), up2 M1.2.2.1 98 15 0, M1.2.2.2) := (Fp.upL (k := 15) (x := 0)).tr (Fp.upf (k := 13) (x := nI 2) (by decide))
           refine ⟨rfl, hF1, (by (try dsimp only); exact up2_o (by omega) h10), (by (try dsimp only); exact up2_o (by omega) h12), (by (try dsimp only); exact up2_s), fun z => absurd z (by decide), ?_⟩
           rw [if_neg (fun z => absurd z.2 (by omega))]
           exact (by (try dsimp only); exact up2_s))
  · refine G_S (pc := 88) f_201_88 rfl rfl rfl ?_
    refine G_S (pc := 89) f_201_89 rfl rfl rfl ?_
    refine G_gLv (pc := 90) f_201_90 (by decide) rfl (by first | assumption | exact hK.1 _ _ rfl) (by first | assumption | exact mI_s | ((refine mI_o (by first | decide | omega) ?_); (repeat (refine mI_o (by first | decide | omega) ?_)); first | exact mI_s | assumption) | rfl) ?_
    refine G_bi (v := nI 8) (pc := 93) f_201_93 (by decide) ?_
    refine G_S (pc := 95) f_201_95 rfl rfl rfl ?_
    refine G_S (pc := 96) f_201_96 rfl rfl rfl ?_
    refine G_CV (pc := 97) f_201_97 rfl rfl (by decide) rfl rfl (by first | assumption | exact hK.1 _ _ rfl) (by decide) ⟨Nat.le_of_ble_eq_true rfl, Nat.le_of_ble_eq_true rfl⟩ ?_
    refine CG.go (ts) ?_
    refine G_S (pc := 100) f_201_100 rfl rfl rfl ?_
    refine G_S (pc := 101) f_201_101 rfl rfl rfl ?_
    refine G_pL (pc := 102) f_201_102 rfl (by first | assumption | exact hK.1 _ _ rfl) ?_
    refine G_S (pc := 105) f_201_105 rfl rfl rfl ?_
    refine G_S (pc := 106) f_201_106 rfl rfl rfl ?_
    refine G_gIv (pc := 107) f_201_107 (by decide) rfl (by decide) (by first | assumption | exact hK.1 _ _ rfl) (by first | assumption | exact mI_s | ((refine mI_o (by first | decide | omega) ?_); (repeat (refine mI_o (by first | decide | omega) ?_)); first | exact mI_s | assumption) | rfl) ?_
    refine G_ic (v := nI 1) (pc := 110) f_201_110 (by decide) ?_
    first | refine G_addN (pc := 111) f_201_111 ?_ | refine G_addZ (pc := 111) f_201_111 (by first | rfl | exact nI_zI _) (by first | rfl | exact nI_zI _) ?_ | refine G_S (pc := 111) f_201_111 rfl rfl rfl ?_
    refine G_pI (pc := 112) f_201_112 rfl (by first | assumption | exact hK.1 _ _ rfl) ?_
    first | refine G_inc1 (pc := 115) f_201_115 rfl ?_ | refine G_S (pc := 115) f_201_115 rfl rfl rfl ?_
    refine G_S (pc := 118) f_201_118 rfl rfl rfl ?_
    have hin : i < n ∧ 97 ≤ t i ∧ t i ≤ 122 := s97.mp (by omega)
    have hLi : isL (t i) = true := decide_eq_true hin.2
    have hF1 : Fp 98 [] TMs M1 (M1.1, up2 M1.2.1 98 10 (nI (i + 1)), up2 M1.2.2.1 98 15 (Wj <<< ((nI 8).toInt64 &&& 63) ||| (zI (sv t n i)).toInt64), M1.2.2.2) := (Fp.upL (k := 15) (x := Wj <<< ((nI 8).toInt64 &&& 63) ||| (zI (sv t n i)).toInt64)).tr (Fp.upf (k := 10) (x := nI (i + 1)) (by decide))
    have e := ih (by omega) (by omega) (M1.1, up2 M1.2.1 98 10 (nI (i + 1)), up2 M1.2.2.1 98 15 (Wj <<< ((nI 8).toInt64 &&& 63) ||| (zI (sv t n i)).toInt64), M1.2.2.2) (Wj <<< ((nI 8).toInt64 &&& 63) ||| (zI (sv t n i)).toInt64) (W1'.fp hF1 (by decide) (by decide)) (by (try dsimp only); exact up2_s) (by (try dsimp only); exact up2_o (by omega) h12) (by (try dsimp only); exact up2_s) (fun z => ?_) ((rn_y hin.1 hLi).symm.trans hr) (fun k z1 z2 => by
      by_cases ek : k = i
      · subst ek
        exact hLi
      · exact hall k z1 (by omega))
    · refine G.mono ?_ (fun w M9 (z : w = none ∧ Fp 98 [] TMs (M1.1, up2 M1.2.1 98 10 (nI (i + 1)), up2 M1.2.2.1 98 15 (Wj <<< ((nI 8).toInt64 &&& 63) ||| (zI (sv t n i)).toInt64), M1.2.2.2) M9 ∧ MTq M9 t n q) => ⟨z.1, hF1.tr z.2.1, z.2.2⟩)
      rw [show i + 1 - q = i - q + 1 by omega] at e
      exact e
    · have hpk := hp8 (by omega)
      have hsv : sv t n i = t i := by
        unfold sv uz
        rw [if_pos hin.1, if_pos (by omega)]
      have hlt := pkB_lt (w := fun k => (t (q + k)).toNat) (i - q) (fun k hk => by
        have := of_decide_eq_true (hall (q + k) (by omega) (by omega))
        omega)
      have h7 : (256 : Nat) ^ (i - q) ≤ 256 ^ 7 := Nat.pow_le_pow_right (by decide) (by omega)
      have h56 : (256 : Nat) ^ 7 = 2 ^ 56 := by decide
      rw [hpk, hsv, show zI (t i) = nI (t i).toNat by rw [nI_zI]; congr 1; omega, pk_step (by omega) (by omega), show i + 1 - q = i - q + 1 by omega, pkB, show q + (i - q) = i by omega]
theorem m_digs {q : Nat} {c : Int32} (hq : q < n) (hL : ¬ isL (t q) = true) (hG : isG (t q) = true) : ∀ i, i ≤ n → q ≤ i → ∀ M1, MTp M1 t n → M1.2.1 98 10 = nI i → M1.2.1 98 12 = nI q → M1.2.2.1 98 15 = 0 → M1.2.1 98 14 = zI (nvA t q (min (i - q) 2)) → rn isG t (n - i) i = rn isG t (n - q) q → G C 201 (163, [some (.ref 98), some (.int c), some (.int (nI (i - q)))], [], [], M1) (fun w M' => w = none ∧ Fp 98 [] TMs M1 M' ∧ MTq M' t n q) := by
  have hni : ¬ n ≤ q := by omega
  have eq := tq_dig hni hL hG
  refine upto (fun i hi ih hqi M1 W1 h10 h12 hW h14 hr => ?_)
  have W1' := W1
  obtain ⟨hK, v7, hn, ht⟩ := W1
  obtain ⟨s1, s2, s3, s4, s5⟩ := sv_b (t := t) (n := n) (i := i) (fun z => (ht i z).2)
  have s48 := s5 48 57 (by decide) (by decide)
  have ts := m_see (C := C) W1' h10 hi
  have nxt : ∀ x : Int32, i < n → isG (t i) = true → x = zI (nvA t q (min (i - q + 1) 2)) → G C 201 (163, [some (.ref 98), some (.int c), some (.int (nI (i - q + 1)))], [], [], (M1.1, up2 (up2 M1.2.1 98 14 x) 98 10 (nI (i + 1)), M1.2.2.1, M1.2.2.2)) (fun w M' => w = none ∧ Fp 98 [] TMs M1 M' ∧ MTq M' t n q) := by
    intro x hin hGi hx
    rw [show i - q + 1 = i + 1 - q by omega] at hx ⊢
    subst hx
    have hF1 : Fp 98 [] TMs M1 (M1.1, up2 (up2 M1.2.1 98 14 (zI (nvA t q (min (i + 1 - q) 2)))) 98 10 (nI (i + 1)), M1.2.2.1, M1.2.2.2) := (Fp.upf (k := 14) (by decide)).tr (Fp.upf (k := 10) (x := nI (i + 1)) (by decide))
    have e := ih (by omega) (by omega) _ (W1'.fp hF1 (by decide) (by decide)) (by (try dsimp only); exact up2_s) (by (try dsimp only); exact up2_o (by omega) (by (try dsimp only); exact up2_o (by omega) h12)) hW (by (try dsimp only); exact up2_o (by omega) (by (try dsimp only); exact up2_s)) ((rn_y hin hGi).symm.trans hr)
    exact G.mono e (fun w M9 z => ⟨z.1, hF1.tr z.2.1, z.2.2⟩)
  refine G_S (pc := 163) f_201_163 rfl rfl rfl ?_
  refine G_CV (pc := 164) f_201_164 rfl rfl (by decide) rfl rfl (by first | assumption | exact hK.1 _ _ rfl) (by decide) ⟨Nat.le_of_ble_eq_true rfl, Nat.le_of_ble_eq_true rfl⟩ ?_
  refine CG.go (ts) ?_
  refine G_bi (v := nI 48) (pc := 167) f_201_167 (by decide) ?_
  refine G_bi (v := nI 57) (pc := 169) f_201_169 (by decide) ?_
  refine G_CS (pc := 171) f_201_171 rfl rfl (by decide) rfl rfl ⟨Nat.le_of_ble_eq_true rfl, Nat.le_of_ble_eq_true rfl⟩ ?_
  refine CG.go (m_inZ (by first | exact nI_toInt (by omega) | exact zI_toInt (by omega) (by omega) | rfl) (by first | exact nI_toInt (by omega) | exact zI_toInt (by omega) (by omega) | rfl) (by first | exact nI_toInt (by omega) | exact zI_toInt (by omega) (by omega) | rfl)) ?_
  first | refine G_bEq (pc := 174) f_201_174 rfl (fun b8 => ?_) (fun b8 => ?_) | refine G_zeqZ (pc := 174) f_201_174 rfl (by first | exact nI_toInt (by omega) | exact zI_toInt (by omega) (by omega) | rfl) (fun b8 => ?_) (fun b8 => ?_)
  · refine G_S (pc := 224) f_201_224 rfl rfl rfl ?_
    refine G_S (pc := 225) f_201_225 rfl rfl rfl ?_
    refine G_ic (v := nI 2) (pc := 226) f_201_226 (by decide) ?_
    refine G_jleZ (pc := 227) f_201_227 rfl (by first | exact nI_toInt (by omega) | exact zI_toInt (by omega) (by omega) | rfl) (by first | exact nI_toInt (by omega) | exact zI_toInt (by omega) (by omega) | rfl) (fun b10 => ?_) (fun b10 => ?_)
    · refine G_ic (v := nI 3) (pc := 234) f_201_234 (by decide) ?_
      refine G_pI (pc := 235) f_201_235 rfl (by first | assumption | exact hK.1 _ _ rfl) ?_
      refine G_S (pc := 238) f_201_238 rfl rfl rfl ?_
      refine G_rv (pc := 266) f_201_266 ?_
      have hnot : ¬ (i < n ∧ isG (t i) = true) := fun z => by
        have := of_decide_eq_true z.2
        exact absurd (s48.mpr ⟨z.1, this⟩) (by omega)
      have er : rn isG t (n - q) q = i := by
        rw [← hr]
        exact rn_n hnot
      unfold MTq
      rw [eq.2, eq.1, er]
      first
        | (rw [if_pos (show i - q ≤ 2 by omega)]
           have hF1 : Fp 98 [] TMs M1 (M1.1, up2 M1.2.1 98 13 (nI 3), M1.2.2.1, M1.2.2.2) := Fp.upf (k := 13) (x := nI 3) (by decide)
           refine ⟨rfl, hF1, (by (try dsimp only); exact up2_o (by omega) h10), (by (try dsimp only); exact up2_o (by omega) h12), (by (try dsimp only); exact up2_s), fun z => ?_, ?_⟩
           · rw [show min (i - q) 2 = i - q by omega] at h14
             exact (by (try dsimp only); exact up2_o (by omega) h14)
           · rw [if_neg (fun z => absurd z.1 (by decide))]
             exact hW)
        | (rw [if_neg (show ¬ i - q ≤ 2 by omega)]
           have hF1 : Fp 98 [] TMs M1 (M1.1, up2 M1.2.1 98 13 (nI 1), M1.2.2.1, M1.2.2.2) := Fp.upf (k := 13) (x := nI 1) (by decide)
           refine ⟨rfl, hF1, (by (try dsimp only); exact up2_o (by omega) h10), (by (try dsimp only); exact up2_o (by omega) h12), (by (try dsimp only); exact up2_s), fun z => absurd z (by decide), ?_⟩
           rw [if_neg (fun z => absurd z.1 (by decide))]
           exact hW)
    · refine G_ic (v := nI 1) (pc := 230) f_201_230 (by decide) ?_
      refine G_S (pc := 231) f_201_231 rfl rfl rfl ?_
      refine G_pI (pc := 235) f_201_235 rfl (by first | assumption | exact hK.1 _ _ rfl) ?_
      refine G_S (pc := 238) f_201_238 rfl rfl rfl ?_
      refine G_rv (pc := 266) f_201_266 ?_
      have hnot : ¬ (i < n ∧ isG (t i) = true) := fun z => by
        have := of_decide_eq_true z.2
        exact absurd (s48.mpr ⟨z.1, this⟩) (by omega)
      have er : rn isG t (n - q) q = i := by
        rw [← hr]
        exact rn_n hnot
      unfold MTq
      rw [eq.2, eq.1, er]
      first
        | (rw [if_pos (show i - q ≤ 2 by omega)]
           have hF1 : Fp 98 [] TMs M1 (M1.1, up2 M1.2.1 98 13 (nI 3), M1.2.2.1, M1.2.2.2) := Fp.upf (k := 13) (x := nI 3) (by decide)
           refine ⟨rfl, hF1, (by (try dsimp only); exact up2_o (by omega) h10), (by (try dsimp only); exact up2_o (by omega) h12), (by (try dsimp only); exact up2_s), fun z => ?_, ?_⟩
           · rw [show min (i - q) 2 = i - q by omega] at h14
             exact (by (try dsimp only); exact up2_o (by omega) h14)
           · rw [if_neg (fun z => absurd z.1 (by decide))]
             exact hW)
        | (rw [if_neg (show ¬ i - q ≤ 2 by omega)]
           have hF1 : Fp 98 [] TMs M1 (M1.1, up2 M1.2.1 98 13 (nI 1), M1.2.2.1, M1.2.2.2) := Fp.upf (k := 13) (x := nI 1) (by decide)
           refine ⟨rfl, hF1, (by (try dsimp only); exact up2_o (by omega) h10), (by (try dsimp only); exact up2_o (by omega) h12), (by (try dsimp only); exact up2_s), fun z => absurd z (by decide), ?_⟩
           rw [if_neg (fun z => absurd z.1 (by decide))]
           exact hW)
  · refine G_S (pc := 177) f_201_177 rfl rfl rfl ?_
    refine G_S (pc := 178) f_201_178 rfl rfl rfl ?_
    refine G_ic (v := nI 2) (pc := 179) f_201_179 (by decide) ?_
    refine G_jgeZ (pc := 180) f_201_180 rfl (by first | exact nI_toInt (by omega) | exact zI_toInt (by omega) (by omega) | rfl) (by first | exact nI_toInt (by omega) | exact zI_toInt (by omega) (by omega) | rfl) (fun b9 => ?_) (fun b9 => ?_)
    · refine G_S (pc := 201) f_201_201 rfl rfl rfl ?_
      refine G_gIv (pc := 202) f_201_202 (by decide) rfl (by decide) (by first | assumption | exact hK.1 _ _ rfl) (by first | assumption | exact mI_s | ((refine mI_o (by first | decide | omega) ?_); (repeat (refine mI_o (by first | decide | omega) ?_)); first | exact mI_s | assumption) | rfl) ?_
      refine G_pI (pc := 205) f_201_205 rfl (by first | assumption | exact hK.1 _ _ rfl) ?_
      refine G_S (pc := 208) f_201_208 rfl rfl rfl ?_
      refine G_S (pc := 209) f_201_209 rfl rfl rfl ?_
      refine G_gIv (pc := 210) f_201_210 (by decide) rfl (by decide) (by first | assumption | exact hK.1 _ _ rfl) (by first | assumption | exact mI_s | ((refine mI_o (by first | decide | omega) ?_); (repeat (refine mI_o (by first | decide | omega) ?_)); first | exact mI_s | assumption) | rfl) ?_
      refine G_ic (v := nI 1) (pc := 213) f_201_213 (by decide) ?_
      first | refine G_addN (pc := 214) f_201_214 ?_ | refine G_addZ (pc := 214) f_201_214 (by first | rfl | exact nI_zI _) (by first | rfl | exact nI_zI _) ?_ | refine G_S (pc := 214) f_201_214 rfl rfl rfl ?_
      refine G_pI (pc := 215) f_201_215 rfl (by first | assumption | exact hK.1 _ _ rfl) ?_
      first | refine G_inc1 (pc := 218) f_201_218 rfl ?_ | refine G_S (pc := 218) f_201_218 rfl rfl rfl ?_
      refine G_S (pc := 221) f_201_221 rfl rfl rfl ?_
      have hin : i < n ∧ 48 ≤ t i ∧ t i ≤ 57 := s48.mp (by omega)
      have hGi : isG (t i) = true := decide_eq_true hin.2
      have hsv : sv t n i = t i := by
        unfold sv uz
        rw [if_pos hin.1, if_pos (by omega)]
      first
        | (refine nxt _ hin.1 hGi ?_
           rw [show min (i - q + 1) 2 = i - q + 1 by omega, show min (i - q) 2 = i - q by omega, nvA, show q + (i - q) = i by omega, hsv]
           congr 1
           show ((10 : Nat) : Int) * nvA t q (i - q) + t i - ((48 : Nat) : Int) = nvA t q (i - q) * 10 + t i - 48
           omega)
        | (refine nxt _ hin.1 hGi ?_
           rw [show min (i - q + 1) 2 = 2 by omega, show min (i - q) 2 = 2 by omega])
    · refine G_bi (v := nI 10) (pc := 183) f_201_183 (by decide) ?_
      refine G_S (pc := 185) f_201_185 rfl rfl rfl ?_
      refine G_gIv (pc := 186) f_201_186 (by decide) rfl (by decide) (by first | assumption | exact hK.1 _ _ rfl) (by first | assumption | exact mI_s | ((refine mI_o (by first | decide | omega) ?_); (repeat (refine mI_o (by first | decide | omega) ?_)); first | exact mI_s | assumption) | rfl) ?_
      first | refine G_mulN (pc := 189) f_201_189 ?_ | refine G_mulZ (pc := 189) f_201_189 (by first | rfl | exact nI_zI _) (by first | rfl | exact nI_zI _) ?_ | refine G_S (pc := 189) f_201_189 rfl rfl rfl ?_
      refine G_S (pc := 190) f_201_190 rfl rfl rfl ?_
      refine G_CV (pc := 191) f_201_191 rfl rfl (by decide) rfl rfl (by first | assumption | exact hK.1 _ _ rfl) (by decide) ⟨Nat.le_of_ble_eq_true rfl, Nat.le_of_ble_eq_true rfl⟩ ?_
      refine CG.go (ts) ?_
      first | refine G_addN (pc := 194) f_201_194 ?_ | refine G_addZ (pc := 194) f_201_194 (by first | rfl | exact nI_zI _) (by first | rfl | exact nI_zI _) ?_ | refine G_S (pc := 194) f_201_194 rfl rfl rfl ?_
      refine G_bi (v := nI 48) (pc := 195) f_201_195 (by decide) ?_
      first | refine G_subN (pc := 197) f_201_197 (by omega) ?_ | refine G_subZ (pc := 197) f_201_197 (by first | rfl | exact nI_zI _) (by first | rfl | exact nI_zI _) ?_ | refine G_S (pc := 197) f_201_197 rfl rfl rfl ?_
      refine G_S (pc := 198) f_201_198 rfl rfl rfl ?_
      refine G_pI (pc := 205) f_201_205 rfl (by first | assumption | exact hK.1 _ _ rfl) ?_
      refine G_S (pc := 208) f_201_208 rfl rfl rfl ?_
      refine G_S (pc := 209) f_201_209 rfl rfl rfl ?_
      refine G_gIv (pc := 210) f_201_210 (by decide) rfl (by decide) (by first | assumption | exact hK.1 _ _ rfl) (by first | assumption | exact mI_s | ((refine mI_o (by first | decide | omega) ?_); (repeat (refine mI_o (by first | decide | omega) ?_)); first | exact mI_s | assumption) | rfl) ?_
      refine G_ic (v := nI 1) (pc := 213) f_201_213 (by decide) ?_
      first | refine G_addN (pc := 214) f_201_214 ?_ | refine G_addZ (pc := 214) f_201_214 (by first | rfl | exact nI_zI _) (by first | rfl | exact nI_zI _) ?_ | refine G_S (pc := 214) f_201_214 rfl rfl rfl ?_
      refine G_pI (pc := 215) f_201_215 rfl (by first | assumption | exact hK.1 _ _ rfl) ?_
      first | refine G_inc1 (pc := 218) f_201_218 rfl ?_ | refine G_S (pc := 218) f_201_218 rfl rfl rfl ?_
      refine G_S (pc := 221) f_201_221 rfl rfl rfl ?_
      have hin : i < n ∧ 48 ≤ t i ∧ t i ≤ 57 := s48.mp (by omega)
      have hGi : isG (t i) = true := decide_eq_true hin.2
      have hsv : sv t n i = t i := by
        unfold sv uz
        rw [if_pos hin.1, if_pos (by omega)]
      first
        | (refine nxt _ hin.1 hGi ?_
           rw [show min (i - q + 1) 2 = i - q + 1 by omega, show min (i - q) 2 = i - q by omega, nvA, show q + (i - q) = i by omega, hsv]
           congr 1
           show ((10 : Nat) : Int) * nvA t q (i - q) + t i - ((48 : Nat) : Int) = nvA t q (i - q) * 10 + t i - 48
           omega)
        | (refine nxt _ hin.1 hGi ?_
           rw [show min (i - q + 1) 2 = 2 by omega, show min (i - q) 2 = 2 by omega])
theorem m_token (W : MTp M t n) (hq : M.2.1 98 10 = nI p) (hp : p ≤ n) : CG C 201 [.ref 98] M (fun w M' => w = none ∧ Fp 98 [] TMs M M' ∧ MTk M' t n p) := by
  have conv : ∀ M', MTq M' t n (skp t n p) → MTk M' t n p := by
    intro M' ⟨a, b, c, d, e⟩
    refine ⟨a, b, c, fun z => ?_, e⟩
    rw [d z]
    exact (vN_at hp z).1
  have loop : ∀ i, i ≤ n → ∀ M1, Fp 98 [] TMs M M1 → M1.2.1 98 10 = nI i → rn isB t (n - i) i = skp t n p → G C 201 (0, [some (.ref 98), none, none], [], [], M1) (fun w M' => w = none ∧ Fp 98 [] TMs M M' ∧ MTk M' t n p) := by
    refine upto (fun i hi ih M1 hF h10 hr => ?_)
    have W1 := W.fp hF (by decide) (by decide)
    have W1' := W1
    obtain ⟨hK, v7, hn, ht⟩ := W1
    obtain ⟨s1, s2, s3, s4, s5⟩ := sv_b (t := t) (n := n) (i := i) (fun z => (ht i z).2)
    have s10 := s4 10 (by decide) (by decide)
    have s32 := s4 32 (by decide) (by decide)
    have s59 := s4 59 (by decide) (by decide)
    have s97 := s5 97 122 (by decide) (by decide)
    have s48 := s5 48 57 (by decide) (by decide)
    have ts := m_see (C := C) W1' h10 hi
    by_cases hb : i < n ∧ isB (t i) = true
    · have hb2 := of_decide_eq_true hb.2
      refine G_S (pc := 0) f_201_0 rfl rfl rfl ?_
      refine G_CV (pc := 1) f_201_1 rfl rfl (by decide) rfl rfl (by first | assumption | exact hK.1 _ _ rfl) (by decide) ⟨Nat.le_of_ble_eq_true rfl, Nat.le_of_ble_eq_true rfl⟩ ?_
      refine CG.go (ts) ?_
      refine G_bi (v := nI 10) (pc := 4) f_201_4 (by decide) ?_
      refine G_jeqZ (pc := 6) f_201_6 rfl (by first | exact nI_toInt (by omega) | exact zI_toInt (by omega) (by omega) | rfl) (by first | exact nI_toInt (by omega) | exact zI_toInt (by omega) (by omega) | rfl) (fun b1 => ?_) (fun b1 => ?_)
      · refine G_S (pc := 18) f_201_18 rfl rfl rfl ?_
        refine G_S (pc := 19) f_201_19 rfl rfl rfl ?_
        refine G_gIv (pc := 20) f_201_20 (by decide) rfl (by decide) (by first | assumption | exact hK.1 _ _ rfl) (by first | assumption | exact mI_s | ((refine mI_o (by first | decide | omega) ?_); (repeat (refine mI_o (by first | decide | omega) ?_)); first | exact mI_s | assumption) | rfl) ?_
        refine G_ic (v := nI 1) (pc := 23) f_201_23 (by decide) ?_
        first | refine G_addN (pc := 24) f_201_24 ?_ | refine G_addZ (pc := 24) f_201_24 (by first | rfl | exact nI_zI _) (by first | rfl | exact nI_zI _) ?_ | refine G_S (pc := 24) f_201_24 rfl rfl rfl ?_
        refine G_pI (pc := 25) f_201_25 rfl (by first | assumption | exact hK.1 _ _ rfl) ?_
        refine G_S (pc := 28) f_201_28 rfl rfl rfl ?_
        exact ih hb.1 _ (hF.tr (Fp.upf (k := 10) (x := nI (i + 1)) (by decide))) (by (try dsimp only); exact up2_s) ((rn_y hb.1 hb.2).symm.trans hr)
      · refine G_S (pc := 9) f_201_9 rfl rfl rfl ?_
        refine G_CV (pc := 10) f_201_10 rfl rfl (by decide) rfl rfl (by first | assumption | exact hK.1 _ _ rfl) (by decide) ⟨Nat.le_of_ble_eq_true rfl, Nat.le_of_ble_eq_true rfl⟩ ?_
        refine CG.go (ts) ?_
        refine G_bi (v := nI 32) (pc := 13) f_201_13 (by decide) ?_
        refine G_jneZ (pc := 15) f_201_15 rfl (by first | exact nI_toInt (by omega) | exact zI_toInt (by omega) (by omega) | rfl) (by first | exact nI_toInt (by omega) | exact zI_toInt (by omega) (by omega) | rfl) (fun b2 => ?_) (fun b2 => ?_)
        · exfalso
          omega
        · refine G_S (pc := 18) f_201_18 rfl rfl rfl ?_
          refine G_S (pc := 19) f_201_19 rfl rfl rfl ?_
          refine G_gIv (pc := 20) f_201_20 (by decide) rfl (by decide) (by first | assumption | exact hK.1 _ _ rfl) (by first | assumption | exact mI_s | ((refine mI_o (by first | decide | omega) ?_); (repeat (refine mI_o (by first | decide | omega) ?_)); first | exact mI_s | assumption) | rfl) ?_
          refine G_ic (v := nI 1) (pc := 23) f_201_23 (by decide) ?_
          first | refine G_addN (pc := 24) f_201_24 ?_ | refine G_addZ (pc := 24) f_201_24 (by first | rfl | exact nI_zI _) (by first | rfl | exact nI_zI _) ?_ | refine G_S (pc := 24) f_201_24 rfl rfl rfl ?_
          refine G_pI (pc := 25) f_201_25 rfl (by first | assumption | exact hK.1 _ _ rfl) ?_
          refine G_S (pc := 28) f_201_28 rfl rfl rfl ?_
          exact ih hb.1 _ (hF.tr (Fp.upf (k := 10) (x := nI (i + 1)) (by decide))) (by (try dsimp only); exact up2_s) ((rn_y hb.1 hb.2).symm.trans hr)
    · have e : skp t n p = i := by
        rw [← hr]
        exact rn_n hb
      have hb' : i < n → ¬ (t i = 10 ∨ t i = 32) := fun z z2 => hb ⟨z, decide_eq_true z2⟩
      have hF1 : Fp 98 [] TMs M1 (M1.1, up2 M1.2.1 98 12 (nI i), M1.2.2.1, M1.2.2.2) := Fp.upf (k := 12) (x := nI i) (by decide)
      have hF2 : Fp 98 [] TMs M1 (M1.1, up2 M1.2.1 98 12 (nI i), up2 M1.2.2.1 98 15 (Int64.ofNat 0), M1.2.2.2) := hF1.tr (Fp.upL (k := 15) (x := Int64.ofNat 0))
      have W2 := W1'.fp hF1 (by decide) (by decide)
      have W3 := W1'.fp hF2 (by decide) (by decide)
      have g10 : up2 M1.2.1 98 12 (nI i) 98 10 = nI i := (by (try dsimp only); exact up2_o (by omega) h10)
      have ts2 := m_see (C := C) W2 g10 hi
      refine G_S (pc := 0) f_201_0 rfl rfl rfl ?_
      refine G_CV (pc := 1) f_201_1 rfl rfl (by decide) rfl rfl (by first | assumption | exact hK.1 _ _ rfl) (by decide) ⟨Nat.le_of_ble_eq_true rfl, Nat.le_of_ble_eq_true rfl⟩ ?_
      refine CG.go (ts) ?_
      refine G_bi (v := nI 10) (pc := 4) f_201_4 (by decide) ?_
      refine G_jeqZ (pc := 6) f_201_6 rfl (by first | exact nI_toInt (by omega) | exact zI_toInt (by omega) (by omega) | rfl) (by first | exact nI_toInt (by omega) | exact zI_toInt (by omega) (by omega) | rfl) (fun b1 => ?_) (fun b1 => ?_)
      · exfalso; omega
      · refine G_S (pc := 9) f_201_9 rfl rfl rfl ?_
        refine G_CV (pc := 10) f_201_10 rfl rfl (by decide) rfl rfl (by first | assumption | exact hK.1 _ _ rfl) (by decide) ⟨Nat.le_of_ble_eq_true rfl, Nat.le_of_ble_eq_true rfl⟩ ?_
        refine CG.go (ts) ?_
        refine G_bi (v := nI 32) (pc := 13) f_201_13 (by decide) ?_
        refine G_jneZ (pc := 15) f_201_15 rfl (by first | exact nI_toInt (by omega) | exact zI_toInt (by omega) (by omega) | rfl) (by first | exact nI_toInt (by omega) | exact zI_toInt (by omega) (by omega) | rfl) (fun b2 => ?_) (fun b2 => ?_)
        · refine G_S (pc := 31) f_201_31 rfl rfl rfl ?_
          refine G_S (pc := 32) f_201_32 rfl rfl rfl ?_
          refine G_gIv (pc := 33) f_201_33 (by decide) rfl (by decide) (by first | assumption | exact hK.1 _ _ rfl) (by first | assumption | exact mI_s | ((refine mI_o (by first | decide | omega) ?_); (repeat (refine mI_o (by first | decide | omega) ?_)); first | exact mI_s | assumption) | rfl) ?_
          refine G_pI (pc := 36) f_201_36 rfl (by first | assumption | exact hK.1 _ _ rfl) ?_
          refine G_S (pc := 39) f_201_39 rfl rfl rfl ?_
          refine G_CV (pc := 40) f_201_40 rfl rfl (by decide) rfl rfl (by first | assumption | exact hK.1 _ _ rfl) (by decide) ⟨Nat.le_of_ble_eq_true rfl, Nat.le_of_ble_eq_true rfl⟩ ?_
          refine CG.go (ts2) ?_
          refine G_S (pc := 43) f_201_43 rfl rfl rfl ?_
          refine G_S (pc := 44) f_201_44 rfl rfl rfl ?_
          refine G_S (pc := 45) f_201_45 rfl rfl rfl ?_
          refine G_pL (pc := 46) f_201_46 rfl (by first | assumption | exact hK.1 _ _ rfl) ?_
          refine G_ic (v := nI 0) (pc := 49) f_201_49 (by decide) ?_
          refine G_S (pc := 50) f_201_50 rfl rfl rfl ?_
          refine G_S (pc := 51) f_201_51 rfl rfl rfl ?_
          refine G_zgeZ (pc := 52) f_201_52 rfl (by first | exact nI_toInt (by omega) | exact zI_toInt (by omega) (by omega) | rfl) (fun b3 => ?_) (fun b3 => ?_)
          · refine G_S (pc := 63) f_201_63 rfl rfl rfl ?_
            refine G_bi (v := nI 97) (pc := 64) f_201_64 (by decide) ?_
            refine G_bi (v := nI 122) (pc := 66) f_201_66 (by decide) ?_
            refine G_CS (pc := 68) f_201_68 rfl rfl (by decide) rfl rfl ⟨Nat.le_of_ble_eq_true rfl, Nat.le_of_ble_eq_true rfl⟩ ?_
            refine CG.go (m_inZ (by first | exact nI_toInt (by omega) | exact zI_toInt (by omega) (by omega) | rfl) (by first | exact nI_toInt (by omega) | exact zI_toInt (by omega) (by omega) | rfl) (by first | exact nI_toInt (by omega) | exact zI_toInt (by omega) (by omega) | rfl)) ?_
            first | refine G_bEq (pc := 71) f_201_71 rfl (fun b4 => ?_) (fun b4 => ?_) | refine G_zeqZ (pc := 71) f_201_71 rfl (by first | exact nI_toInt (by omega) | exact zI_toInt (by omega) (by omega) | rfl) (fun b4 => ?_) (fun b4 => ?_)
            · refine G_S (pc := 147) f_201_147 rfl rfl rfl ?_
              refine G_bi (v := nI 48) (pc := 148) f_201_148 (by decide) ?_
              refine G_bi (v := nI 57) (pc := 150) f_201_150 (by decide) ?_
              refine G_CS (pc := 152) f_201_152 rfl rfl (by decide) rfl rfl ⟨Nat.le_of_ble_eq_true rfl, Nat.le_of_ble_eq_true rfl⟩ ?_
              refine CG.go (m_inZ (by first | exact nI_toInt (by omega) | exact zI_toInt (by omega) (by omega) | rfl) (by first | exact nI_toInt (by omega) | exact zI_toInt (by omega) (by omega) | rfl) (by first | exact nI_toInt (by omega) | exact zI_toInt (by omega) (by omega) | rfl)) ?_
              first | refine G_bEq (pc := 155) f_201_155 rfl (fun b7 => ?_) (fun b7 => ?_) | refine G_zeqZ (pc := 155) f_201_155 rfl (by first | exact nI_toInt (by omega) | exact zI_toInt (by omega) (by omega) | rfl) (fun b7 => ?_) (fun b7 => ?_)
              · refine G_S (pc := 241) f_201_241 rfl rfl rfl ?_
                refine G_S (pc := 242) f_201_242 rfl rfl rfl ?_
                refine G_gIv (pc := 243) f_201_243 (by decide) rfl (by decide) (by first | assumption | exact hK.1 _ _ rfl) (by first | assumption | exact mI_s | ((refine mI_o (by first | decide | omega) ?_); (repeat (refine mI_o (by first | decide | omega) ?_)); first | exact mI_s | assumption) | rfl) ?_
                refine G_ic (v := nI 1) (pc := 246) f_201_246 (by decide) ?_
                first | refine G_addN (pc := 247) f_201_247 ?_ | refine G_addZ (pc := 247) f_201_247 (by first | rfl | exact nI_zI _) (by first | rfl | exact nI_zI _) ?_ | refine G_S (pc := 247) f_201_247 rfl rfl rfl ?_
                refine G_pI (pc := 248) f_201_248 rfl (by first | assumption | exact hK.1 _ _ rfl) ?_
                refine G_S (pc := 251) f_201_251 rfl rfl rfl ?_
                refine G_S (pc := 252) f_201_252 rfl rfl rfl ?_
                refine G_bi (v := nI 59) (pc := 253) f_201_253 (by decide) ?_
                refine G_jneZ (pc := 255) f_201_255 rfl (by first | exact nI_toInt (by omega) | exact zI_toInt (by omega) (by omega) | rfl) (by first | exact nI_toInt (by omega) | exact zI_toInt (by omega) (by omega) | rfl) (fun b11 => ?_) (fun b11 => ?_)
                · refine G_ic (v := nI 1) (pc := 262) f_201_262 (by decide) ?_
                  refine G_pI (pc := 263) f_201_263 rfl (by first | assumption | exact hK.1 _ _ rfl) ?_
                  refine G_rv (pc := 266) f_201_266 ?_
                  first
                    | (have hni : n ≤ i := by omega
                       have eq := tq_end (t := t) hni
                       refine ⟨rfl, (hF.tr hF2).tr (Fp.upf (k := 13) (x := nI 0) (by decide)), conv _ ?_⟩
                       rw [e]
                       unfold MTq
                       rw [eq.1, eq.2]
                       refine ⟨(by (try dsimp only); exact up2_o (by omega) (by (try dsimp only); exact up2_o (by omega) h10)), (by (try dsimp only); exact up2_o (by omega) (by (try dsimp only); exact up2_s)), (by (try dsimp only); exact up2_s), fun z => absurd z (by decide), ?_⟩
                       rw [if_neg (fun z => absurd z.1 (by decide))]
                       exact (by (try dsimp only); exact up2_s))
                    | (have hni : ¬ n ≤ i := by omega
                       have hL : ¬ isL (t i) = true := fun z => by
                         have := of_decide_eq_true z
                         omega
                       have hG : ¬ isG (t i) = true := fun z => by
                         have := of_decide_eq_true z
                         omega
                       have eq := tq_oth hni hL hG
                       first
                         | (rw [if_pos (show t i = 59 by omega)] at eq
                            refine ⟨rfl, ((hF.tr hF2).tr (Fp.upf (k := 10) (x := nI (i + 1)) (by decide))).tr (Fp.upf (k := 13) (x := nI 4) (by decide)), conv _ ?_⟩
                            rw [e]
                            unfold MTq
                            rw [eq.1, eq.2]
                            refine ⟨(by (try dsimp only); exact up2_o (by omega) (by (try dsimp only); exact up2_s)), (by (try dsimp only); exact up2_o (by omega) (by (try dsimp only); exact up2_o (by omega) (by (try dsimp only); exact up2_s))), (by (try dsimp only); exact up2_s), fun z => absurd z (by decide), ?_⟩
                            rw [if_neg (fun z => absurd z.1 (by decide))]
                            exact (by (try dsimp only); exact up2_s))
                         | (rw [if_neg (show ¬ t i = 59 by omega)] at eq
                            refine ⟨rfl, ((hF.tr hF2).tr (Fp.upf (k := 10) (x := nI (i + 1)) (by decide))).tr (Fp.upf (k := 13) (x := nI 1) (by decide)), conv _ ?_⟩
                            rw [e]
                            unfold MTq
                            rw [eq.1, eq.2]
                            refine ⟨(by (try dsimp only); exact up2_o (by omega) (by (try dsimp only); exact up2_s)), (by (try dsimp only); exact up2_o (by omega) (by (try dsimp only); exact up2_o (by omega) (by (try dsimp only); exact up2_s))), (by (try dsimp only); exact up2_s), fun z => absurd z (by decide), ?_⟩
                            rw [if_neg (fun z => absurd z.1 (by decide))]
                            exact (by (try dsimp only); exact up2_s)))
                · refine G_ic (v := nI 4) (pc := 258) f_201_258 (by decide) ?_
                  refine G_S (pc := 259) f_201_259 rfl rfl rfl ?_
                  refine G_pI (pc := 263) f_201_263 rfl (by first | assumption | exact hK.1 _ _ rfl) ?_
                  refine G_rv (pc := 266) f_201_266 ?_
                  first
                    | (have hni : n ≤ i := by omega
                       have eq := tq_end (t := t) hni
                       refine ⟨rfl, (hF.tr hF2).tr (Fp.upf (k := 13) (x := nI 0) (by decide)), conv _ ?_⟩
                       rw [e]
                       unfold MTq
                       rw [eq.1, eq.2]
                       refine ⟨(by (try dsimp only); exact up2_o (by omega) (by (try dsimp only); exact up2_o (by omega) h10)), (by (try dsimp only); exact up2_o (by omega) (by (try dsimp only); exact up2_s)), (by (try dsimp only); exact up2_s), fun z => absurd z (by decide), ?_⟩
                       rw [if_neg (fun z => absurd z.1 (by decide))]
                       exact (by (try dsimp only); exact up2_s))
                    | (have hni : ¬ n ≤ i := by omega
                       have hL : ¬ isL (t i) = true := fun z => by
                         have := of_decide_eq_true z
                         omega
                       have hG : ¬ isG (t i) = true := fun z => by
                         have := of_decide_eq_true z
                         omega
                       have eq := tq_oth hni hL hG
                       first
                         | (rw [if_pos (show t i = 59 by omega)] at eq
                            refine ⟨rfl, ((hF.tr hF2).tr (Fp.upf (k := 10) (x := nI (i + 1)) (by decide))).tr (Fp.upf (k := 13) (x := nI 4) (by decide)), conv _ ?_⟩
                            rw [e]
                            unfold MTq
                            rw [eq.1, eq.2]
                            refine ⟨(by (try dsimp only); exact up2_o (by omega) (by (try dsimp only); exact up2_s)), (by (try dsimp only); exact up2_o (by omega) (by (try dsimp only); exact up2_o (by omega) (by (try dsimp only); exact up2_s))), (by (try dsimp only); exact up2_s), fun z => absurd z (by decide), ?_⟩
                            rw [if_neg (fun z => absurd z.1 (by decide))]
                            exact (by (try dsimp only); exact up2_s))
                         | (rw [if_neg (show ¬ t i = 59 by omega)] at eq
                            refine ⟨rfl, ((hF.tr hF2).tr (Fp.upf (k := 10) (x := nI (i + 1)) (by decide))).tr (Fp.upf (k := 13) (x := nI 1) (by decide)), conv _ ?_⟩
                            rw [e]
                            unfold MTq
                            rw [eq.1, eq.2]
                            refine ⟨(by (try dsimp only); exact up2_o (by omega) (by (try dsimp only); exact up2_s)), (by (try dsimp only); exact up2_o (by omega) (by (try dsimp only); exact up2_o (by omega) (by (try dsimp only); exact up2_s))), (by (try dsimp only); exact up2_s), fun z => absurd z (by decide), ?_⟩
                            rw [if_neg (fun z => absurd z.1 (by decide))]
                            exact (by (try dsimp only); exact up2_s)))
              · refine G_S (pc := 158) f_201_158 rfl rfl rfl ?_
                refine G_ic (v := nI 0) (pc := 159) f_201_159 (by decide) ?_
                refine G_pI (pc := 160) f_201_160 rfl (by first | assumption | exact hK.1 _ _ rfl) ?_
                have hin : i < n ∧ 48 ≤ t i ∧ t i ≤ 57 := s48.mp (by omega)
                have hL : ¬ isL (t i) = true := fun z => by
                  have := of_decide_eq_true z
                  omega
                have hF3 : Fp 98 [] TMs (M1.1, up2 M1.2.1 98 12 (nI i), up2 M1.2.2.1 98 15 (Int64.ofNat 0), M1.2.2.2) (M1.1, up2 (up2 M1.2.1 98 12 (nI i)) 98 14 (nI 0), up2 M1.2.2.1 98 15 (Int64.ofNat 0), M1.2.2.2) := Fp.upf (k := 14) (x := nI 0) (by decide)
                have e2 := m_digs (C := C) (c := zI (sv t n i)) hin.1 hL (decide_eq_true hin.2) i hi (Nat.le_refl _) _ (W3.fp hF3 (by decide) (by decide)) (by (try dsimp only); exact up2_o (by omega) (by (try dsimp only); exact up2_o (by omega) h10)) (by (try dsimp only); exact up2_o (by omega) (by (try dsimp only); exact up2_s)) (by (try dsimp only); exact up2_s) (by rw [Nat.sub_self]; exact (by (try dsimp only); exact up2_s)) rfl
                rw [Nat.sub_self] at e2
                exact G.mono e2 (fun w M9 z => ⟨z.1, ((hF.tr hF2).tr hF3).tr z.2.1, conv M9 (by rw [e]; exact z.2.2)⟩)
            · have hin : i < n ∧ 97 ≤ t i ∧ t i ≤ 122 := s97.mp (by omega)
              have e2 := m_word (C := C) (c := zI (sv t n i)) hin.1 (decide_eq_true hin.2) i hi (Nat.le_refl _) _ (Int64.ofNat 0) W3 (by (try dsimp only); exact up2_o (by omega) h10) (by (try dsimp only); exact up2_s) (by (try dsimp only); exact up2_s) (fun _ => by rw [Nat.sub_self]; rfl) rfl (fun k z1 z2 => absurd z2 (by omega))
              rw [Nat.sub_self] at e2
              exact G.mono e2 (fun w M9 z => ⟨z.1, (hF.tr hF2).tr z.2.1, conv M9 (by rw [e]; exact z.2.2)⟩)
          · refine G_S (pc := 55) f_201_55 rfl rfl rfl ?_
            refine G_ic (v := nI 0) (pc := 56) f_201_56 (by decide) ?_
            refine G_pI (pc := 57) f_201_57 rfl (by first | assumption | exact hK.1 _ _ rfl) ?_
            refine G_S (pc := 60) f_201_60 rfl rfl rfl ?_
            refine G_rv (pc := 266) f_201_266 ?_
            first
              | (have hni : n ≤ i := by omega
                 have eq := tq_end (t := t) hni
                 refine ⟨rfl, (hF.tr hF2).tr (Fp.upf (k := 13) (x := nI 0) (by decide)), conv _ ?_⟩
                 rw [e]
                 unfold MTq
                 rw [eq.1, eq.2]
                 refine ⟨(by (try dsimp only); exact up2_o (by omega) (by (try dsimp only); exact up2_o (by omega) h10)), (by (try dsimp only); exact up2_o (by omega) (by (try dsimp only); exact up2_s)), (by (try dsimp only); exact up2_s), fun z => absurd z (by decide), ?_⟩
                 rw [if_neg (fun z => absurd z.1 (by decide))]
                 exact (by (try dsimp only); exact up2_s))
              | (have hni : ¬ n ≤ i := by omega
                 have hL : ¬ isL (t i) = true := fun z => by
                   have := of_decide_eq_true z
                   omega
                 have hG : ¬ isG (t i) = true := fun z => by
                   have := of_decide_eq_true z
                   omega
                 have eq := tq_oth hni hL hG
                 first
                   | (rw [if_pos (show t i = 59 by omega)] at eq
                      refine ⟨rfl, ((hF.tr hF2).tr (Fp.upf (k := 10) (x := nI (i + 1)) (by decide))).tr (Fp.upf (k := 13) (x := nI 4) (by decide)), conv _ ?_⟩
                      rw [e]
                      unfold MTq
                      rw [eq.1, eq.2]
                      refine ⟨(by (try dsimp only); exact up2_o (by omega) (by (try dsimp only); exact up2_s)), (by (try dsimp only); exact up2_o (by omega) (by (try dsimp only); exact up2_o (by omega) (by (try dsimp only); exact up2_s))), (by (try dsimp only); exact up2_s), fun z => absurd z (by decide), ?_⟩
                      rw [if_neg (fun z => absurd z.1 (by decide))]
                      exact (by (try dsimp only); exact up2_s))
                   | (rw [if_neg (show ¬ t i = 59 by omega)] at eq
                      refine ⟨rfl, ((hF.tr hF2).tr (Fp.upf (k := 10) (x := nI (i + 1)) (by decide))).tr (Fp.upf (k := 13) (x := nI 1) (by decide)), conv _ ?_⟩
                      rw [e]
                      unfold MTq
                      rw [eq.1, eq.2]
                      refine ⟨(by (try dsimp only); exact up2_o (by omega) (by (try dsimp only); exact up2_s)), (by (try dsimp only); exact up2_o (by omega) (by (try dsimp only); exact up2_o (by omega) (by (try dsimp only); exact up2_s))), (by (try dsimp only); exact up2_s), fun z => absurd z (by decide), ?_⟩
                      rw [if_neg (fun z => absurd z.1 (by decide))]
                      exact (by (try dsimp only); exact up2_s)))
        · exfalso; omega
  refine CG_in (mL := 3) (hl := false) (lv := [some (.ref 98), none, none]) (ll := []) rfl rfl rfl ?_
  exact loop p hp M Fp.rf hq rfl
end MTK
