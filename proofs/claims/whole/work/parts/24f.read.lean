/-! the class reads a text -/
theorem Fp.c {o : Nat} {os fs os' : List Nat} {M M' : Mm} (h : Fp o os fs M M') (ho : o ∈ os') (hs : ∀ i, i ∈ os → i ∈ os') : Fc os' M M' := ⟨h.1.1, fun i k _ => by rw [h.1.2], fun i hi => h.2.1 i (fun q => hi (q ▸ ho)) (fun q => hi (hs i q))⟩
def RRo : List Nat := [53, 54, 55, 56, 57, 58, 59, 61, 62, 63, 64, 65, 66, 70, 71, 72, 73, 77]
/-- one of the sets told names too many -/
def tmP (E : Nat → Int) (k : Nat) : Bool := decide (2 ^ (E 0).toNat ≤ (E (3 + 3 * k)).toNat)
def orS (E : Nat → Int) : Nat → Nat
  | 0 => 0
  | k + 1 => orS E k ||| (E (3 + 3 * k)).toNat
theorem orS_tm {E : Nat → Int} : ∀ c, (2 ^ (E 0).toNat ≤ orS E c) ↔ ∃ k, k < c ∧ tmP E k = true
  | 0 => by
    constructor
    · intro h
      have := Nat.two_pow_pos (E 0).toNat
      have h : 2 ^ (E 0).toNat ≤ 0 := h
      omega
    · rintro ⟨k, hk, _⟩
      omega
  | c + 1 => by
    have ih := orS_tm (E := E) c
    rw [orS]
    constructor
    · intro h
      by_cases h1 : 2 ^ (E 0).toNat ≤ orS E c
      · obtain ⟨k, hk, h2⟩ := ih.mp h1
        exact ⟨k, by omega, h2⟩
      · by_cases h2 : 2 ^ (E 0).toNat ≤ (E (3 + 3 * c)).toNat
        · exact ⟨c, by omega, decide_eq_true h2⟩
        · have := Nat.or_lt_two_pow (x := orS E c) (y := (E (3 + 3 * c)).toNat) (n := (E 0).toNat) (by omega) (by omega)
          omega
    · rintro ⟨k, hk, h2⟩
      by_cases e : k = c
      · subst e
        have h2 := of_decide_eq_true h2
        exact Nat.le_trans h2 Nat.right_le_or
      · exact Nat.le_trans (ih.mpr ⟨k, by omega, h2⟩) Nat.left_le_or
theorem leastF_is {p : Nat → Bool} {d : Nat} : (leastF p d 0).isSome = true ↔ ∃ k, k < d ∧ p k = true := by
  cases h : leastF p d 0 with
  | none =>
    constructor
    · intro q
      cases q
    · rintro ⟨k, hk, hp⟩
      exact absurd hp (leastF_none d 0 h k (Nat.zero_le _) (by omega))
  | some c =>
    have := leastF_lt _ _ _ h
    exact ⟨fun _ => ⟨c, by omega, this.2.2⟩, fun _ => rfl⟩
theorem stm_T {t : Nat → Int} {n so T p : Nat} {E : Nat → Int} {f : Nat × Nat} {q : Nat × (Nat × Nat) × (Nat → Int) × Nat} (hs : so = 3) (hE : f.1 = 0 → EO3 E ∧ T = orS E (E 1).toNat) (h : stm t n so E T f p = .inr q) (h0 : q.2.1.1 = 0) : q.2.2.2 = orS q.2.2.1 (q.2.2.1 1).toNat := by
  subst hs
  unfold stm at h
  cases hg : fmH t n 3 p with
  | none =>
    rw [hg] at h
    cases h
  | some g =>
    rw [hg] at h
    obtain ⟨g1, g2, g3, _⟩ := fmH_lt (by decide) hg
    have hgr : 15 ≤ g ∧ g < 18 := by
      rcases ff_r (by decide) g1 g2 with z | z | z | z <;> omega
    dsimp only at h
    cases hk : kdS t n g (tkR t n p) with
    | inl e =>
      rw [hk] at h
      cases h
    | inr pk =>
      rw [hk] at h
      dsimp only at h
      cases hm : nmS t n g (fmN g 1) 0 pk.1 (nt f (fulB g E) 3 (skp t n p)) with
      | inl e =>
        rw [hm] at h
        cases h
      | inr pf =>
        rw [hm] at h
        dsimp only at h
        split at h
        · cases h
          have hz := nmS_good g3 hm h0
          have hn := nt_0 (by decide) hz.1
          obtain ⟨⟨e0, e1, e2⟩, hT⟩ := hE hn.1
          show tkT g (v1F t n g pk.1) T = orS (tkE g pk.2 (v1F t n g pk.1) (v2F t n g pk.1) (goodB t n g pk.1) E) (tkE g pk.2 (v1F t n g pk.1) (v2F t n g pk.1) (goodB t n g pk.1) E 1).toNat
          have cg : ∀ (E1 E2 : Nat → Int) c, (∀ k, k < c → E1 (3 + 3 * k) = E2 (3 + 3 * k)) → orS E1 c = orS E2 c := by
            intro E1 E2 c
            induction c with
            | zero => intro _; rfl
            | succ c ih =>
              intro hc
              rw [orS, orS, ih (fun k hk => hc k (by omega)), hc c (by omega)]
          generalize v1F t n g pk.1 = V1
          generalize v2F t n g pk.1 = V2
          generalize goodB t n g pk.1 = gd
          by_cases h15 : g = 15
          · subst h15
            show T = orS (up1 E 0 V1) (up1 E 0 V1 1).toNat
            rw [up1_o (by decide) rfl, hT]
            exact cg _ _ _ (fun k hk => (up1_o (by omega) rfl).symm)
          · have hlt : E 1 < 10 := by
              have hful := hn.2.1
              unfold fulB at hful
              rw [if_neg (by omega), if_neg (by omega), if_neg (by omega), if_pos (by omega)] at hful
              have := of_decide_eq_false hful
              omega
            obtain ⟨c, hc⟩ : ∃ c : Nat, E 1 = (c : Int) := ⟨(E 1).toNat, by omega⟩
            have hE1 : tkE g pk.2 V1 V2 gd E = ad3 E 1 (2 + 3 * c) (if g = 16 then 1 else 0) V1 V2 := by
              unfold tkE
              rw [if_neg (by omega), if_neg (by omega), if_neg (by omega), if_neg (by omega), if_neg (by omega), if_neg (by omega), if_neg (by omega), if_neg (by omega), if_neg (by omega), if_neg (by omega), hc, Int.toNat_natCast]
            rw [hE1, ad3_c, hc, show ((c : Int) + 1).toNat = c + 1 by omega, orS]
            have hy : ad3 E 1 (2 + 3 * c) (if g = 16 then 1 else 0) V1 V2 (3 + 3 * c) = V1 := by
              rw [show 3 + 3 * c = 2 + 3 * c + 1 by omega]
              exact ad3_y (by omega)
            rw [hy, cg _ E c (fun k hk => ad3_o (by omega) (by omega) (by omega) (by omega))]
            unfold tkT
            rw [if_pos (by omega), hT, hc, Int.toNat_natCast]
        · cases h
theorem nmS_1 {t : Nat → Int} {n g : Nat} : ∀ c i p f q, f.1 ≠ 1 → nmS t n g c i p f = .inr q → q.2.1 ≠ 1
  | 0, i, p, f, q, hf, h => by
    cases h
    exact hf
  | c + 1, i, p, f, q, hf, h => by
    rw [nmS] at h
    split at h
    · refine nmS_1 c (i + 1) _ _ q ?_ h
      unfold nt
      split
      · show (2 : Nat) ≠ 1
        decide
      · exact hf
    · cases h
theorem stm_1 {t : Nat → Int} {n so T p : Nat} {E : Nat → Int} {f : Nat × Nat} {q : Nat × (Nat × Nat) × (Nat → Int) × Nat} (hf : f.1 ≠ 1) (h : stm t n so E T f p = .inr q) : q.2.1.1 ≠ 1 := by
  unfold stm at h
  cases hg : fmH t n so p with
  | none =>
    rw [hg] at h
    cases h
  | some g =>
    rw [hg] at h
    dsimp only at h
    cases hk : kdS t n g (tkR t n p) with
    | inl e =>
      rw [hk] at h
      cases h
    | inr pk =>
      rw [hk] at h
      dsimp only at h
      cases hm : nmS t n g (fmN g 1) 0 pk.1 (nt f (fulB g E) 3 (skp t n p)) with
      | inl e =>
        rw [hm] at h
        cases h
      | inr pf =>
        rw [hm] at h
        dsimp only at h
        split at h
        · cases h
          refine nmS_1 _ _ _ _ _ ?_ hm
          unfold nt
          split
          · show (3 : Nat) ≠ 1
            decide
          · exact hf
        · cases h
/-- what reading a text comes to: the fault, its place, what is told -/
def rdF (t : Nat → Int) (n so : Nat) : (Nat × Nat) × (Nat → Int) := match psF t n so (n + 1) (E0 so) 0 (0, 0) 0 with
  | .inl e => ((1, e), E0 so)
  | .inr q => if q.2.1.1 = 0 ∧ so = 3 ∧ 2 ^ (q.2.2.1 0).toNat ≤ q.2.2.2 then ((4, n), q.2.2.1) else (q.2.1, q.2.2.1)
section CRX
variable {C : Ct} {M : Mm} {t : Nat → Int} {n p so : Nat} {E : Nat → Int} {f : Nat × Nat}
theorem c_lineClear (hK : KM M.1 M.2.2.2) : CG C 54 [.ref 54] M (fun w M' => w = none ∧ Fp 53 RDo [] M M' ∧ CD0 M' (E0 0)) := by
  have loop : ∀ i, i ≤ 9 → ∀ M1, Fp 53 RDo [] M M1 → M1.2.1 54 1 = nI 0 → M1.2.1 54 2 = nI 4 → M1.2.1 54 5 = nI 0 → (∀ k, k < 4 → M1.2.1 58 k = nI 1) → (∀ m, m < i → M1.2.1 59 m = nI m) → G C 54 (25, [some (.ref 54), some (.int (nI i))], [], [], M1) (fun w M' => w = none ∧ Fp 53 RDo [] M M' ∧ CD0 M' (E0 0)) := by
    refine upto (fun i hi ih M1 hF a0 a1 a2 hw hf => ?_)
    have hK := hF.K hK
    refine G_S (pc := 25) f_54_25 rfl rfl rfl ?_
    refine G_bi (v := nI 8) (pc := 26) f_54_26 (by decide) ?_
    refine G_jgtZ (pc := 28) f_54_28 rfl (by first | exact nI_toInt (by omega) | exact zI_toInt (by omega) (by omega) | rfl) (by first | exact nI_toInt (by omega) | exact zI_toInt (by omega) (by omega) | rfl) (fun b1 => ?_) (fun b1 => ?_)
    · refine G_rv (pc := 44) f_54_44 ?_
      refine ⟨rfl, hF, ⟨a0, a1, a2⟩, fun k hk => absurd hk (by show ¬ (k : Int) < 0; omega), fun k hk => absurd hk (by show ¬ (k : Int) < 0; omega), fun k hk => absurd hk (by show ¬ (k : Int) < 0; omega), fun k hk => ?_, fun m h1 h2 => ?_⟩
      · rw [hw k hk, show E0 0 (27 + k) = 1 by unfold E0; rw [if_pos rfl, if_neg (by omega), if_pos (by omega)]]
        rfl
      · rw [hf m (by omega), show E0 0 (30 + m) = (m : Int) by unfold E0; rw [if_pos rfl, if_neg (by omega), if_neg (by omega), if_pos (by omega)]; omega, nI_zI]
    · refine G_S (pc := 31) f_54_31 rfl rfl rfl ?_
      refine G_gR (pc := 32) f_54_32 (by decide) rfl (by first | assumption | exact hK.1 _ _ rfl) (by first | assumption | exact hK.2 _ _ _ rfl | (try dsimp only) <;> (repeat (first | exact up2_s | refine up2_o (by first | decide | omega) ?_)) <;> first | assumption | exact hK.2 _ _ _ rfl) ?_
      refine G_S (pc := 35) f_54_35 rfl rfl rfl ?_
      refine G_S (pc := 36) f_54_36 rfl rfl rfl ?_
      refine G_isN (pc := 37) f_54_37 (by first | assumption | exact hK.1 _ _ rfl) (by omega) (by omega) ?_
      first | refine G_inc1 (pc := 38) f_54_38 rfl ?_ | refine G_S (pc := 38) f_54_38 rfl rfl rfl ?_
      refine G_S (pc := 41) f_54_41 rfl rfl rfl ?_
      refine ih (by omega) _ (hF.tr (Fp.up (i := 59) (k := i) (x := nI i) (by decide) (by decide))) (by (try dsimp only); exact up2_o (by omega) a0) (by (try dsimp only); exact up2_o (by omega) a1) (by (try dsimp only); exact up2_o (by omega) a2) (fun k hk => (by (try dsimp only); exact up2_o (by omega) (hw k hk))) (fun m hm => ?_)
      by_cases q : m = i
      · subst q
        exact (by (try dsimp only); exact up2_s)
      · exact (by (try dsimp only); exact up2_o (by omega) (hf m (by omega)))
  refine CG_in (mL := 2) (hl := false) (lv := [some (.ref 54), none]) (ll := []) rfl rfl rfl ?_
  refine G_S (pc := 0) f_54_0 rfl rfl rfl ?_
  refine G_ic (v := nI 0) (pc := 1) f_54_1 (by decide) ?_
  refine G_pI (pc := 2) f_54_2 rfl (by first | assumption | exact hK.1 _ _ rfl) ?_
  refine G_S (pc := 5) f_54_5 rfl rfl rfl ?_
  refine G_ic (v := nI 4) (pc := 6) f_54_6 (by decide) ?_
  refine G_pI (pc := 7) f_54_7 rfl (by first | assumption | exact hK.1 _ _ rfl) ?_
  refine G_S (pc := 10) f_54_10 rfl rfl rfl ?_
  refine G_ic (v := nI 0) (pc := 11) f_54_11 (by decide) ?_
  refine G_pI (pc := 12) f_54_12 rfl (by first | assumption | exact hK.1 _ _ rfl) ?_
  refine G_S (pc := 15) f_54_15 rfl rfl rfl ?_
  refine G_gR (pc := 16) f_54_16 (by decide) rfl (by first | assumption | exact hK.1 _ _ rfl) (by first | assumption | exact hK.2 _ _ _ rfl | (try dsimp only) <;> (repeat (first | exact up2_s | refine up2_o (by first | decide | omega) ?_)) <;> first | assumption | exact hK.2 _ _ _ rfl) ?_
  refine G_ic (v := nI 1) (pc := 19) f_54_19 (by decide) ?_
  refine G_CS (pc := 20) f_54_20 rfl rfl (by decide) rfl rfl ⟨Nat.le_of_ble_eq_true rfl, Nat.le_of_ble_eq_true rfl⟩ ?_
  refine CG.mono (c_fill (n := 4) (hK.1 58 _ rfl) (by decide)) ?_
  rintro _ M3 ⟨rfl, e1, e2, e3, e4, f1⟩
  refine G_ic (v := nI 0) (pc := 23) f_54_23 (by decide) ?_
  refine G_S (pc := 24) f_54_24 rfl rfl rfl ?_
  have hF1 : Fp 53 RDo [] M (M.1, up2 (up2 (up2 M.2.1 54 1 (nI 0)) 54 2 (nI 4)) 54 5 (nI 0), M.2.2.1, M.2.2.2) := ((Fp.up (i := 54) (k := 1) (x := nI 0) (by decide) (by decide)).tr (Fp.up (i := 54) (k := 2) (x := nI 4) (by decide) (by decide))).tr (Fp.up (i := 54) (k := 5) (x := nI 0) (by decide) (by decide))
  have hF3 : Fp 53 RDo [] (M.1, up2 (up2 (up2 M.2.1 54 1 (nI 0)) 54 2 (nI 4)) 54 5 (nI 0), M.2.2.1, M.2.2.2) M3 := ⟨⟨e1, e3⟩, fun i h hi => ⟨e4 i (fun q => hi (by rw [q]; decide)), by rw [e2]⟩, fun k _ => by rw [e4 53 (by decide)]⟩
  refine loop 0 (Nat.zero_le _) M3 (hF1.tr hF3) ?_ ?_ ?_ f1 (fun m hm => absurd hm (by omega))
  · rw [e4 54 (by decide)]
    exact (by (try dsimp only); exact up2_o (by omega) (by (try dsimp only); exact up2_o (by omega) (by (try dsimp only); exact up2_s)))
  · rw [e4 54 (by decide)]
    exact (by (try dsimp only); exact up2_o (by omega) (by (try dsimp only); exact up2_s))
  · rw [e4 54 (by decide)]
    exact (by (try dsimp only); exact up2_s)
theorem c_flowClear (hK : KM M.1 M.2.2.2) : CG C 33 [.ref 65] M (fun w M' => w = none ∧ Fp 53 RDo [] M M' ∧ CD2 M' (E0 2)) := by
  refine CG_in (mL := 1) (hl := false) (lv := [some (.ref 65)]) (ll := []) rfl rfl rfl ?_
  refine G_S (pc := 0) f_33_0 rfl rfl rfl ?_
  refine G_bi (v := nI 10) (pc := 1) f_33_1 (by decide) ?_
  refine G_pI (pc := 3) f_33_3 rfl (by first | assumption | exact hK.1 _ _ rfl) ?_
  refine G_S (pc := 6) f_33_6 rfl rfl rfl ?_
  refine G_gR (pc := 7) f_33_7 (by decide) rfl (by first | assumption | exact hK.1 _ _ rfl) (by first | assumption | exact hK.2 _ _ _ rfl | (try dsimp only) <;> (repeat (first | exact up2_s | refine up2_o (by first | decide | omega) ?_)) <;> first | assumption | exact hK.2 _ _ _ rfl) ?_
  refine G_ic (v := nI 0) (pc := 10) f_33_10 (by decide) ?_
  refine G_CS (pc := 11) f_33_11 rfl rfl (by decide) rfl rfl ⟨Nat.le_of_ble_eq_true rfl, Nat.le_of_ble_eq_true rfl⟩ ?_
  refine CG.mono (c_fill (n := 24) (hK.1 66 _ rfl) (by decide)) ?_
  rintro _ M3 ⟨rfl, e1, e2, e3, e4, f1⟩
  refine G_rv (pc := 14) f_33_14 ?_
  have hF1 : Fp 53 RDo [] M (M.1, up2 M.2.1 65 0 (nI 10), M.2.2.1, M.2.2.2) := Fp.up (i := 65) (k := 0) (x := nI 10) (by decide) (by decide)
  have hF3 : Fp 53 RDo [] (M.1, up2 M.2.1 65 0 (nI 10), M.2.2.1, M.2.2.2) M3 := ⟨⟨e1, e3⟩, fun i h hi => ⟨e4 i (fun q => hi (by rw [q]; decide)), by rw [e2]⟩, fun k _ => by rw [e4 53 (by decide)]⟩
  refine ⟨rfl, hF1.tr hF3, ?_, fun h hh => ?_⟩
  · rw [e4 65 (by decide)]
    exact (by (try dsimp only); exact up2_s)
  · rw [f1 h hh, show E0 2 (1 + h) = 0 by unfold E0; rw [if_neg (by decide), if_pos rfl, if_neg (by omega)]]
    rfl
theorem c_sightClear (hK : KM M.1 M.2.2.2) : CG C 94 [.ref 70] M (fun w M' => w = none ∧ Fp 53 RDo [] M M' ∧ CD3 M' (E0 3)) := by
  refine CG_in (mL := 1) (hl := false) (lv := [some (.ref 70)]) (ll := []) rfl rfl rfl ?_
  refine G_S (pc := 0) f_94_0 rfl rfl rfl ?_
  refine G_ic (v := nI 2) (pc := 1) f_94_1 (by decide) ?_
  refine G_pI (pc := 2) f_94_2 rfl (by first | assumption | exact hK.1 _ _ rfl) ?_
  refine G_S (pc := 5) f_94_5 rfl rfl rfl ?_
  refine G_ic (v := nI 0) (pc := 6) f_94_6 (by decide) ?_
  refine G_pI (pc := 7) f_94_7 rfl (by first | assumption | exact hK.1 _ _ rfl) ?_
  refine G_S (pc := 10) f_94_10 rfl rfl rfl ?_
  refine G_ic (v := nI 0) (pc := 11) f_94_11 (by decide) ?_
  refine G_pZ (pc := 12) f_94_12 rfl (by first | assumption | exact hK.1 _ _ rfl) (by first | exact Or.inl rfl | exact Or.inr rfl | exact b2i_01 _ | assumption) ?_
  refine G_rv (pc := 15) f_94_15 ?_
  refine ⟨rfl, ((Fp.up (i := 70) (k := 0) (x := nI 2) (by decide) (by decide)).tr (Fp.up (i := 70) (k := 1) (x := nI 0) (by decide) (by decide))).tr (Fp.up (i := 70) (k := 5) (x := nI 0) (by decide) (by decide)), ⟨(by (try dsimp only); exact up2_o (by omega) (by (try dsimp only); exact up2_o (by omega) (by (try dsimp only); exact up2_s))), (by (try dsimp only); exact up2_o (by omega) (by (try dsimp only); exact up2_s)), (by (try dsimp only); exact up2_s)⟩, fun k hk => absurd hk (by show ¬ (k : Int) < 0; omega), fun k hk => absurd hk (by show ¬ (k : Int) < 0; omega), fun k hk => absurd hk (by show ¬ (k : Int) < 0; omega)⟩
theorem EO0_0 : EO0 (E0 0) := by
  refine ⟨by decide, by decide, by decide, ?_, ?_, ?_, ?_, ?_⟩
  · decide
  · decide
  · decide
  · decide
  · decide
theorem EO2_0 : EO2 (E0 2) := by
  refine ⟨by decide, ?_⟩
  decide
theorem EO3_0 : EO3 (E0 3) := ⟨by decide, by decide, fun k hk => absurd hk (by show ¬ (k : Int) < 0; omega)⟩
theorem ROK_0 : ROK (E0 1) := ⟨by decide, fun k hk => absurd hk (by show ¬ (k : Int) < 0; omega)⟩
theorem c_clearOf (hK : KM M.1 M.2.2.2) (hs : so < 4) : CG C 71 [.ref 53, .int (nI so)] M (fun w M' => w = none ∧ Fp 53 RDo [] M M' ∧ CDt M' so (E0 so)) := by
  refine CG_in (mL := 2) (hl := false) (lv := [some (.ref 53), some (.int (nI so))]) (ll := []) rfl rfl rfl ?_
  refine G_S (pc := 0) f_71_0 rfl rfl rfl ?_
  rcases (show so = 0 ∨ so = 1 ∨ so = 2 ∨ so = 3 by omega) with rfl | rfl | rfl | rfl
  · refine G_S (pc := 1) f_71_1 rfl rfl rfl ?_
    refine G_S (pc := 28) f_71_28 rfl rfl rfl ?_
    refine G_gR (pc := 29) f_71_29 (by decide) rfl (by first | assumption | exact hK.1 _ _ rfl) (by first | assumption | exact hK.2 _ _ _ rfl | (try dsimp only) <;> (repeat (first | exact up2_s | refine up2_o (by first | decide | omega) ?_)) <;> first | assumption | exact hK.2 _ _ _ rfl) ?_
    refine G_CV (pc := 32) f_71_32 rfl rfl (by decide) rfl rfl (by first | assumption | exact hK.1 _ _ rfl) (by decide) ⟨Nat.le_of_ble_eq_true rfl, Nat.le_of_ble_eq_true rfl⟩ ?_
    refine CG.mono (c_lineClear hK) ?_
    rintro _ M2 ⟨rfl, hF, hD⟩
    refine G_S (pc := 35) f_71_35 rfl rfl rfl ?_
    refine G_rv (pc := 66) f_71_66 ?_
    first
      | exact ⟨rfl, hF, fun _ => ⟨hD, EO0_0⟩, fun q => absurd q (by decide), fun q => absurd q (by decide), fun q => absurd q (by decide)⟩
      | exact ⟨rfl, hF, fun q => absurd q (by decide), fun q => absurd q (by decide), fun _ => ⟨hD, EO2_0⟩, fun q => absurd q (by decide)⟩
      | exact ⟨rfl, hF, fun q => absurd q (by decide), fun q => absurd q (by decide), fun q => absurd q (by decide), fun _ => ⟨hD, EO3_0⟩⟩
      | exact ⟨rfl, Fp.up (i := 61) (k := 3) (x := nI 0) (by decide) (by decide), fun q => absurd q (by decide), fun _ => ⟨⟨(by (try dsimp only); exact up2_s), fun k hk => absurd hk (by show ¬ (k : Int) < 0; omega), fun k hk => absurd hk (by show ¬ (k : Int) < 0; omega), fun k hk => absurd hk (by show ¬ (k : Int) < 0; omega)⟩, ROK_0⟩, fun q => absurd q (by decide), fun q => absurd q (by decide)⟩
  · refine G_S (pc := 1) f_71_1 rfl rfl rfl ?_
    refine G_S (pc := 38) f_71_38 rfl rfl rfl ?_
    refine G_gR (pc := 39) f_71_39 (by decide) rfl (by first | assumption | exact hK.1 _ _ rfl) (by first | assumption | exact hK.2 _ _ _ rfl | (try dsimp only) <;> (repeat (first | exact up2_s | refine up2_o (by first | decide | omega) ?_)) <;> first | assumption | exact hK.2 _ _ _ rfl) ?_
    refine G_ic (v := nI 0) (pc := 42) f_71_42 (by decide) ?_
    refine G_pI (pc := 43) f_71_43 rfl (by first | assumption | exact hK.1 _ _ rfl) ?_
    refine G_S (pc := 46) f_71_46 rfl rfl rfl ?_
    refine G_rv (pc := 66) f_71_66 ?_
    first
      | exact ⟨rfl, hF, fun _ => ⟨hD, EO0_0⟩, fun q => absurd q (by decide), fun q => absurd q (by decide), fun q => absurd q (by decide)⟩
      | exact ⟨rfl, hF, fun q => absurd q (by decide), fun q => absurd q (by decide), fun _ => ⟨hD, EO2_0⟩, fun q => absurd q (by decide)⟩
      | exact ⟨rfl, hF, fun q => absurd q (by decide), fun q => absurd q (by decide), fun q => absurd q (by decide), fun _ => ⟨hD, EO3_0⟩⟩
      | exact ⟨rfl, Fp.up (i := 61) (k := 3) (x := nI 0) (by decide) (by decide), fun q => absurd q (by decide), fun _ => ⟨⟨(by (try dsimp only); exact up2_s), fun k hk => absurd hk (by show ¬ (k : Int) < 0; omega), fun k hk => absurd hk (by show ¬ (k : Int) < 0; omega), fun k hk => absurd hk (by show ¬ (k : Int) < 0; omega)⟩, ROK_0⟩, fun q => absurd q (by decide), fun q => absurd q (by decide)⟩
  · refine G_S (pc := 1) f_71_1 rfl rfl rfl ?_
    refine G_S (pc := 49) f_71_49 rfl rfl rfl ?_
    refine G_gR (pc := 50) f_71_50 (by decide) rfl (by first | assumption | exact hK.1 _ _ rfl) (by first | assumption | exact hK.2 _ _ _ rfl | (try dsimp only) <;> (repeat (first | exact up2_s | refine up2_o (by first | decide | omega) ?_)) <;> first | assumption | exact hK.2 _ _ _ rfl) ?_
    refine G_CV (pc := 53) f_71_53 rfl rfl (by decide) rfl rfl (by first | assumption | exact hK.1 _ _ rfl) (by decide) ⟨Nat.le_of_ble_eq_true rfl, Nat.le_of_ble_eq_true rfl⟩ ?_
    refine CG.mono (c_flowClear hK) ?_
    rintro _ M2 ⟨rfl, hF, hD⟩
    refine G_S (pc := 56) f_71_56 rfl rfl rfl ?_
    refine G_rv (pc := 66) f_71_66 ?_
    first
      | exact ⟨rfl, hF, fun _ => ⟨hD, EO0_0⟩, fun q => absurd q (by decide), fun q => absurd q (by decide), fun q => absurd q (by decide)⟩
      | exact ⟨rfl, hF, fun q => absurd q (by decide), fun q => absurd q (by decide), fun _ => ⟨hD, EO2_0⟩, fun q => absurd q (by decide)⟩
      | exact ⟨rfl, hF, fun q => absurd q (by decide), fun q => absurd q (by decide), fun q => absurd q (by decide), fun _ => ⟨hD, EO3_0⟩⟩
      | exact ⟨rfl, Fp.up (i := 61) (k := 3) (x := nI 0) (by decide) (by decide), fun q => absurd q (by decide), fun _ => ⟨⟨(by (try dsimp only); exact up2_s), fun k hk => absurd hk (by show ¬ (k : Int) < 0; omega), fun k hk => absurd hk (by show ¬ (k : Int) < 0; omega), fun k hk => absurd hk (by show ¬ (k : Int) < 0; omega)⟩, ROK_0⟩, fun q => absurd q (by decide), fun q => absurd q (by decide)⟩
  · refine G_tsO (pc := 1) f_71_1 rfl ((Or.inr (by decide))) ?_
    refine G_S (pc := 59) f_71_59 rfl rfl rfl ?_
    refine G_gR (pc := 60) f_71_60 (by decide) rfl (by first | assumption | exact hK.1 _ _ rfl) (by first | assumption | exact hK.2 _ _ _ rfl | (try dsimp only) <;> (repeat (first | exact up2_s | refine up2_o (by first | decide | omega) ?_)) <;> first | assumption | exact hK.2 _ _ _ rfl) ?_
    refine G_CV (pc := 63) f_71_63 rfl rfl (by decide) rfl rfl (by first | assumption | exact hK.1 _ _ rfl) (by decide) ⟨Nat.le_of_ble_eq_true rfl, Nat.le_of_ble_eq_true rfl⟩ ?_
    refine CG.mono (c_sightClear hK) ?_
    rintro _ M2 ⟨rfl, hF, hD⟩
    refine G_rv (pc := 66) f_71_66 ?_
    first
      | exact ⟨rfl, hF, fun _ => ⟨hD, EO0_0⟩, fun q => absurd q (by decide), fun q => absurd q (by decide), fun q => absurd q (by decide)⟩
      | exact ⟨rfl, hF, fun q => absurd q (by decide), fun q => absurd q (by decide), fun _ => ⟨hD, EO2_0⟩, fun q => absurd q (by decide)⟩
      | exact ⟨rfl, hF, fun q => absurd q (by decide), fun q => absurd q (by decide), fun q => absurd q (by decide), fun _ => ⟨hD, EO3_0⟩⟩
      | exact ⟨rfl, Fp.up (i := 61) (k := 3) (x := nI 0) (by decide) (by decide), fun q => absurd q (by decide), fun _ => ⟨⟨(by (try dsimp only); exact up2_s), fun k hk => absurd hk (by show ¬ (k : Int) < 0; omega), fun k hk => absurd hk (by show ¬ (k : Int) < 0; omega), fun k hk => absurd hk (by show ¬ (k : Int) < 0; omega)⟩, ROK_0⟩, fun q => absurd q (by decide), fun q => absurd q (by decide)⟩
theorem c_tooMany (hK : KM M.1 M.2.2.2) (hD : CD3 M E) (hE : EO3 E) : CG C 97 [.ref 70] M (fun w M' => w = some (.int (b2i ((leastF (tmP E) (E 1).toNat 0).isSome = true))) ∧ M' = M) := by
  obtain ⟨⟨a0, a1, a5⟩, d1, d2, d3⟩ := hD
  obtain ⟨e0, e1, e2⟩ := hE
  obtain ⟨s, hs⟩ : ∃ s : Nat, E 0 = (s : Int) := ⟨(E 0).toNat, by omega⟩
  obtain ⟨c, hc⟩ : ∃ c : Nat, E 1 = (c : Int) := ⟨(E 1).toNat, by omega⟩
  have a0' : M.2.1 70 0 = nI s := by rw [a0, hs, nI_zI]
  have a1' : M.2.1 70 1 = nI c := by rw [a1, hc, nI_zI]
  rw [hc, Int.toNat_natCast]
  have hp : 2 ^ s ≤ 16 := Nat.pow_le_pow_right (by decide) (show s ≤ 4 by omega)
  have loop : ∀ d i, i + d = c → G C 97 (2, [some (.ref 70), some (.int (nI i))], [], [], M) (fun w M' => w = some (.int (b2i ((leastF (tmP E) d i).isSome = true))) ∧ M' = M) := by
    intro d
    induction d with
    | zero =>
      intro i hi
      refine G_S (pc := 2) f_97_2 rfl rfl rfl ?_
      refine G_S (pc := 3) f_97_3 rfl rfl rfl ?_
      refine G_gIv (pc := 4) f_97_4 (by decide) rfl (by decide) (by first | assumption | exact hK.1 _ _ rfl) (by first | assumption | exact mI_s | ((refine mI_o (by first | decide | omega) ?_); (repeat (refine mI_o (by first | decide | omega) ?_)); first | exact mI_s | assumption) | rfl) ?_
      refine G_jgeZ (pc := 7) f_97_7 rfl (by first | exact nI_toInt (by omega) | exact zI_toInt (by omega) (by omega) | rfl) (by first | exact nI_toInt (by omega) | exact zI_toInt (by omega) (by omega) | rfl) (fun b1 => ?_) (fun b1 => ?_)
      · refine G_ic (v := nI 0) (pc := 33) f_97_33 (by decide) ?_
        refine G_rz (pc := 34) f_97_34 (by first | exact Or.inl rfl | exact Or.inr rfl | exact b2i_01 _ | assumption) ?_
        exact ⟨rfl, rfl⟩
      · exfalso; omega
    | succ d ih =>
      intro i hi
      have hd := d2 i (by omega)
      have he := e2 i (by omega)
      have htm : tmP E i = decide (2 ^ s ≤ (E (3 + 3 * i)).toNat) := by
        unfold tmP
        rw [hs, Int.toNat_natCast]
      refine G_S (pc := 2) f_97_2 rfl rfl rfl ?_
      refine G_S (pc := 3) f_97_3 rfl rfl rfl ?_
      refine G_gIv (pc := 4) f_97_4 (by decide) rfl (by decide) (by first | assumption | exact hK.1 _ _ rfl) (by first | assumption | exact mI_s | ((refine mI_o (by first | decide | omega) ?_); (repeat (refine mI_o (by first | decide | omega) ?_)); first | exact mI_s | assumption) | rfl) ?_
      refine G_jgeZ (pc := 7) f_97_7 rfl (by first | exact nI_toInt (by omega) | exact zI_toInt (by omega) (by omega) | rfl) (by first | exact nI_toInt (by omega) | exact zI_toInt (by omega) (by omega) | rfl) (fun b1 => ?_) (fun b1 => ?_)
      · exfalso; omega
      · refine G_S (pc := 10) f_97_10 rfl rfl rfl ?_
        refine G_gR (pc := 11) f_97_11 (by decide) rfl (by first | assumption | exact hK.1 _ _ rfl) (by first | assumption | exact hK.2 _ _ _ rfl | (try dsimp only) <;> (repeat (first | exact up2_s | refine up2_o (by first | decide | omega) ?_)) <;> first | assumption | exact hK.2 _ _ _ rfl) ?_
        refine G_S (pc := 14) f_97_14 rfl rfl rfl ?_
        refine G_iaN (pc := 15) f_97_15 (by first | assumption | exact hK.1 _ _ rfl) (by omega) (by omega) (by first | exact hd | rfl) ?_
        refine G_ic (v := nI 1) (pc := 16) f_97_16 (by decide) ?_
        refine G_S (pc := 17) f_97_17 rfl rfl rfl ?_
        refine G_gIv (pc := 18) f_97_18 (by decide) rfl (by decide) (by first | assumption | exact hK.1 _ _ rfl) (by first | assumption | exact mI_s | ((refine mI_o (by first | decide | omega) ?_); (repeat (refine mI_o (by first | decide | omega) ?_)); first | exact mI_s | assumption) | rfl) ?_
        first | refine G_shl1 (pc := 21) f_97_21 (by omega) ?_ | refine G_S (pc := 21) f_97_21 rfl rfl rfl ?_
        refine G_jltZ (pc := 22) f_97_22 rfl (by first | exact nI_toInt (by omega) | exact zI_toInt (by omega) (by omega) | rfl) (by first | exact nI_toInt (by omega) | exact zI_toInt (by omega) (by omega) | rfl) (fun b2 => ?_) (fun b2 => ?_)
        · first | refine G_inc1 (pc := 27) f_97_27 rfl ?_ | refine G_S (pc := 27) f_97_27 rfl rfl rfl ?_
          refine G_S (pc := 30) f_97_30 rfl rfl rfl ?_
          have e := ih (i + 1) (by omega)
          rw [leastF, htm, if_neg (by rw [decide_eq_true_eq]; omega)]
          exact e
        · refine G_ic (v := nI 1) (pc := 25) f_97_25 (by decide) ?_
          refine G_rz (pc := 26) f_97_26 (by first | exact Or.inl rfl | exact Or.inr rfl | exact b2i_01 _ | assumption) ?_
          rw [leastF, htm, if_pos (decide_eq_true (by omega))]
          exact ⟨rfl, rfl⟩
  refine CG_in (mL := 2) (hl := false) (lv := [some (.ref 70), none]) (ll := []) rfl rfl rfl ?_
  refine G_ic (v := nI 0) (pc := 0) f_97_0 (by decide) ?_
  refine G_S (pc := 1) f_97_1 rfl rfl rfl ?_
  exact loop c 0 (by omega)
theorem c_within6 {m : Nat} (hm : m ≤ 600) : CG C 184 [.int (nI m), .int (nI 0), .int (nI 600)] M (fun w M' => w = some (.int (nI m)) ∧ M' = M) := by
  refine CG_in (mL := 3) (hl := false) (lv := [some (.int (nI m)), some (.int (nI 0)), some (.int (nI 600))]) (ll := []) rfl rfl rfl ?_
  refine G_S (pc := 0) f_184_0 rfl rfl rfl ?_
  refine G_S (pc := 1) f_184_1 rfl rfl rfl ?_
  refine G_S (pc := 2) f_184_2 rfl rfl rfl ?_
  first | refine G_minN (pc := 3) f_184_3 rfl rfl (by omega) (by omega) ?_ | refine G_minZ (pc := 3) f_184_3 rfl rfl (by first | exact nI_toInt (by omega) | exact zI_toInt (by omega) (by omega) | rfl) (by first | exact nI_toInt (by omega) | exact zI_toInt (by omega) (by omega) | rfl) ?_
  first | refine G_maxN (pc := 6) f_184_6 rfl rfl (by omega) (by omega) ?_ | refine G_maxZ (pc := 6) f_184_6 rfl rfl (by first | exact nI_toInt (by omega) | exact zI_toInt (by omega) (by omega) | rfl) (by first | exact nI_toInt (by omega) | exact zI_toInt (by omega) (by omega) | rfl) ?_
  refine G_ri (pc := 9) f_184_9 ?_
  refine ⟨?_, rfl⟩
  congr 3
  omega
theorem c_read (hC : CK C) (hK : KM M.1 M.2.2.2) (hM : M.1.length ≤ 600000) (hn : n ≤ 600) (ht : ∀ i, i < n → M.2.1 2 i = zI (t i) ∧ -128 ≤ t i ∧ t i < 128) (hs : so < 4) : CG C 70 [.ref 53, .ref 2, .int (nI n), .int (nI so)] M (fun w M' => w = none ∧ Fc RRo M M' ∧ FRd M' (rdF t n so).1 ∧ ((rdF t n so).1.1 = 0 → CDt M' so (rdF t n so).2)) := by
  have Fq : ∀ {N N' : Mm}, Fp 53 RSo RSf N N' → Fc RRo N N' := fun h => h.c (by decide) (by decide)
  have fin : ∀ f M1, Fc RRo M M1 → KTp M1 t n → FRd M1 f → ∀ E T, (f.1 = 0 → CDt M1 so E) → (f.1 = 0 → so = 3 → T = orS E (E 1).toNat) → (f.1 = 1 → rdF t n so = (f, E0 so)) → (f.1 ≠ 1 → rdF t n so = if f.1 = 0 ∧ so = 3 ∧ 2 ^ (E 0).toNat ≤ T then ((4, n), E) else (f, E)) → ∀ v, G C 70 (93, [some (.ref 53), some (.ref 2), some (.int (nI n)), some (.int (nI so)), v], [], [], M1) (fun w M' => w = none ∧ Fc RRo M M' ∧ FRd M' (rdF t n so).1 ∧ ((rdF t n so).1.1 = 0 → CDt M' so (rdF t n so).2)) := by
    intro f M1 hF W1 hf E T hD hT r1 r2 v
    have hK := W1.1
    have v7 := W1.2.2.2.1
    have h4 := hf.1
    have hf4 := hf.2.2
    by_cases h0 : f.1 = 0
    · by_cases h3 : so = 3
      · subst h3
        have hD3 := (hD h0).2.2.2 rfl
        have hTT := hT h0 rfl
        have e1 := hD3.2.2.1
        have tt := c_tooMany (C := C) hK hD3.1 hD3.2
        have tm : (leastF (tmP E) (E 1).toNat 0).isSome = true ↔ 2 ^ (E 0).toNat ≤ T := by
          rw [leastF_is, hTT, orS_tm]
        refine G_S (pc := 93) f_70_93 rfl rfl rfl ?_
        refine G_gIv (pc := 94) f_70_94 (by decide) rfl (by decide) (by first | assumption | exact hK.1 _ _ rfl) (by first | assumption | exact mI_s | ((refine mI_o (by first | decide | omega) ?_); (repeat (refine mI_o (by first | decide | omega) ?_)); first | exact mI_s | assumption) | rfl) ?_
        first | refine G_bNe (pc := 97) f_70_97 rfl (fun b5 => ?_) (fun b5 => ?_) | refine G_zneZ (pc := 97) f_70_97 rfl (by first | exact nI_toInt (by omega) | exact zI_toInt (by omega) (by omega) | rfl) (fun b5 => ?_) (fun b5 => ?_)
        · exfalso; omega
        · refine G_S (pc := 100) f_70_100 rfl rfl rfl ?_
          refine G_ic (v := nI 3) (pc := 101) f_70_101 (by decide) ?_
          refine G_jneZ (pc := 102) f_70_102 rfl (by first | exact nI_toInt (by omega) | exact zI_toInt (by omega) (by omega) | rfl) (by first | exact nI_toInt (by omega) | exact zI_toInt (by omega) (by omega) | rfl) (fun b6 => ?_) (fun b6 => ?_)
          · exact absurd rfl b6
          · refine G_S (pc := 105) f_70_105 rfl rfl rfl ?_
            refine G_gR (pc := 106) f_70_106 (by decide) rfl (by first | assumption | exact hK.1 _ _ rfl) (by first | assumption | exact hK.2 _ _ _ rfl | (try dsimp only) <;> (repeat (first | exact up2_s | refine up2_o (by first | decide | omega) ?_)) <;> first | assumption | exact hK.2 _ _ _ rfl) ?_
            refine G_CV (pc := 109) f_70_109 rfl rfl (by decide) rfl rfl (by first | assumption | exact hK.1 _ _ rfl) (by decide) ⟨Nat.le_of_ble_eq_true rfl, Nat.le_of_ble_eq_true rfl⟩ ?_
            refine CG.go (tt) ?_
            first | refine G_bEq (pc := 112) f_70_112 rfl (fun b7 => ?_) (fun b7 => ?_) | refine G_zeqZ (pc := 112) f_70_112 rfl (by first | exact nI_toInt (by omega) | exact zI_toInt (by omega) (by omega) | rfl) (fun b7 => ?_) (fun b7 => ?_)
            · refine G_rv (pc := 124) f_70_124 ?_
              first
                | (rw [r2 (by omega), if_neg (fun z => b7 (tm.mpr z.2.2))]
                   exact ⟨rfl, hF, hf, hD⟩)
                | (rw [r2 (by omega), if_pos ⟨h0, rfl, tm.mp b7⟩]
                   have e : nt f true 4 n = (4, n) := if_pos ⟨h0, rfl⟩
                   rw [e] at hf2
                   exact ⟨rfl, hF.tr (Fq (hF2.sub (by decide) (by decide))), hf2, fun z => absurd (show (4 : Nat) = 0 from z) (by decide)⟩)
            · refine G_S (pc := 115) f_70_115 rfl rfl rfl ?_
              refine G_ic (v := nI 4) (pc := 116) f_70_116 (by decide) ?_
              refine G_S (pc := 117) f_70_117 rfl rfl rfl ?_
              refine G_gIv (pc := 118) f_70_118 (by decide) rfl (by decide) (by first | assumption | exact hK.1 _ _ rfl) (by first | assumption | exact mI_s | ((refine mI_o (by first | decide | omega) ?_); (repeat (refine mI_o (by first | decide | omega) ?_)); first | exact mI_s | assumption) | rfl) ?_
              refine G_CV (pc := 121) f_70_121 rfl rfl (by decide) rfl rfl (by first | assumption | exact hK.1 _ _ rfl) (by decide) ⟨Nat.le_of_ble_eq_true rfl, Nat.le_of_ble_eq_true rfl⟩ ?_
              refine CG.mono (c_note hK hf (by decide) (by decide)) ?_
              rintro _ M2 ⟨rfl, hF2, hf2⟩
              refine G_rv (pc := 124) f_70_124 ?_
              first
                | (rw [r2 (by omega), if_neg (fun z => b7 (tm.mpr z.2.2))]
                   exact ⟨rfl, hF, hf, hD⟩)
                | (rw [r2 (by omega), if_pos ⟨h0, rfl, tm.mp b7⟩]
                   have e : nt f true 4 n = (4, n) := if_pos ⟨h0, rfl⟩
                   rw [e] at hf2
                   exact ⟨rfl, hF.tr (Fq (hF2.sub (by decide) (by decide))), hf2, fun z => absurd (show (4 : Nat) = 0 from z) (by decide)⟩)
      · refine G_S (pc := 93) f_70_93 rfl rfl rfl ?_
        refine G_gIv (pc := 94) f_70_94 (by decide) rfl (by decide) (by first | assumption | exact hK.1 _ _ rfl) (by first | assumption | exact mI_s | ((refine mI_o (by first | decide | omega) ?_); (repeat (refine mI_o (by first | decide | omega) ?_)); first | exact mI_s | assumption) | rfl) ?_
        first | refine G_bNe (pc := 97) f_70_97 rfl (fun b5 => ?_) (fun b5 => ?_) | refine G_zneZ (pc := 97) f_70_97 rfl (by first | exact nI_toInt (by omega) | exact zI_toInt (by omega) (by omega) | rfl) (fun b5 => ?_) (fun b5 => ?_)
        · exfalso; omega
        · refine G_S (pc := 100) f_70_100 rfl rfl rfl ?_
          refine G_ic (v := nI 3) (pc := 101) f_70_101 (by decide) ?_
          refine G_jneZ (pc := 102) f_70_102 rfl (by first | exact nI_toInt (by omega) | exact zI_toInt (by omega) (by omega) | rfl) (by first | exact nI_toInt (by omega) | exact zI_toInt (by omega) (by omega) | rfl) (fun b6 => ?_) (fun b6 => ?_)
          · refine G_rv (pc := 124) f_70_124 ?_
            rw [r2 (by omega), if_neg (fun z => h3 z.2.1)]
            exact ⟨rfl, hF, hf, hD⟩
          · exfalso; omega
    · refine G_S (pc := 93) f_70_93 rfl rfl rfl ?_
      refine G_gIv (pc := 94) f_70_94 (by decide) rfl (by decide) (by first | assumption | exact hK.1 _ _ rfl) (by first | assumption | exact mI_s | ((refine mI_o (by first | decide | omega) ?_); (repeat (refine mI_o (by first | decide | omega) ?_)); first | exact mI_s | assumption) | rfl) ?_
      first | refine G_bNe (pc := 97) f_70_97 rfl (fun b5 => ?_) (fun b5 => ?_) | refine G_zneZ (pc := 97) f_70_97 rfl (by first | exact nI_toInt (by omega) | exact zI_toInt (by omega) (by omega) | rfl) (fun b5 => ?_) (fun b5 => ?_)
      · refine G_rv (pc := 124) f_70_124 ?_
        by_cases h1 : f.1 = 1
        · rw [r1 h1]
          exact ⟨rfl, hF, hf, fun z => absurd (show f.1 = 0 from z) (by omega)⟩
        · rw [r2 h1, if_neg (fun z => h0 z.1)]
          exact ⟨rfl, hF, hf, fun z => absurd (show f.1 = 0 from z) (by omega)⟩
      · exfalso; omega
  obtain ⟨PS, hPS⟩ : ∃ PS, PS = psF t n so (n + 1) (E0 so) 0 (0, 0) 0 := ⟨_, rfl⟩
  have loop : ∀ k i p f M1 E T, p ≤ n → n - p < k → i ≤ p → Fc RRo M M1 → KTp M1 t n → TCk M1 t n p → FRd M1 f → f.1 ≠ 1 → (f.1 = 0 → CDt M1 so E) → (f.1 = 0 → so = 3 → T = orS E (E 1).toNat) → PS = psF t n so k E T f p → G C 70 (43, [some (.ref 53), some (.ref 2), some (.int (nI n)), some (.int (nI so)), some (.int (nI i))], [], [], M1) (fun w M' => w = none ∧ Fc RRo M M' ∧ FRd M' (rdF t n so).1 ∧ ((rdF t n so).1.1 = 0 → CDt M' so (rdF t n so).2)) := by
    intro k
    induction k with
    | zero =>
      intro i p f M1 E T hp hk
      omega
    | succ k ih =>
      intro i p f M1 E T hp hk hi hF W1 T1 hf h1 hD hT hps
      have hK := W1.1
      have t9 := T1.2.1
      have hk4 := tkK_le t n p
      have h4 := hf.1
      have hf4 := hf.2.2
      rw [psF] at hps
      by_cases h0 : tkK t n p = 0
      · rw [if_pos h0] at hps
        have r2 : rdF t n so = if f.1 = 0 ∧ so = 3 ∧ 2 ^ (E 0).toNat ≤ T then ((4, n), E) else (f, E) := by
          unfold rdF
          rw [← hPS, hps]
        refine G_S (pc := 43) f_70_43 rfl rfl rfl ?_
        refine G_si (v := nI 600) (pc := 45) f_70_45 (by decide) ?_
        refine G_jgtZ (pc := 48) f_70_48 rfl (by first | exact nI_toInt (by omega) | exact zI_toInt (by omega) (by omega) | rfl) (by first | exact nI_toInt (by omega) | exact zI_toInt (by omega) (by omega) | rfl) (fun b1 => ?_) (fun b1 => ?_)
        · exfalso; omega
        · refine G_S (pc := 51) f_70_51 rfl rfl rfl ?_
          refine G_gIv (pc := 52) f_70_52 (by decide) rfl (by decide) (by first | assumption | exact hK.1 _ _ rfl) (by first | assumption | exact mI_s | ((refine mI_o (by first | decide | omega) ?_); (repeat (refine mI_o (by first | decide | omega) ?_)); first | exact mI_s | assumption) | rfl) ?_
          first | refine G_bEq (pc := 55) f_70_55 rfl (fun b2 => ?_) (fun b2 => ?_) | refine G_zeqZ (pc := 55) f_70_55 rfl (by first | exact nI_toInt (by omega) | exact zI_toInt (by omega) (by omega) | rfl) (fun b2 => ?_) (fun b2 => ?_)
          · exact fin f M1 hF W1 hf E T hD hT (fun z => absurd z h1) (fun _ => r2) _
          · exfalso; omega
      · rw [if_neg h0] at hps
        have hx := tk_nx hp h0
        have ts := c_stm (Tt := T) hC W1 T1 hf hp hs hD
        cases hst : stm t n so E T f p with
        | inl e =>
          rw [hst] at ts hps
          have r1 : rdF t n so = ((1, e), E0 so) := by
            unfold rdF
            rw [← hPS, hps]
          refine G_S (pc := 43) f_70_43 rfl rfl rfl ?_
          refine G_si (v := nI 600) (pc := 45) f_70_45 (by decide) ?_
          refine G_jgtZ (pc := 48) f_70_48 rfl (by first | exact nI_toInt (by omega) | exact zI_toInt (by omega) (by omega) | rfl) (by first | exact nI_toInt (by omega) | exact zI_toInt (by omega) (by omega) | rfl) (fun b1 => ?_) (fun b1 => ?_)
          · exfalso; omega
          · refine G_S (pc := 51) f_70_51 rfl rfl rfl ?_
            refine G_gIv (pc := 52) f_70_52 (by decide) rfl (by decide) (by first | assumption | exact hK.1 _ _ rfl) (by first | assumption | exact mI_s | ((refine mI_o (by first | decide | omega) ?_); (repeat (refine mI_o (by first | decide | omega) ?_)); first | exact mI_s | assumption) | rfl) ?_
            first | refine G_bEq (pc := 55) f_70_55 rfl (fun b2 => ?_) (fun b2 => ?_) | refine G_zeqZ (pc := 55) f_70_55 rfl (by first | exact nI_toInt (by omega) | exact zI_toInt (by omega) (by omega) | rfl) (fun b2 => ?_) (fun b2 => ?_)
            · exfalso; omega
            · refine G_S (pc := 58) f_70_58 rfl rfl rfl ?_
              refine G_gIv (pc := 59) f_70_59 (by decide) rfl (by decide) (by first | assumption | exact hK.1 _ _ rfl) (by first | assumption | exact mI_s | ((refine mI_o (by first | decide | omega) ?_); (repeat (refine mI_o (by first | decide | omega) ?_)); first | exact mI_s | assumption) | rfl) ?_
              refine G_ic (v := nI 1) (pc := 62) f_70_62 (by decide) ?_
              refine G_jeqZ (pc := 63) f_70_63 rfl (by first | exact nI_toInt (by omega) | exact zI_toInt (by omega) (by omega) | rfl) (by first | exact nI_toInt (by omega) | exact zI_toInt (by omega) (by omega) | rfl) (fun b3 => ?_) (fun b3 => ?_)
              · exfalso; omega
              · refine G_S (pc := 66) f_70_66 rfl rfl rfl ?_
                refine G_S (pc := 67) f_70_67 rfl rfl rfl ?_
                refine G_CV (pc := 68) f_70_68 rfl rfl (by decide) rfl rfl (by first | assumption | exact hK.1 _ _ rfl) (by decide) ⟨Nat.le_of_ble_eq_true rfl, Nat.le_of_ble_eq_true rfl⟩ ?_
                refine CG.mono (ts) ?_
                rintro _ M2 ⟨hF2, rfl, h10⟩
                have hK := hF2.K hK
                first | refine G_bNe (pc := 71) f_70_71 rfl (fun b4 => ?_) (fun b4 => ?_) | refine G_zneZ (pc := 71) f_70_71 rfl (by first | exact nI_toInt (by omega) | exact zI_toInt (by omega) (by omega) | rfl) (fun b4 => ?_) (fun b4 => ?_)
                · exact absurd b4 id
                · refine G_S (pc := 74) f_70_74 rfl rfl rfl ?_
                  refine G_ic (v := nI 1) (pc := 75) f_70_75 (by decide) ?_
                  refine G_pI (pc := 76) f_70_76 rfl (by first | assumption | exact hK.1 _ _ rfl) ?_
                  refine G_S (pc := 79) f_70_79 rfl rfl rfl ?_
                  refine G_S (pc := 80) f_70_80 rfl rfl rfl ?_
                  refine G_gIv (pc := 81) f_70_81 (by decide) rfl (by decide) (by first | assumption | exact hK.1 _ _ rfl) ((mI_o (by omega) h10)) ?_
                  refine G_pI (pc := 84) f_70_84 rfl (by first | assumption | exact hK.1 _ _ rfl) ?_
                  first | refine G_inc1 (pc := 87) f_70_87 rfl ?_ | refine G_S (pc := 87) f_70_87 rfl rfl rfl ?_
                  refine G_S (pc := 90) f_70_90 rfl rfl rfl ?_
                  have hF3 : Fp 53 RSo RSf M2 (M2.1, up2 (up2 M2.2.1 53 4 (nI 1)) 53 5 (nI e), M2.2.2.1, M2.2.2.2) := (Fp.upf (k := 4) (x := nI 1) (by decide)).tr (Fp.upf (k := 5) (x := nI e) (by decide))
                  have W3 := (W1.fp hF2 (by decide) (by decide)).fp hF3 (by decide) (by decide)
                  have hK := W3.1
                  have g4 : up2 (up2 M2.2.1 53 4 (nI 1)) 53 5 (nI e) 53 4 = nI 1 := (by (try dsimp only); exact up2_o (by omega) (by (try dsimp only); exact up2_s))
                  have hf3 : FRd (M2.1, up2 (up2 M2.2.1 53 4 (nI 1)) 53 5 (nI e), M2.2.2.1, M2.2.2.2) (1, e) := ⟨(by (try dsimp only); exact up2_o (by omega) (by (try dsimp only); exact up2_s)), (by (try dsimp only); exact up2_s), by show 1 ≤ 4; decide⟩
                  have fe1 := fin (1, e) _ ((hF.tr (Fq hF2)).tr (Fq hF3)) W3 hf3 (E0 so) 0 (fun z => absurd (show (1 : Nat) = 0 from z) (by decide)) (fun z => absurd (show (1 : Nat) = 0 from z) (by decide)) (fun _ => r1) (fun z => absurd rfl z)
                  refine G_S (pc := 43) f_70_43 rfl rfl rfl ?_
                  refine G_si (v := nI 600) (pc := 45) f_70_45 (by decide) ?_
                  refine G_jgtZ (pc := 48) f_70_48 rfl (by first | exact nI_toInt (by omega) | exact zI_toInt (by omega) (by omega) | rfl) (by first | exact nI_toInt (by omega) | exact zI_toInt (by omega) (by omega) | rfl) (fun b1 => ?_) (fun b1 => ?_)
                  · exfalso; omega
                  · refine G_S (pc := 51) f_70_51 rfl rfl rfl ?_
                    refine G_gIv (pc := 52) f_70_52 (by decide) rfl (by decide) (by first | assumption | exact hK.1 _ _ rfl) (rfl) ?_
                    refine G_zeq (pc := 55) f_70_55 rfl (fun b2 => ?_) (fun b2 => ?_)
                    · exact fe1 _
                    · refine G_S (pc := 58) f_70_58 rfl rfl rfl ?_
                      refine G_gIv (pc := 59) f_70_59 (by decide) rfl (by decide) (by first | assumption | exact hK.1 _ _ rfl) (by first | assumption | exact mI_s | ((refine mI_o (by first | decide | omega) ?_); (repeat (refine mI_o (by first | decide | omega) ?_)); first | exact mI_s | assumption) | rfl) ?_
                      refine G_ic (v := nI 1) (pc := 62) f_70_62 (by decide) ?_
                      refine G_jeqZ (pc := 63) f_70_63 rfl (by first | exact nI_toInt (by omega) | exact zI_toInt (by omega) (by omega) | rfl) (by first | exact nI_toInt (by omega) | exact zI_toInt (by omega) (by omega) | rfl) (fun b3 => ?_) (fun b3 => ?_)
                      · exact fe1 _
                      · exfalso; omega
        | inr q =>
          rw [hst] at ts hps
          have hb := stm_b hp hst
          have hT' : q.2.1.1 = 0 → so = 3 → q.2.2.2 = orS q.2.2.1 (q.2.2.1 1).toNat := fun z z3 => stm_T z3 (fun y => ⟨((hD y).2.2.2 z3).2, hT y z3⟩) hst z
          have hq1 : q.2.1.1 ≠ 1 := stm_1 h1 hst
          refine G_S (pc := 43) f_70_43 rfl rfl rfl ?_
          refine G_si (v := nI 600) (pc := 45) f_70_45 (by decide) ?_
          refine G_jgtZ (pc := 48) f_70_48 rfl (by first | exact nI_toInt (by omega) | exact zI_toInt (by omega) (by omega) | rfl) (by first | exact nI_toInt (by omega) | exact zI_toInt (by omega) (by omega) | rfl) (fun b1 => ?_) (fun b1 => ?_)
          · exfalso; omega
          · refine G_S (pc := 51) f_70_51 rfl rfl rfl ?_
            refine G_gIv (pc := 52) f_70_52 (by decide) rfl (by decide) (by first | assumption | exact hK.1 _ _ rfl) (by first | assumption | exact mI_s | ((refine mI_o (by first | decide | omega) ?_); (repeat (refine mI_o (by first | decide | omega) ?_)); first | exact mI_s | assumption) | rfl) ?_
            first | refine G_bEq (pc := 55) f_70_55 rfl (fun b2 => ?_) (fun b2 => ?_) | refine G_zeqZ (pc := 55) f_70_55 rfl (by first | exact nI_toInt (by omega) | exact zI_toInt (by omega) (by omega) | rfl) (fun b2 => ?_) (fun b2 => ?_)
            · exfalso; omega
            · refine G_S (pc := 58) f_70_58 rfl rfl rfl ?_
              refine G_gIv (pc := 59) f_70_59 (by decide) rfl (by decide) (by first | assumption | exact hK.1 _ _ rfl) (by first | assumption | exact mI_s | ((refine mI_o (by first | decide | omega) ?_); (repeat (refine mI_o (by first | decide | omega) ?_)); first | exact mI_s | assumption) | rfl) ?_
              refine G_ic (v := nI 1) (pc := 62) f_70_62 (by decide) ?_
              refine G_jeqZ (pc := 63) f_70_63 rfl (by first | exact nI_toInt (by omega) | exact zI_toInt (by omega) (by omega) | rfl) (by first | exact nI_toInt (by omega) | exact zI_toInt (by omega) (by omega) | rfl) (fun b3 => ?_) (fun b3 => ?_)
              · exfalso; omega
              · refine G_S (pc := 66) f_70_66 rfl rfl rfl ?_
                refine G_S (pc := 67) f_70_67 rfl rfl rfl ?_
                refine G_CV (pc := 68) f_70_68 rfl rfl (by decide) rfl rfl (by first | assumption | exact hK.1 _ _ rfl) (by decide) ⟨Nat.le_of_ble_eq_true rfl, Nat.le_of_ble_eq_true rfl⟩ ?_
                refine CG.mono (ts) ?_
                rintro _ M2 ⟨hF2, rfl, T2, hf2, hD2⟩
                have hK := hF2.K hK
                first | refine G_bNe (pc := 71) f_70_71 rfl (fun b4 => ?_) (fun b4 => ?_) | refine G_zneZ (pc := 71) f_70_71 rfl (by first | exact nI_toInt (by omega) | exact zI_toInt (by omega) (by omega) | rfl) (fun b4 => ?_) (fun b4 => ?_)
                · first | refine G_inc1 (pc := 87) f_70_87 rfl ?_ | refine G_S (pc := 87) f_70_87 rfl rfl rfl ?_
                  refine G_S (pc := 90) f_70_90 rfl rfl rfl ?_
                  exact ih (i + 1) q.1 q.2.1 M2 q.2.2.1 q.2.2.2 hb.2 (by omega) (by omega) (hF.tr (Fq hF2)) (W1.fp hF2 (by decide) (by decide)) T2 hf2 hq1 hD2 hT' hps
                · exact absurd trivial b4
  have hF1 : Fc RRo M (M.1, up2 (up2 (up2 (up2 M.2.1 53 7 (nI n)) 53 8 (nI 0)) 53 4 (nI 0)) 53 5 (zI (-1)), M.2.2.1, up2 M.2.2.2 53 6 (some 2)) := ((((Fc.upR (i := 53) (k := 6) (x := some 2) (by decide) (by decide)).tr (Fc.up (i := 53) (k := 7) (x := nI n) (by decide))).tr (Fc.up (i := 53) (k := 8) (x := nI 0) (by decide))).tr (Fc.up (i := 53) (k := 4) (x := nI 0) (by decide))).tr (Fc.up (i := 53) (k := 5) (x := zI (-1)) (by decide))
  have hK1 := hF1.K hK
  have W1 : KTp (M.1, up2 (up2 (up2 (up2 M.2.1 53 7 (nI n)) 53 8 (nI 0)) 53 4 (nI 0)) 53 5 (zI (-1)), M.2.2.1, up2 M.2.2.2 53 6 (some 2)) t n := ⟨hK1, hM, (by (try dsimp only); exact up2_s), (by (try dsimp only); exact up2_o (by omega) (by (try dsimp only); exact up2_o (by omega) (by (try dsimp only); exact up2_o (by omega) (by (try dsimp only); exact up2_s)))), hn, fun i hi => ⟨(by (try dsimp only); exact up2_o (by omega) (by (try dsimp only); exact up2_o (by omega) (by (try dsimp only); exact up2_o (by omega) (by (try dsimp only); exact up2_o (by omega) (ht i hi).1)))), (ht i hi).2⟩⟩
  have hf1 : FRd (M.1, up2 (up2 (up2 (up2 M.2.1 53 7 (nI n)) 53 8 (nI 0)) 53 4 (nI 0)) 53 5 (zI (-1)), M.2.2.1, up2 M.2.2.2 53 6 (some 2)) (0, 0) := ⟨(by (try dsimp only); exact up2_o (by omega) (by (try dsimp only); exact up2_s)), (by (try dsimp only); exact up2_s), by show 0 ≤ 4; decide⟩
  refine CG_in (mL := 5) (hl := false) (lv := [some (.ref 53), some (.ref 2), some (.int (nI n)), some (.int (nI so)), none]) (ll := []) rfl rfl rfl ?_
  refine G_S (pc := 0) f_70_0 rfl rfl rfl ?_
  refine G_S (pc := 1) f_70_1 rfl rfl rfl ?_
  refine G_pR (pc := 2) f_70_2 rfl (by first | assumption | exact hK.1 _ _ rfl) (by omega) ?_
  refine G_S (pc := 5) f_70_5 rfl rfl rfl ?_
  refine G_S (pc := 6) f_70_6 rfl rfl rfl ?_
  refine G_ic (v := nI 0) (pc := 7) f_70_7 (by decide) ?_
  refine G_S (pc := 8) f_70_8 rfl rfl rfl ?_
  refine G_len (pc := 9) f_70_9 (by first | assumption | exact hK.1 _ _ rfl) (by decide) ?_
  refine G_CS (pc := 10) f_70_10 rfl rfl (by decide) rfl rfl ⟨Nat.le_of_ble_eq_true rfl, Nat.le_of_ble_eq_true rfl⟩ ?_
  refine CG.go (c_within6 hn) ?_
  refine G_pI (pc := 13) f_70_13 rfl (by first | assumption | exact hK.1 _ _ rfl) ?_
  refine G_S (pc := 16) f_70_16 rfl rfl rfl ?_
  refine G_ic (v := nI 0) (pc := 17) f_70_17 (by decide) ?_
  refine G_pI (pc := 18) f_70_18 rfl (by first | assumption | exact hK.1 _ _ rfl) ?_
  refine G_S (pc := 21) f_70_21 rfl rfl rfl ?_
  refine G_ic (v := nI 0) (pc := 22) f_70_22 (by decide) ?_
  refine G_pI (pc := 23) f_70_23 rfl (by first | assumption | exact hK.1 _ _ rfl) ?_
  refine G_S (pc := 26) f_70_26 rfl rfl rfl ?_
  refine G_ic (v := zI (-1)) (pc := 27) f_70_27 (by decide) ?_
  refine G_pI (pc := 28) f_70_28 rfl (by first | assumption | exact hK.1 _ _ rfl) ?_
  refine G_S (pc := 31) f_70_31 rfl rfl rfl ?_
  refine G_S (pc := 32) f_70_32 rfl rfl rfl ?_
  refine G_CV (pc := 33) f_70_33 rfl rfl (by decide) rfl rfl (by first | assumption | exact hK.1 _ _ rfl) (by decide) ⟨Nat.le_of_ble_eq_true rfl, Nat.le_of_ble_eq_true rfl⟩ ?_
  refine CG.mono (c_clearOf hK1 hs) ?_
  rintro _ M2 ⟨rfl, hF2, hD2⟩
  have W2 := W1.fp hF2 (by decide) (by decide)
  have h8 : M2.2.1 53 8 = nI 0 := by
    rw [hF2.2.2 8 (by decide)]
    exact (by (try dsimp only); exact up2_o (by omega) (by (try dsimp only); exact up2_o (by omega) (by (try dsimp only); exact up2_s)))
  have hK := W2.1
  refine G_S (pc := 36) f_70_36 rfl rfl rfl ?_
  refine G_CV (pc := 37) f_70_37 rfl rfl (by decide) rfl rfl (by first | assumption | exact hK.1 _ _ rfl) (by decide) ⟨Nat.le_of_ble_eq_true rfl, Nat.le_of_ble_eq_true rfl⟩ ?_
  refine CG.mono (c_step W2 h8 (Nat.zero_le _)) ?_
  rintro _ M3 ⟨rfl, hF3, T3⟩
  refine G_ic (v := nI 0) (pc := 40) f_70_40 (by decide) ?_
  refine G_S (pc := 41) f_70_41 rfl rfl rfl ?_
  refine loop (n + 1) 0 0 (0, 0) M3 (E0 so) 0 (Nat.zero_le _) (by omega) (Nat.le_refl _) ((hF1.tr (Fq (hF2.sub (by decide) (by decide)))).tr (Fq (hF3.sub (by decide) (by decide)))) (W2.fp hF3 (by decide) (by decide)) T3 ((hf1.fp hF2 (by decide) (by decide)).fp hF3 (by decide) (by decide)) (by decide) (fun _ => hD2.fp hF3 (by decide)) (fun _ z3 => ?_) hPS
  subst z3
  rfl
end CRX
