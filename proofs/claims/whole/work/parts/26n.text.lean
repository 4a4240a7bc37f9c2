/-! the program: text -/
section CTX
variable {C : Ct} {M : Mm} {s : Sg} {x y : Int32} {n m so : Nat} {E : Nat → Int}
def cX (M M' : Mm) : Prop := M'.1 = M.1 ∧ (∀ i k, (i = 52 ∨ 78 ≤ i ∨ (R0 i k).isSome = true) → M'.2.2.2 i k = M.2.2.2 i k) ∧ ∀ i, (i = 0 ∨ i = 52 ∨ 78 ≤ i) → M'.2.1 i = M.2.1 i ∧ M'.2.2.1 i = M.2.2.1 i
theorem cX.tr {M M1 M2 : Mm} (h1 : cX M M1) (h2 : cX M1 M2) : cX M M2 := ⟨h2.1.trans h1.1, fun i k q => (h2.2.1 i k q).trans (h1.2.1 i k q), fun i hi => ⟨(h2.2.2 i hi).1.trans (h1.2.2 i hi).1, (h2.2.2 i hi).2.trans (h1.2.2 i hi).2⟩⟩
theorem cX.K {M M' : Mm} (h : cX M M') (hK : KM M.1 M.2.2.2) : KM M'.1 M'.2.2.2 := ⟨by rw [h.1]; exact hK.1, fun i k a q => (h.2.1 i k (Or.inr (Or.inr (by rw [q]; rfl)))).trans (hK.2 i k a q)⟩
theorem FoB.X {M M' : Mm} (h : FoB 1 M M') : cX M M' := ⟨h.1.1, fun i k _ => by rw [h.1.2], fun i hi => h.2 i (by omega)⟩
theorem cX.rd {M M' : Mm} (h : Fc RRo M M') : cX M M' := ⟨h.1, fun i k q => h.2.1 i k (by
    rcases q with q | q | q
    · exact Or.inl (by rw [q]; decide)
    · exact Or.inl (by unfold RRo; simp <;> omega)
    · exact Or.inr q), fun i hi => h.2.2 i (by unfold RRo; simp <;> omega)⟩
theorem c_putS (hK : KM M.1 M.2.2.2) (h : CB M 1 s) (hs : SgOK s) (hso : so < 4) (hm : m < 2) (hmc : m ≤ s.ct so) (D : CDt M so E) (hz : so = 3 → ¬ 2 ^ (E 0).toNat ≤ orS E (E 1).toNat) : CG C 103 [.ref 1, .int (nI so), .int (nI m), .ref 53] M (fun w M' => w = none ∧ FoB 1 M M' ∧ CB M' 1 (ptF s so m E)) := by
  obtain ⟨d0, d1, d2, d3⟩ := D
  rcases (show so = 0 ∨ so = 1 ∨ so = 2 ∨ so = 3 by omega) with rfl | rfl | rfl | rfl
  · exact c_put0 hK h hs hm hmc ((d0 rfl).1.v (d0 rfl).2) ⟨⟨hK.1 54 _ rfl, hK.1 55 _ rfl, hK.1 56 _ rfl, hK.1 57 _ rfl, hK.1 58 _ rfl, hK.1 59 _ rfl, hK.1 60 _ rfl⟩, hK.2 54 0 _ rfl, hK.2 54 3 _ rfl, hK.2 54 4 _ rfl, hK.2 54 6 _ rfl, hK.2 54 7 _ rfl, hK.2 54 8 _ rfl⟩
  · exact c_put1 hK h hs hm hmc ⟨(d1 rfl).2, (d1 rfl).1⟩ ⟨⟨hK.1 61 _ rfl, hK.1 62 _ rfl, hK.1 63 _ rfl, hK.1 64 _ rfl⟩, hK.2 61 0 _ rfl, hK.2 61 1 _ rfl, hK.2 61 2 _ rfl⟩
  · exact c_put2 hK h hs hm hmc ((d2 rfl).1.v (d2 rfl).2) ⟨⟨hK.1 65 _ rfl, hK.1 66 _ rfl, hK.1 67 _ rfl, hK.1 68 _ rfl, hK.1 69 _ rfl⟩, hK.2 65 1 _ rfl, hK.2 65 2 _ rfl, hK.2 65 3 _ rfl, hK.2 65 4 _ rfl⟩
  · exact c_put3 hK h hs hm hmc ((d3 rfl).1.v (d3 rfl).2 ((d3 rfl).2.z rfl (hz rfl))) ⟨⟨hK.1 70 _ rfl, hK.1 71 _ rfl, hK.1 72 _ rfl, hK.1 73 _ rfl, hK.1 74 _ rfl, hK.1 75 _ rfl⟩, hK.2 70 2 _ rfl, hK.2 70 3 _ rfl, hK.2 70 4 _ rfl, hK.2 70 8 _ rfl, hK.2 70 9 _ rfl⟩
/-- the state with the tape ended and a fault -/
def txE (s : Sg) (f : Nat × Nat) : Sg := (s.1, 0, f, s.2.2.2)
theorem txE_ok {f : Nat × Nat} (h : SgOK s) : SgOK (txE s f) := ⟨Nat.zero_le _, fun i hi => absurd hi (Nat.not_lt_zero i), trivial, trivial, h.2.2.2.2⟩
def txN (s : Sg) (so : Nat) (y : Int32) : Nat := if y.toInt = -1 then s.ct so else y.toInt.toNat
def txF (s : Sg) (x y : Int32) : Int32 × Sg := if tkQ s x y = true then (if (rdF s.tp s.len x.toInt.toNat).1.1 = 0 then (nI (txN s x.toInt.toNat y), ptF (txE s (rdF s.tp s.len x.toInt.toNat).1) x.toInt.toNat (txN s x.toInt.toNat y) (rdF s.tp s.len x.toInt.toNat).2) else (zI (-1), txE s (rdF s.tp s.len x.toInt.toNat).1)) else (zI (-2), txE s (0, 0))
theorem CB.z3 (h : CB M 1 s) (hs : SgOK s) : CB (M.1, up2 (up2 (up2 M.2.1 1 1 (nI 0)) 1 2 (nI 0)) 1 3 (zI (-1)), M.2.2.1, M.2.2.2) 1 (txE s (0, 0)) := h.hd hs (fun i hi => by rw [up2_ne hi, up2_ne hi, up2_ne hi]) (up2_o (by decide) (up2_o (by decide) up2_s)) (up2_o (by decide) up2_s) up2_s (fun i hi => absurd hi (Nat.not_lt_zero i))
theorem cd5 {v w : Int32} (h : CDt M so E) : CDt (M.1, up2 (up2 M.2.1 1 2 v) 1 3 w, M.2.2.1, M.2.2.2) so E := by
  have g : ∀ i, i ≠ 1 → up2 (up2 M.2.1 1 2 v) 1 3 w i = M.2.1 i := fun i hi => by rw [up2_ne hi, up2_ne hi]
  have hF : Fp 53 [1] [] M (M.1, up2 (up2 M.2.1 1 2 v) 1 3 w, M.2.2.1, M.2.2.2) := ⟨⟨rfl, rfl⟩, fun i _ hi => ⟨g i (by simpa using hi), rfl⟩, fun k _ => congrFun (g 53 (by decide)) k⟩
  exact h.fp hF (by decide)
/-- the bounds of what was read -/
def EOs (so : Nat) (E : Nat → Int) : Prop := (so = 0 → EO0 E) ∧ (so = 1 → ROK E) ∧ (so = 2 → EO2 E) ∧ (so = 3 → EO3 E ∧ SOK (nt_ E))
theorem EOs.of (D : CDt M so E) (hz : so = 3 → ¬ 2 ^ (E 0).toNat ≤ orS E (E 1).toNat) : EOs so E := ⟨fun q => (D.1 q).2, fun q => (D.2.1 q).2, fun q => (D.2.2.1 q).2, fun q => ⟨(D.2.2.2 q).2, (D.2.2.2 q).2.z rfl (hz q)⟩⟩
def TXp (s : Sg) (x y : Int32) : Prop := tkQ s x y = true → (rdF s.tp s.len x.toInt.toNat).1.1 = 0 → EOs x.toInt.toNat (rdF s.tp s.len x.toInt.toNat).2
theorem rr_2 : ∀ i, i ∈ u2O → i ∉ RRo := by decide
theorem c_text (hC : CK C) (hM : M.1.length ≤ 600000) (hK : KM M.1 M.2.2.2) (h : CB M 1 s) (hs : SgOK s) : CG C 147 [.ref 0, .int x, .int y] M (fun w M' => w = some (.int (txF s x y).1) ∧ cX M M' ∧ CB M' 1 (txF s x y).2 ∧ TXp s x y) := by
  have h1 := h.1.1
  have hs1 := hs.1
  have z3 := h.z3 hs
  have f3 : FoB 1 M (M.1, up2 (up2 (up2 M.2.1 1 1 (nI 0)) 1 2 (nI 0)) 1 3 (zI (-1)), M.2.2.1, M.2.2.2) := ⟨⟨rfl, rfl⟩, fun i hi => ⟨by dsimp only; rw [up2_ne (by omega), up2_ne (by omega), up2_ne (by omega)], rfl⟩⟩
  by_cases ht : tkQ s x y = true
  · have hq := of_decide_eq_true ht
    obtain ⟨so, rfl, ex, -⟩ := nI_tt (x := x) hq.1.1
    have hso : so < 4 := by omega
    have ht' : tkQ (txE s (0, 0)) (nI so) y = true := ht
    have e : txF s (nI so) y = if (rdF s.tp s.len so).1.1 = 0 then (nI (txN s so y), ptF (txE s (rdF s.tp s.len so).1) so (txN s so y) (rdF s.tp s.len so).2) else (zI (-1), txE s (rdF s.tp s.len so).1) := by
      unfold txF
      rw [if_pos ht, ex, Int.toNat_natCast]
    have hq2 := hq.2
    rw [ex, Int.toNat_natCast] at hq2
    have h2 := hs.2.2.2.2 so
    have hc := h.2.2.1 so hso
    have ht0 : ∀ i, i < s.len → (M.1, up2 (up2 (up2 M.2.1 1 1 (nI 0)) 1 2 (nI 0)) 1 3 (zI (-1)), M.2.2.1, M.2.2.2).2.1 2 i = zI (s.tp i) ∧ -128 ≤ s.tp i ∧ s.tp i < 128 := fun i hi => ⟨by dsimp only; rw [up2_ne (by decide), up2_ne (by decide), up2_ne (by decide)]; exact h.2.1 i hi, hs.2.1 i hi⟩
    rw [e]
    obtain ⟨f, E, hr⟩ : ∃ f E, rdF s.tp s.len so = (f, E) := ⟨_, _, rfl⟩
    have tx : (f.1 = 0 → EOs so E) → TXp s (nI so) y := fun q => by
      unfold TXp
      rw [ex, Int.toNat_natCast, hr]
      exact fun _ z => q z
    rw [hr]
    dsimp only
    by_cases h0 : f.1 = 0
    · rw [if_pos h0]
      by_cases hy : y.toInt = -1
      · have em : txN s so y = s.ct so := if_pos hy
        rw [em]
        have hm : s.ct so < 2 := by omega
        refine CG_in (mL := 5) (hl := false) (lv := [some (.ref 0), some (.int (nI so)), some (.int y), none, none]) (ll := []) rfl rfl rfl ?_
        refine G_S (pc := 0) f_147_0 rfl rfl rfl ?_
        refine G_gR (pc := 1) f_147_1 (by decide) rfl (by first | assumption | exact hK.1 _ _ rfl) (by first | assumption | exact hK.2 _ _ _ rfl | (try dsimp only) <;> (repeat (first | exact up2_s | refine up2_o (by first | decide | omega) ?_)) <;> first | assumption | exact hK.2 _ _ _ rfl) ?_
        refine G_gIv (pc := 4) f_147_4 (by decide) rfl (by decide) (by first | assumption | exact hK.1 _ _ rfl) (by first | assumption | exact mI_s | ((refine mI_o (by first | decide | omega) ?_); (repeat (refine mI_o (by first | decide | omega) ?_)); first | exact mI_s | assumption) | rfl) ?_
        refine G_S (pc := 7) f_147_7 rfl rfl rfl ?_
        refine G_S (pc := 8) f_147_8 rfl rfl rfl ?_
        refine G_gR (pc := 9) f_147_9 (by decide) rfl (by first | assumption | exact hK.1 _ _ rfl) (by first | assumption | exact hK.2 _ _ _ rfl | (try dsimp only) <;> (repeat (first | exact up2_s | refine up2_o (by first | decide | omega) ?_)) <;> first | assumption | exact hK.2 _ _ _ rfl) ?_
        refine G_ic (v := nI 0) (pc := 12) f_147_12 (by decide) ?_
        refine G_pI (pc := 13) f_147_13 rfl (by first | assumption | exact hK.1 _ _ rfl) ?_
        refine G_S (pc := 16) f_147_16 rfl rfl rfl ?_
        refine G_gR (pc := 17) f_147_17 (by decide) rfl (by first | assumption | exact hK.1 _ _ rfl) (by first | assumption | exact hK.2 _ _ _ rfl | (try dsimp only) <;> (repeat (first | exact up2_s | refine up2_o (by first | decide | omega) ?_)) <;> first | assumption | exact hK.2 _ _ _ rfl) ?_
        refine G_ic (v := nI 0) (pc := 20) f_147_20 (by decide) ?_
        refine G_pI (pc := 21) f_147_21 rfl (by first | assumption | exact hK.1 _ _ rfl) ?_
        refine G_S (pc := 24) f_147_24 rfl rfl rfl ?_
        refine G_gR (pc := 25) f_147_25 (by decide) rfl (by first | assumption | exact hK.1 _ _ rfl) (by first | assumption | exact hK.2 _ _ _ rfl | (try dsimp only) <;> (repeat (first | exact up2_s | refine up2_o (by first | decide | omega) ?_)) <;> first | assumption | exact hK.2 _ _ _ rfl) ?_
        refine G_ic (v := zI (-1)) (pc := 28) f_147_28 (by decide) ?_
        refine G_pI (pc := 29) f_147_29 rfl (by first | assumption | exact hK.1 _ _ rfl) ?_
        refine G_S (pc := 32) f_147_32 rfl rfl rfl ?_
        refine G_gR (pc := 33) f_147_33 (by decide) rfl (by first | assumption | exact hK.1 _ _ rfl) (by first | assumption | exact hK.2 _ _ _ rfl | (try dsimp only) <;> (repeat (first | exact up2_s | refine up2_o (by first | decide | omega) ?_)) <;> first | assumption | exact hK.2 _ _ _ rfl) ?_
        refine G_S (pc := 36) f_147_36 rfl rfl rfl ?_
        refine G_S (pc := 37) f_147_37 rfl rfl rfl ?_
        refine G_CV (pc := 38) f_147_38 rfl rfl (by decide) rfl rfl (by first | assumption | exact hK.1 _ _ rfl) (by decide) ⟨Nat.le_of_ble_eq_true rfl, Nat.le_of_ble_eq_true rfl⟩ ?_
        refine CG.mono (c_takes (s := txE s (0, 0)) hK z3 (txE_ok hs)) ?_
        rintro _ M0 ⟨rfl, rfl⟩
        rw [b2i_pos ht']
        first | refine G_bNe (pc := 41) f_147_41 rfl (fun b1 => ?_) (fun b1 => ?_) | refine G_zneZ (pc := 41) f_147_41 rfl (by first | exact nI_toInt (by omega) | exact zI_toInt (by omega) (by omega) | rfl) (fun b1 => ?_) (fun b1 => ?_)
        · refine G_S (pc := 47) f_147_47 rfl rfl rfl ?_
          refine G_gR (pc := 48) f_147_48 (by decide) rfl (by first | assumption | exact hK.1 _ _ rfl) (by first | assumption | exact hK.2 _ _ _ rfl | (try dsimp only) <;> (repeat (first | exact up2_s | refine up2_o (by first | decide | omega) ?_)) <;> first | assumption | exact hK.2 _ _ _ rfl) ?_
          refine G_S (pc := 51) f_147_51 rfl rfl rfl ?_
          refine G_gR (pc := 52) f_147_52 (by decide) rfl (by first | assumption | exact hK.1 _ _ rfl) (by first | assumption | exact hK.2 _ _ _ rfl | (try dsimp only) <;> (repeat (first | exact up2_s | refine up2_o (by first | decide | omega) ?_)) <;> first | assumption | exact hK.2 _ _ _ rfl) ?_
          refine G_gR (pc := 55) f_147_55 (by decide) rfl (by first | assumption | exact hK.1 _ _ rfl) (by first | assumption | exact hK.2 _ _ _ rfl | (try dsimp only) <;> (repeat (first | exact up2_s | refine up2_o (by first | decide | omega) ?_)) <;> first | assumption | exact hK.2 _ _ _ rfl) ?_
          refine G_S (pc := 58) f_147_58 rfl rfl rfl ?_
          refine G_S (pc := 59) f_147_59 rfl rfl rfl ?_
          refine G_CV (pc := 60) f_147_60 rfl rfl (by decide) rfl rfl (by first | assumption | exact hK.1 _ _ rfl) (by decide) ⟨Nat.le_of_ble_eq_true rfl, Nat.le_of_ble_eq_true rfl⟩ ?_
          refine CG.mono (c_readS (t := s.tp) hC hK hM hs1 ht0 hso) ?_
          rintro _ M1 ⟨rfl, hF, hf, hD⟩
          have hK := hF.K hK
          have z4 := z3.c1 (txE_ok hs) (fun i hi => (hF.2.2 i (rr_2 i hi)).1)
          rw [hr] at hf hD
          dsimp only at hf hD
          have z5 := (z4.hd (txE_ok hs) (t := s.tp) (m := 0) (f := f) (X := up2 (up2 M1.2.1 1 2 (nI f.1)) 1 3 (plI f)) (fun i hi => by rw [up2_ne hi, up2_ne hi]) (up2_o (by decide) (up2_o (by decide) z4.1.1)) (up2_o (by decide) up2_s) up2_s (fun i hi => absurd hi (Nat.not_lt_zero i)))
          have f5 : FoB 1 M1 (M1.1, up2 (up2 M1.2.1 1 2 (nI f.1)) 1 3 (plI f), M1.2.2.1, M1.2.2.2) := ⟨⟨rfl, rfl⟩, fun i hi => ⟨by dsimp only; rw [up2_ne (by omega), up2_ne (by omega)], rfl⟩⟩
          have g1 := hf.1
          have g2 := hf.2.1
          have hf4 := hf.2.2
          refine G_S (pc := 63) f_147_63 rfl rfl rfl ?_
          refine G_gR (pc := 64) f_147_64 (by decide) rfl (by first | assumption | exact hK.1 _ _ rfl) (by first | assumption | exact hK.2 _ _ _ rfl | (try dsimp only) <;> (repeat (first | exact up2_s | refine up2_o (by first | decide | omega) ?_)) <;> first | assumption | exact hK.2 _ _ _ rfl) ?_
          refine G_S (pc := 67) f_147_67 rfl rfl rfl ?_
          refine G_gR (pc := 68) f_147_68 (by decide) rfl (by first | assumption | exact hK.1 _ _ rfl) (by first | assumption | exact hK.2 _ _ _ rfl | (try dsimp only) <;> (repeat (first | exact up2_s | refine up2_o (by first | decide | omega) ?_)) <;> first | assumption | exact hK.2 _ _ _ rfl) ?_
          refine G_gIv (pc := 71) f_147_71 (by decide) rfl (by decide) (by first | assumption | exact hK.1 _ _ rfl) (g1) ?_
          refine G_pI (pc := 74) f_147_74 rfl (by first | assumption | exact hK.1 _ _ rfl) ?_
          refine G_S (pc := 77) f_147_77 rfl rfl rfl ?_
          refine G_gR (pc := 78) f_147_78 (by decide) rfl (by first | assumption | exact hK.1 _ _ rfl) (by first | assumption | exact hK.2 _ _ _ rfl | (try dsimp only) <;> (repeat (first | exact up2_s | refine up2_o (by first | decide | omega) ?_)) <;> first | assumption | exact hK.2 _ _ _ rfl) ?_
          refine G_S (pc := 81) f_147_81 rfl rfl rfl ?_
          refine G_gR (pc := 82) f_147_82 (by decide) rfl (by first | assumption | exact hK.1 _ _ rfl) (by first | assumption | exact hK.2 _ _ _ rfl | (try dsimp only) <;> (repeat (first | exact up2_s | refine up2_o (by first | decide | omega) ?_)) <;> first | assumption | exact hK.2 _ _ _ rfl) ?_
          refine G_gIv (pc := 85) f_147_85 (by decide) rfl (by decide) (by first | assumption | exact hK.1 _ _ rfl) ((mI_o (by omega) g2)) ?_
          refine G_pI (pc := 88) f_147_88 rfl (by first | assumption | exact hK.1 _ _ rfl) ?_
          refine G_S (pc := 91) f_147_91 rfl rfl rfl ?_
          refine G_gR (pc := 92) f_147_92 (by decide) rfl (by first | assumption | exact hK.1 _ _ rfl) (by first | assumption | exact hK.2 _ _ _ rfl | (try dsimp only) <;> (repeat (first | exact up2_s | refine up2_o (by first | decide | omega) ?_)) <;> first | assumption | exact hK.2 _ _ _ rfl) ?_
          refine G_gIv (pc := 95) f_147_95 (by decide) rfl (by decide) (by first | assumption | exact hK.1 _ _ rfl) ((mI_o (by omega) (mI_o (by omega) g1))) ?_
          first | refine G_bEq (pc := 98) f_147_98 rfl (fun b2 => ?_) (fun b2 => ?_) | refine G_zeqZ (pc := 98) f_147_98 rfl (by first | exact nI_toInt (by omega) | exact zI_toInt (by omega) (by omega) | rfl) (fun b2 => ?_) (fun b2 => ?_)
          · refine G_S (pc := 103) f_147_103 rfl rfl rfl ?_
            refine G_ic (v := zI (-1)) (pc := 104) f_147_104 (by decide) ?_
            refine G_jneZ (pc := 105) f_147_105 rfl (by first | exact nI_toInt (by omega) | exact zI_toInt (by omega) (by omega) | rfl) (by first | exact nI_toInt (by omega) | exact zI_toInt (by omega) (by omega) | rfl) (fun b3 => ?_) (fun b3 => ?_)
            · exfalso; omega
            · refine G_S (pc := 108) f_147_108 rfl rfl rfl ?_
              refine G_gR (pc := 109) f_147_109 (by decide) rfl (by first | assumption | exact hK.1 _ _ rfl) (by first | assumption | exact hK.2 _ _ _ rfl | (try dsimp only) <;> (repeat (first | exact up2_s | refine up2_o (by first | decide | omega) ?_)) <;> first | assumption | exact hK.2 _ _ _ rfl) ?_
              refine G_gR (pc := 112) f_147_112 (by decide) rfl (by first | assumption | exact hK.1 _ _ rfl) (by first | assumption | exact hK.2 _ _ _ rfl | (try dsimp only) <;> (repeat (first | exact up2_s | refine up2_o (by first | decide | omega) ?_)) <;> first | assumption | exact hK.2 _ _ _ rfl) ?_
              refine G_S (pc := 115) f_147_115 rfl rfl rfl ?_
              refine G_iaN (pc := 116) f_147_116 (by first | assumption | exact hK.1 _ _ rfl) (by omega) (by omega) (by first | exact (show _ = nI (s.ct so) from z5.2.2.1 so hso) | rfl) ?_
              refine G_S (pc := 117) f_147_117 rfl rfl rfl ?_
              refine G_S (pc := 121) f_147_121 rfl rfl rfl ?_
              refine G_S (pc := 123) f_147_123 rfl rfl rfl ?_
              refine G_gR (pc := 124) f_147_124 (by decide) rfl (by first | assumption | exact hK.1 _ _ rfl) (by first | assumption | exact hK.2 _ _ _ rfl | (try dsimp only) <;> (repeat (first | exact up2_s | refine up2_o (by first | decide | omega) ?_)) <;> first | assumption | exact hK.2 _ _ _ rfl) ?_
              refine G_S (pc := 127) f_147_127 rfl rfl rfl ?_
              refine G_S (pc := 128) f_147_128 rfl rfl rfl ?_
              refine G_S (pc := 130) f_147_130 rfl rfl rfl ?_
              refine G_gR (pc := 131) f_147_131 (by decide) rfl (by first | assumption | exact hK.1 _ _ rfl) (by first | assumption | exact hK.2 _ _ _ rfl | (try dsimp only) <;> (repeat (first | exact up2_s | refine up2_o (by first | decide | omega) ?_)) <;> first | assumption | exact hK.2 _ _ _ rfl) ?_
              refine G_CV (pc := 134) f_147_134 rfl rfl (by decide) rfl rfl (by first | assumption | exact hK.1 _ _ rfl) (by decide) ⟨Nat.le_of_ble_eq_true rfl, Nat.le_of_ble_eq_true rfl⟩ ?_
              refine CG.mono (c_putS (E := E) hK z5 (txE_ok hs) hso hm (Nat.le_refl _) (cd5 (hD h0).1) (hD h0).2) ?_
              rintro _ M2 ⟨rfl, f6, c6⟩
              refine G_S (pc := 137) f_147_137 rfl rfl rfl ?_
              refine G_ri (pc := 139) f_147_139 ?_
              exact ⟨rfl, ((f3.X.tr (cX.rd hF)).tr f5.X).tr f6.X, c6, tx (fun z => EOs.of (hD z).1 (hD z).2)⟩
          · exfalso; omega
        · exact absurd b1 (by decide)
      · obtain ⟨m, rfl, ey, -⟩ := nI_tt (x := y) (by omega)
        have em : txN s so (nI m) = m := by unfold txN; rw [if_neg hy, ey, Int.toNat_natCast]
        rw [em]
        have hm : m < s.ct so := by omega
        refine CG_in (mL := 5) (hl := false) (lv := [some (.ref 0), some (.int (nI so)), some (.int (nI m)), none, none]) (ll := []) rfl rfl rfl ?_
        refine G_S (pc := 0) f_147_0 rfl rfl rfl ?_
        refine G_gR (pc := 1) f_147_1 (by decide) rfl (by first | assumption | exact hK.1 _ _ rfl) (by first | assumption | exact hK.2 _ _ _ rfl | (try dsimp only) <;> (repeat (first | exact up2_s | refine up2_o (by first | decide | omega) ?_)) <;> first | assumption | exact hK.2 _ _ _ rfl) ?_
        refine G_gIv (pc := 4) f_147_4 (by decide) rfl (by decide) (by first | assumption | exact hK.1 _ _ rfl) (by first | assumption | exact mI_s | ((refine mI_o (by first | decide | omega) ?_); (repeat (refine mI_o (by first | decide | omega) ?_)); first | exact mI_s | assumption) | rfl) ?_
        refine G_S (pc := 7) f_147_7 rfl rfl rfl ?_
        refine G_S (pc := 8) f_147_8 rfl rfl rfl ?_
        refine G_gR (pc := 9) f_147_9 (by decide) rfl (by first | assumption | exact hK.1 _ _ rfl) (by first | assumption | exact hK.2 _ _ _ rfl | (try dsimp only) <;> (repeat (first | exact up2_s | refine up2_o (by first | decide | omega) ?_)) <;> first | assumption | exact hK.2 _ _ _ rfl) ?_
        refine G_ic (v := nI 0) (pc := 12) f_147_12 (by decide) ?_
        refine G_pI (pc := 13) f_147_13 rfl (by first | assumption | exact hK.1 _ _ rfl) ?_
        refine G_S (pc := 16) f_147_16 rfl rfl rfl ?_
        refine G_gR (pc := 17) f_147_17 (by decide) rfl (by first | assumption | exact hK.1 _ _ rfl) (by first | assumption | exact hK.2 _ _ _ rfl | (try dsimp only) <;> (repeat (first | exact up2_s | refine up2_o (by first | decide | omega) ?_)) <;> first | assumption | exact hK.2 _ _ _ rfl) ?_
        refine G_ic (v := nI 0) (pc := 20) f_147_20 (by decide) ?_
        refine G_pI (pc := 21) f_147_21 rfl (by first | assumption | exact hK.1 _ _ rfl) ?_
        refine G_S (pc := 24) f_147_24 rfl rfl rfl ?_
        refine G_gR (pc := 25) f_147_25 (by decide) rfl (by first | assumption | exact hK.1 _ _ rfl) (by first | assumption | exact hK.2 _ _ _ rfl | (try dsimp only) <;> (repeat (first | exact up2_s | refine up2_o (by first | decide | omega) ?_)) <;> first | assumption | exact hK.2 _ _ _ rfl) ?_
        refine G_ic (v := zI (-1)) (pc := 28) f_147_28 (by decide) ?_
        refine G_pI (pc := 29) f_147_29 rfl (by first | assumption | exact hK.1 _ _ rfl) ?_
        refine G_S (pc := 32) f_147_32 rfl rfl rfl ?_
        refine G_gR (pc := 33) f_147_33 (by decide) rfl (by first | assumption | exact hK.1 _ _ rfl) (by first | assumption | exact hK.2 _ _ _ rfl | (try dsimp only) <;> (repeat (first | exact up2_s | refine up2_o (by first | decide | omega) ?_)) <;> first | assumption | exact hK.2 _ _ _ rfl) ?_
        refine G_S (pc := 36) f_147_36 rfl rfl rfl ?_
        refine G_S (pc := 37) f_147_37 rfl rfl rfl ?_
        refine G_CV (pc := 38) f_147_38 rfl rfl (by decide) rfl rfl (by first | assumption | exact hK.1 _ _ rfl) (by decide) ⟨Nat.le_of_ble_eq_true rfl, Nat.le_of_ble_eq_true rfl⟩ ?_
        refine CG.mono (c_takes (s := txE s (0, 0)) hK z3 (txE_ok hs)) ?_
        rintro _ M0 ⟨rfl, rfl⟩
        rw [b2i_pos ht']
        first | refine G_bNe (pc := 41) f_147_41 rfl (fun b1 => ?_) (fun b1 => ?_) | refine G_zneZ (pc := 41) f_147_41 rfl (by first | exact nI_toInt (by omega) | exact zI_toInt (by omega) (by omega) | rfl) (fun b1 => ?_) (fun b1 => ?_)
        · refine G_S (pc := 47) f_147_47 rfl rfl rfl ?_
          refine G_gR (pc := 48) f_147_48 (by decide) rfl (by first | assumption | exact hK.1 _ _ rfl) (by first | assumption | exact hK.2 _ _ _ rfl | (try dsimp only) <;> (repeat (first | exact up2_s | refine up2_o (by first | decide | omega) ?_)) <;> first | assumption | exact hK.2 _ _ _ rfl) ?_
          refine G_S (pc := 51) f_147_51 rfl rfl rfl ?_
          refine G_gR (pc := 52) f_147_52 (by decide) rfl (by first | assumption | exact hK.1 _ _ rfl) (by first | assumption | exact hK.2 _ _ _ rfl | (try dsimp only) <;> (repeat (first | exact up2_s | refine up2_o (by first | decide | omega) ?_)) <;> first | assumption | exact hK.2 _ _ _ rfl) ?_
          refine G_gR (pc := 55) f_147_55 (by decide) rfl (by first | assumption | exact hK.1 _ _ rfl) (by first | assumption | exact hK.2 _ _ _ rfl | (try dsimp only) <;> (repeat (first | exact up2_s | refine up2_o (by first | decide | omega) ?_)) <;> first | assumption | exact hK.2 _ _ _ rfl) ?_
          refine G_S (pc := 58) f_147_58 rfl rfl rfl ?_
          refine G_S (pc := 59) f_147_59 rfl rfl rfl ?_
          refine G_CV (pc := 60) f_147_60 rfl rfl (by decide) rfl rfl (by first | assumption | exact hK.1 _ _ rfl) (by decide) ⟨Nat.le_of_ble_eq_true rfl, Nat.le_of_ble_eq_true rfl⟩ ?_
          refine CG.mono (c_readS (t := s.tp) hC hK hM hs1 ht0 hso) ?_
          rintro _ M1 ⟨rfl, hF, hf, hD⟩
          have hK := hF.K hK
          have z4 := z3.c1 (txE_ok hs) (fun i hi => (hF.2.2 i (rr_2 i hi)).1)
          rw [hr] at hf hD
          dsimp only at hf hD
          have z5 := (z4.hd (txE_ok hs) (t := s.tp) (m := 0) (f := f) (X := up2 (up2 M1.2.1 1 2 (nI f.1)) 1 3 (plI f)) (fun i hi => by rw [up2_ne hi, up2_ne hi]) (up2_o (by decide) (up2_o (by decide) z4.1.1)) (up2_o (by decide) up2_s) up2_s (fun i hi => absurd hi (Nat.not_lt_zero i)))
          have f5 : FoB 1 M1 (M1.1, up2 (up2 M1.2.1 1 2 (nI f.1)) 1 3 (plI f), M1.2.2.1, M1.2.2.2) := ⟨⟨rfl, rfl⟩, fun i hi => ⟨by dsimp only; rw [up2_ne (by omega), up2_ne (by omega)], rfl⟩⟩
          have g1 := hf.1
          have g2 := hf.2.1
          have hf4 := hf.2.2
          refine G_S (pc := 63) f_147_63 rfl rfl rfl ?_
          refine G_gR (pc := 64) f_147_64 (by decide) rfl (by first | assumption | exact hK.1 _ _ rfl) (by first | assumption | exact hK.2 _ _ _ rfl | (try dsimp only) <;> (repeat (first | exact up2_s | refine up2_o (by first | decide | omega) ?_)) <;> first | assumption | exact hK.2 _ _ _ rfl) ?_
          refine G_S (pc := 67) f_147_67 rfl rfl rfl ?_
          refine G_gR (pc := 68) f_147_68 (by decide) rfl (by first | assumption | exact hK.1 _ _ rfl) (by first | assumption | exact hK.2 _ _ _ rfl | (try dsimp only) <;> (repeat (first | exact up2_s | refine up2_o (by first | decide | omega) ?_)) <;> first | assumption | exact hK.2 _ _ _ rfl) ?_
          refine G_gIv (pc := 71) f_147_71 (by decide) rfl (by decide) (by first | assumption | exact hK.1 _ _ rfl) (g1) ?_
          refine G_pI (pc := 74) f_147_74 rfl (by first | assumption | exact hK.1 _ _ rfl) ?_
          refine G_S (pc := 77) f_147_77 rfl rfl rfl ?_
          refine G_gR (pc := 78) f_147_78 (by decide) rfl (by first | assumption | exact hK.1 _ _ rfl) (by first | assumption | exact hK.2 _ _ _ rfl | (try dsimp only) <;> (repeat (first | exact up2_s | refine up2_o (by first | decide | omega) ?_)) <;> first | assumption | exact hK.2 _ _ _ rfl) ?_
          refine G_S (pc := 81) f_147_81 rfl rfl rfl ?_
          refine G_gR (pc := 82) f_147_82 (by decide) rfl (by first | assumption | exact hK.1 _ _ rfl) (by first | assumption | exact hK.2 _ _ _ rfl | (try dsimp only) <;> (repeat (first | exact up2_s | refine up2_o (by first | decide | omega) ?_)) <;> first | assumption | exact hK.2 _ _ _ rfl) ?_
          refine G_gIv (pc := 85) f_147_85 (by decide) rfl (by decide) (by first | assumption | exact hK.1 _ _ rfl) ((mI_o (by omega) g2)) ?_
          refine G_pI (pc := 88) f_147_88 rfl (by first | assumption | exact hK.1 _ _ rfl) ?_
          refine G_S (pc := 91) f_147_91 rfl rfl rfl ?_
          refine G_gR (pc := 92) f_147_92 (by decide) rfl (by first | assumption | exact hK.1 _ _ rfl) (by first | assumption | exact hK.2 _ _ _ rfl | (try dsimp only) <;> (repeat (first | exact up2_s | refine up2_o (by first | decide | omega) ?_)) <;> first | assumption | exact hK.2 _ _ _ rfl) ?_
          refine G_gIv (pc := 95) f_147_95 (by decide) rfl (by decide) (by first | assumption | exact hK.1 _ _ rfl) ((mI_o (by omega) (mI_o (by omega) g1))) ?_
          first | refine G_bEq (pc := 98) f_147_98 rfl (fun b2 => ?_) (fun b2 => ?_) | refine G_zeqZ (pc := 98) f_147_98 rfl (by first | exact nI_toInt (by omega) | exact zI_toInt (by omega) (by omega) | rfl) (fun b2 => ?_) (fun b2 => ?_)
          · refine G_S (pc := 103) f_147_103 rfl rfl rfl ?_
            refine G_ic (v := zI (-1)) (pc := 104) f_147_104 (by decide) ?_
            refine G_jneZ (pc := 105) f_147_105 rfl (by first | exact nI_toInt (by omega) | exact zI_toInt (by omega) (by omega) | rfl) (by first | exact nI_toInt (by omega) | exact zI_toInt (by omega) (by omega) | rfl) (fun b3 => ?_) (fun b3 => ?_)
            · refine G_S (pc := 120) f_147_120 rfl rfl rfl ?_
              refine G_S (pc := 121) f_147_121 rfl rfl rfl ?_
              refine G_S (pc := 123) f_147_123 rfl rfl rfl ?_
              refine G_gR (pc := 124) f_147_124 (by decide) rfl (by first | assumption | exact hK.1 _ _ rfl) (by first | assumption | exact hK.2 _ _ _ rfl | (try dsimp only) <;> (repeat (first | exact up2_s | refine up2_o (by first | decide | omega) ?_)) <;> first | assumption | exact hK.2 _ _ _ rfl) ?_
              refine G_S (pc := 127) f_147_127 rfl rfl rfl ?_
              refine G_S (pc := 128) f_147_128 rfl rfl rfl ?_
              refine G_S (pc := 130) f_147_130 rfl rfl rfl ?_
              refine G_gR (pc := 131) f_147_131 (by decide) rfl (by first | assumption | exact hK.1 _ _ rfl) (by first | assumption | exact hK.2 _ _ _ rfl | (try dsimp only) <;> (repeat (first | exact up2_s | refine up2_o (by first | decide | omega) ?_)) <;> first | assumption | exact hK.2 _ _ _ rfl) ?_
              refine G_CV (pc := 134) f_147_134 rfl rfl (by decide) rfl rfl (by first | assumption | exact hK.1 _ _ rfl) (by decide) ⟨Nat.le_of_ble_eq_true rfl, Nat.le_of_ble_eq_true rfl⟩ ?_
              refine CG.mono (c_putS (E := E) hK z5 (txE_ok hs) hso (by omega) (Nat.le_of_lt hm) (cd5 (hD h0).1) (hD h0).2) ?_
              rintro _ M2 ⟨rfl, f6, c6⟩
              refine G_S (pc := 137) f_147_137 rfl rfl rfl ?_
              refine G_ri (pc := 139) f_147_139 ?_
              exact ⟨rfl, ((f3.X.tr (cX.rd hF)).tr f5.X).tr f6.X, c6, tx (fun z => EOs.of (hD z).1 (hD z).2)⟩
            · exfalso; omega
          · exfalso; omega
        · exact absurd b1 (by decide)
    · rw [if_neg h0]
      refine CG_in (mL := 5) (hl := false) (lv := [some (.ref 0), some (.int (nI so)), some (.int y), none, none]) (ll := []) rfl rfl rfl ?_
      refine G_S (pc := 0) f_147_0 rfl rfl rfl ?_
      refine G_gR (pc := 1) f_147_1 (by decide) rfl (by first | assumption | exact hK.1 _ _ rfl) (by first | assumption | exact hK.2 _ _ _ rfl | (try dsimp only) <;> (repeat (first | exact up2_s | refine up2_o (by first | decide | omega) ?_)) <;> first | assumption | exact hK.2 _ _ _ rfl) ?_
      refine G_gIv (pc := 4) f_147_4 (by decide) rfl (by decide) (by first | assumption | exact hK.1 _ _ rfl) (by first | assumption | exact mI_s | ((refine mI_o (by first | decide | omega) ?_); (repeat (refine mI_o (by first | decide | omega) ?_)); first | exact mI_s | assumption) | rfl) ?_
      refine G_S (pc := 7) f_147_7 rfl rfl rfl ?_
      refine G_S (pc := 8) f_147_8 rfl rfl rfl ?_
      refine G_gR (pc := 9) f_147_9 (by decide) rfl (by first | assumption | exact hK.1 _ _ rfl) (by first | assumption | exact hK.2 _ _ _ rfl | (try dsimp only) <;> (repeat (first | exact up2_s | refine up2_o (by first | decide | omega) ?_)) <;> first | assumption | exact hK.2 _ _ _ rfl) ?_
      refine G_ic (v := nI 0) (pc := 12) f_147_12 (by decide) ?_
      refine G_pI (pc := 13) f_147_13 rfl (by first | assumption | exact hK.1 _ _ rfl) ?_
      refine G_S (pc := 16) f_147_16 rfl rfl rfl ?_
      refine G_gR (pc := 17) f_147_17 (by decide) rfl (by first | assumption | exact hK.1 _ _ rfl) (by first | assumption | exact hK.2 _ _ _ rfl | (try dsimp only) <;> (repeat (first | exact up2_s | refine up2_o (by first | decide | omega) ?_)) <;> first | assumption | exact hK.2 _ _ _ rfl) ?_
      refine G_ic (v := nI 0) (pc := 20) f_147_20 (by decide) ?_
      refine G_pI (pc := 21) f_147_21 rfl (by first | assumption | exact hK.1 _ _ rfl) ?_
      refine G_S (pc := 24) f_147_24 rfl rfl rfl ?_
      refine G_gR (pc := 25) f_147_25 (by decide) rfl (by first | assumption | exact hK.1 _ _ rfl) (by first | assumption | exact hK.2 _ _ _ rfl | (try dsimp only) <;> (repeat (first | exact up2_s | refine up2_o (by first | decide | omega) ?_)) <;> first | assumption | exact hK.2 _ _ _ rfl) ?_
      refine G_ic (v := zI (-1)) (pc := 28) f_147_28 (by decide) ?_
      refine G_pI (pc := 29) f_147_29 rfl (by first | assumption | exact hK.1 _ _ rfl) ?_
      refine G_S (pc := 32) f_147_32 rfl rfl rfl ?_
      refine G_gR (pc := 33) f_147_33 (by decide) rfl (by first | assumption | exact hK.1 _ _ rfl) (by first | assumption | exact hK.2 _ _ _ rfl | (try dsimp only) <;> (repeat (first | exact up2_s | refine up2_o (by first | decide | omega) ?_)) <;> first | assumption | exact hK.2 _ _ _ rfl) ?_
      refine G_S (pc := 36) f_147_36 rfl rfl rfl ?_
      refine G_S (pc := 37) f_147_37 rfl rfl rfl ?_
      refine G_CV (pc := 38) f_147_38 rfl rfl (by decide) rfl rfl (by first | assumption | exact hK.1 _ _ rfl) (by decide) ⟨Nat.le_of_ble_eq_true rfl, Nat.le_of_ble_eq_true rfl⟩ ?_
      refine CG.mono (c_takes (s := txE s (0, 0)) hK z3 (txE_ok hs)) ?_
      rintro _ M0 ⟨rfl, rfl⟩
      rw [b2i_pos ht']
      first | refine G_bNe (pc := 41) f_147_41 rfl (fun b1 => ?_) (fun b1 => ?_) | refine G_zneZ (pc := 41) f_147_41 rfl (by first | exact nI_toInt (by omega) | exact zI_toInt (by omega) (by omega) | rfl) (fun b1 => ?_) (fun b1 => ?_)
      · refine G_S (pc := 47) f_147_47 rfl rfl rfl ?_
        refine G_gR (pc := 48) f_147_48 (by decide) rfl (by first | assumption | exact hK.1 _ _ rfl) (by first | assumption | exact hK.2 _ _ _ rfl | (try dsimp only) <;> (repeat (first | exact up2_s | refine up2_o (by first | decide | omega) ?_)) <;> first | assumption | exact hK.2 _ _ _ rfl) ?_
        refine G_S (pc := 51) f_147_51 rfl rfl rfl ?_
        refine G_gR (pc := 52) f_147_52 (by decide) rfl (by first | assumption | exact hK.1 _ _ rfl) (by first | assumption | exact hK.2 _ _ _ rfl | (try dsimp only) <;> (repeat (first | exact up2_s | refine up2_o (by first | decide | omega) ?_)) <;> first | assumption | exact hK.2 _ _ _ rfl) ?_
        refine G_gR (pc := 55) f_147_55 (by decide) rfl (by first | assumption | exact hK.1 _ _ rfl) (by first | assumption | exact hK.2 _ _ _ rfl | (try dsimp only) <;> (repeat (first | exact up2_s | refine up2_o (by first | decide | omega) ?_)) <;> first | assumption | exact hK.2 _ _ _ rfl) ?_
        refine G_S (pc := 58) f_147_58 rfl rfl rfl ?_
        refine G_S (pc := 59) f_147_59 rfl rfl rfl ?_
        refine G_CV (pc := 60) f_147_60 rfl rfl (by decide) rfl rfl (by first | assumption | exact hK.1 _ _ rfl) (by decide) ⟨Nat.le_of_ble_eq_true rfl, Nat.le_of_ble_eq_true rfl⟩ ?_
        refine CG.mono (c_readS (t := s.tp) hC hK hM hs1 ht0 hso) ?_
        rintro _ M1 ⟨rfl, hF, hf, hD⟩
        have hK := hF.K hK
        have z4 := z3.c1 (txE_ok hs) (fun i hi => (hF.2.2 i (rr_2 i hi)).1)
        rw [hr] at hf hD
        dsimp only at hf hD
        have z5 := (z4.hd (txE_ok hs) (t := s.tp) (m := 0) (f := f) (X := up2 (up2 M1.2.1 1 2 (nI f.1)) 1 3 (plI f)) (fun i hi => by rw [up2_ne hi, up2_ne hi]) (up2_o (by decide) (up2_o (by decide) z4.1.1)) (up2_o (by decide) up2_s) up2_s (fun i hi => absurd hi (Nat.not_lt_zero i)))
        have f5 : FoB 1 M1 (M1.1, up2 (up2 M1.2.1 1 2 (nI f.1)) 1 3 (plI f), M1.2.2.1, M1.2.2.2) := ⟨⟨rfl, rfl⟩, fun i hi => ⟨by dsimp only; rw [up2_ne (by omega), up2_ne (by omega)], rfl⟩⟩
        have g1 := hf.1
        have g2 := hf.2.1
        have hf4 := hf.2.2
        refine G_S (pc := 63) f_147_63 rfl rfl rfl ?_
        refine G_gR (pc := 64) f_147_64 (by decide) rfl (by first | assumption | exact hK.1 _ _ rfl) (by first | assumption | exact hK.2 _ _ _ rfl | (try dsimp only) <;> (repeat (first | exact up2_s | refine up2_o (by first | decide | omega) ?_)) <;> first | assumption | exact hK.2 _ _ _ rfl) ?_
        refine G_S (pc := 67) f_147_67 rfl rfl rfl ?_
        refine G_gR (pc := 68) f_147_68 (by decide) rfl (by first | assumption | exact hK.1 _ _ rfl) (by first | assumption | exact hK.2 _ _ _ rfl | (try dsimp only) <;> (repeat (first | exact up2_s | refine up2_o (by first | decide | omega) ?_)) <;> first | assumption | exact hK.2 _ _ _ rfl) ?_
        refine G_gIv (pc := 71) f_147_71 (by decide) rfl (by decide) (by first | assumption | exact hK.1 _ _ rfl) (g1) ?_
        refine G_pI (pc := 74) f_147_74 rfl (by first | assumption | exact hK.1 _ _ rfl) ?_
        refine G_S (pc := 77) f_147_77 rfl rfl rfl ?_
        refine G_gR (pc := 78) f_147_78 (by decide) rfl (by first | assumption | exact hK.1 _ _ rfl) (by first | assumption | exact hK.2 _ _ _ rfl | (try dsimp only) <;> (repeat (first | exact up2_s | refine up2_o (by first | decide | omega) ?_)) <;> first | assumption | exact hK.2 _ _ _ rfl) ?_
        refine G_S (pc := 81) f_147_81 rfl rfl rfl ?_
        refine G_gR (pc := 82) f_147_82 (by decide) rfl (by first | assumption | exact hK.1 _ _ rfl) (by first | assumption | exact hK.2 _ _ _ rfl | (try dsimp only) <;> (repeat (first | exact up2_s | refine up2_o (by first | decide | omega) ?_)) <;> first | assumption | exact hK.2 _ _ _ rfl) ?_
        refine G_gIv (pc := 85) f_147_85 (by decide) rfl (by decide) (by first | assumption | exact hK.1 _ _ rfl) ((mI_o (by omega) g2)) ?_
        refine G_pI (pc := 88) f_147_88 rfl (by first | assumption | exact hK.1 _ _ rfl) ?_
        refine G_S (pc := 91) f_147_91 rfl rfl rfl ?_
        refine G_gR (pc := 92) f_147_92 (by decide) rfl (by first | assumption | exact hK.1 _ _ rfl) (by first | assumption | exact hK.2 _ _ _ rfl | (try dsimp only) <;> (repeat (first | exact up2_s | refine up2_o (by first | decide | omega) ?_)) <;> first | assumption | exact hK.2 _ _ _ rfl) ?_
        refine G_gIv (pc := 95) f_147_95 (by decide) rfl (by decide) (by first | assumption | exact hK.1 _ _ rfl) ((mI_o (by omega) (mI_o (by omega) g1))) ?_
        first | refine G_bEq (pc := 98) f_147_98 rfl (fun b2 => ?_) (fun b2 => ?_) | refine G_zeqZ (pc := 98) f_147_98 rfl (by first | exact nI_toInt (by omega) | exact zI_toInt (by omega) (by omega) | rfl) (fun b2 => ?_) (fun b2 => ?_)
        · exfalso; omega
        · refine G_ic (v := zI (-1)) (pc := 101) f_147_101 (by decide) ?_
          refine G_ri (pc := 102) f_147_102 ?_
          exact ⟨rfl, (f3.X.tr (cX.rd hF)).tr f5.X, z5, tx (fun z => absurd z h0)⟩
      · exact absurd b1 (by decide)
  · have e : txF s x y = (zI (-2), txE s (0, 0)) := if_neg ht
    rw [e]
    have ht' : ¬ tkQ (txE s (0, 0)) x y = true := ht
    refine CG_in (mL := 5) (hl := false) (lv := [some (.ref 0), some (.int x), some (.int y), none, none]) (ll := []) rfl rfl rfl ?_
    refine G_S (pc := 0) f_147_0 rfl rfl rfl ?_
    refine G_gR (pc := 1) f_147_1 (by decide) rfl (by first | assumption | exact hK.1 _ _ rfl) (by first | assumption | exact hK.2 _ _ _ rfl | (try dsimp only) <;> (repeat (first | exact up2_s | refine up2_o (by first | decide | omega) ?_)) <;> first | assumption | exact hK.2 _ _ _ rfl) ?_
    refine G_gIv (pc := 4) f_147_4 (by decide) rfl (by decide) (by first | assumption | exact hK.1 _ _ rfl) (by first | assumption | exact mI_s | ((refine mI_o (by first | decide | omega) ?_); (repeat (refine mI_o (by first | decide | omega) ?_)); first | exact mI_s | assumption) | rfl) ?_
    refine G_S (pc := 7) f_147_7 rfl rfl rfl ?_
    refine G_S (pc := 8) f_147_8 rfl rfl rfl ?_
    refine G_gR (pc := 9) f_147_9 (by decide) rfl (by first | assumption | exact hK.1 _ _ rfl) (by first | assumption | exact hK.2 _ _ _ rfl | (try dsimp only) <;> (repeat (first | exact up2_s | refine up2_o (by first | decide | omega) ?_)) <;> first | assumption | exact hK.2 _ _ _ rfl) ?_
    refine G_ic (v := nI 0) (pc := 12) f_147_12 (by decide) ?_
    refine G_pI (pc := 13) f_147_13 rfl (by first | assumption | exact hK.1 _ _ rfl) ?_
    refine G_S (pc := 16) f_147_16 rfl rfl rfl ?_
    refine G_gR (pc := 17) f_147_17 (by decide) rfl (by first | assumption | exact hK.1 _ _ rfl) (by first | assumption | exact hK.2 _ _ _ rfl | (try dsimp only) <;> (repeat (first | exact up2_s | refine up2_o (by first | decide | omega) ?_)) <;> first | assumption | exact hK.2 _ _ _ rfl) ?_
    refine G_ic (v := nI 0) (pc := 20) f_147_20 (by decide) ?_
    refine G_pI (pc := 21) f_147_21 rfl (by first | assumption | exact hK.1 _ _ rfl) ?_
    refine G_S (pc := 24) f_147_24 rfl rfl rfl ?_
    refine G_gR (pc := 25) f_147_25 (by decide) rfl (by first | assumption | exact hK.1 _ _ rfl) (by first | assumption | exact hK.2 _ _ _ rfl | (try dsimp only) <;> (repeat (first | exact up2_s | refine up2_o (by first | decide | omega) ?_)) <;> first | assumption | exact hK.2 _ _ _ rfl) ?_
    refine G_ic (v := zI (-1)) (pc := 28) f_147_28 (by decide) ?_
    refine G_pI (pc := 29) f_147_29 rfl (by first | assumption | exact hK.1 _ _ rfl) ?_
    refine G_S (pc := 32) f_147_32 rfl rfl rfl ?_
    refine G_gR (pc := 33) f_147_33 (by decide) rfl (by first | assumption | exact hK.1 _ _ rfl) (by first | assumption | exact hK.2 _ _ _ rfl | (try dsimp only) <;> (repeat (first | exact up2_s | refine up2_o (by first | decide | omega) ?_)) <;> first | assumption | exact hK.2 _ _ _ rfl) ?_
    refine G_S (pc := 36) f_147_36 rfl rfl rfl ?_
    refine G_S (pc := 37) f_147_37 rfl rfl rfl ?_
    refine G_CV (pc := 38) f_147_38 rfl rfl (by decide) rfl rfl (by first | assumption | exact hK.1 _ _ rfl) (by decide) ⟨Nat.le_of_ble_eq_true rfl, Nat.le_of_ble_eq_true rfl⟩ ?_
    refine CG.mono (c_takes (s := txE s (0, 0)) hK z3 (txE_ok hs)) ?_
    rintro _ M1 ⟨rfl, rfl⟩
    rw [b2i_neg ht']
    first | refine G_bNe (pc := 41) f_147_41 rfl (fun b1 => ?_) (fun b1 => ?_) | refine G_zneZ (pc := 41) f_147_41 rfl (by first | exact nI_toInt (by omega) | exact zI_toInt (by omega) (by omega) | rfl) (fun b1 => ?_) (fun b1 => ?_)
    · exact absurd rfl b1
    · refine G_bi (v := zI (-2)) (pc := 44) f_147_44 (by decide) ?_
      refine G_ri (pc := 46) f_147_46 ?_
      exact ⟨rfl, f3.X, z3, fun z => absurd z ht⟩
end CTX
