/-! the reference reads a text: the whole -/
theorem ps_inv {t : Nat → Int} {n so : Nat} (hs : so < 4) : ∀ k E T f p q, p ≤ n → n - p < k → EBd so E → T < 128 → (f.1 = 0 → so = 3 → 1 ≤ E 0 ∧ E 0 ≤ 4) → psF t n so k E T f p = .inr q → tkK t n q.1 = 0 ∧ q.2.2.2 < 128 ∧ (q.2.1.1 = 0 → so = 3 → 1 ≤ q.2.2.1 0 ∧ q.2.2.1 0 ≤ 4) ∧ q.1 ≤ n
  | 0, E, T, f, p, q, hp, hk, _, _, _, _ => absurd hk (by omega)
  | k + 1, E, T, f, p, q, hp, hk, hE, hT, h3, h => by
    rw [psF_s] at h
    by_cases h0 : tkK t n p = 0
    · rw [if_pos h0] at h
      cases h
      exact ⟨h0, hT, h3, hp⟩
    · rw [if_neg h0] at h
      have hx := tk_nx hp h0
      cases hr : lfF t n so E T f p with
      | inl e =>
        rw [hr] at h
        cases h
      | inr r =>
        rw [hr] at h
        have hlt := lf_lt hp h0 hr
        have keepE : EBd so r.2.2.1 ∧ r.2.2.2 < 128 ∧ (r.2.1.1 = 0 → so = 3 → 1 ≤ r.2.2.1 0 ∧ r.2.2.1 0 ≤ 4) ∧ r.1 ≤ n := by
          unfold lfF at hr
          cases hg : fmH t n so p with
          | none =>
            rw [hg] at hr
            cases hr
          | some g =>
            rw [hg] at hr
            obtain ⟨y1, y2, _, _⟩ := fmH_lt hs hg
            have hh := ln_eb hs y1 y2 hE hT hx.2.2 (fun z => h3 (nt_0 (by decide) z).1) hr
            refine ⟨hh.1, hh.2.1, hh.2.2, ?_⟩
            dsimp only at hr
            unfold lnS at hr
            cases hk : kdS t n g (tkR t n p) with
            | inl e =>
              rw [hk] at hr
              cases hr
            | inr pk =>
              rw [hk] at hr
              dsimp only at hr
              have h2 := kdS_b hx.2.2 hk
              cases hm : nmS t n g (fmN g 1) 0 pk.1 (nt f (fulB g E) 3 (skp t n p)) with
              | inl e =>
                rw [hm] at hr
                cases hr
              | inr pf =>
                rw [hm] at hr
                cases hr
                exact (nmS_b _ _ _ _ _ h2.2.1 hm).2
        by_cases hsem : tkK t n r.1 = 3
        · have esc : scF t n (.inr r) = .inr (tkR t n r.1, r.2) := if_pos hsem
          rw [esc] at h
          have hx3 := tk_nx keepE.2.2.2 (show tkK t n r.1 ≠ 0 by omega)
          exact ps_inv hs k _ _ _ _ q hx3.2.2 (by show n - tkR t n r.1 < k; omega) keepE.1 keepE.2.1 keepE.2.2.1 h
        · have esc : scF t n (.inr r) = .inl (skp t n r.1) := if_neg hsem
          rw [esc] at h
          cases h
section MRX
variable {C : Ct} {M : Mm} {t : Nat → Int} {n so : Nat}
def bl0 (i k : Nat) (j : Nat) : Int := if j = 1 then 4 else if 27 ≤ j ∧ j < 27 + i then 1 else if 31 ≤ j ∧ j < 31 + k then (j : Int) - 30 else 0
theorem m_blank (hK : KM M.1 M.2.2.2) (hs : so < 4) : CG C 219 [.ref 98, .int (nI so)] M (fun w M' => w = none ∧ Fw [108] [] M M' ∧ TDm M' (E0 so)) := by
  have loop3 : so = 0 → ∀ i, i ≤ 8 → ∀ M1, Fw [108] [] M M1 → TDm M1 (bl0 4 i) → G C 219 (57, [some (.ref 98), some (.int (nI so)), some (.int (nI i))], [], [], M1) (fun w M' => w = none ∧ Fw [108] [] M M' ∧ TDm M' (E0 so)) := by
    intro h0
    refine upto (fun i hi ih M1 hF hD => ?_)
    have hK := hF.1.K hK
    refine G_S (pc := 57) f_219_57 rfl rfl rfl ?_
    refine G_bi (v := nI 8) (pc := 58) f_219_58 (by decide) ?_
    refine G_jgeZ (pc := 60) f_219_60 rfl (by first | exact nI_toInt (by omega) | exact zI_toInt (by omega) (by omega) | rfl) (by first | exact nI_toInt (by omega) | exact zI_toInt (by omega) (by omega) | rfl) (fun b4 => ?_) (fun b4 => ?_)
    · refine G_S (pc := 81) f_219_81 rfl rfl rfl ?_
      refine G_ic (v := nI 1) (pc := 82) f_219_82 (by decide) ?_
      refine G_jleZ (pc := 83) f_219_83 rfl (by first | exact nI_toInt (by omega) | exact zI_toInt (by omega) (by omega) | rfl) (by first | exact nI_toInt (by omega) | exact zI_toInt (by omega) (by omega) | rfl) (fun b5 => ?_) (fun b5 => ?_)
      · refine G_rv (pc := 103) f_219_103 ?_
        refine ⟨rfl, hF, fun j hj => ?_⟩
        rw [hD j hj, show i = 8 by omega, h0]
        congr 1
      · exfalso; omega
    · refine G_S (pc := 63) f_219_63 rfl rfl rfl ?_
      refine G_gR (pc := 64) f_219_64 (by decide) rfl (by first | assumption | exact hK.1 _ _ rfl) (by first | assumption | exact hK.2 _ _ _ rfl | (try dsimp only) <;> (repeat (first | exact up2_s | refine up2_o (by first | decide | omega) ?_)) <;> first | assumption | exact hK.2 _ _ _ rfl) ?_
      refine G_bi (v := nI 31) (pc := 67) f_219_67 (by decide) ?_
      refine G_S (pc := 69) f_219_69 rfl rfl rfl ?_
      first | refine G_addN (pc := 70) f_219_70 ?_ | refine G_addZ (pc := 70) f_219_70 (by first | rfl | exact nI_zI _) (by first | rfl | exact nI_zI _) ?_ | refine G_S (pc := 70) f_219_70 rfl rfl rfl ?_
      refine G_S (pc := 71) f_219_71 rfl rfl rfl ?_
      refine G_ic (v := nI 1) (pc := 72) f_219_72 (by decide) ?_
      first | refine G_addN (pc := 73) f_219_73 ?_ | refine G_addZ (pc := 73) f_219_73 (by first | rfl | exact nI_zI _) (by first | rfl | exact nI_zI _) ?_ | refine G_S (pc := 73) f_219_73 rfl rfl rfl ?_
      refine G_isN (pc := 74) f_219_74 (by first | assumption | exact hK.1 _ _ rfl) (by omega) (by omega) ?_
      first | refine G_inc1 (pc := 75) f_219_75 rfl ?_ | refine G_S (pc := 75) f_219_75 rfl rfl rfl ?_
      refine G_S (pc := 78) f_219_78 rfl rfl rfl ?_
      refine ih (by omega) _ (hF.tr (Fw.up (i := 108) (k := 31 + i) (x := nI (i + 1)) (by decide) (by decide))) (fun j hj => ?_)
      by_cases q : j = 31 + i
      · subst q
        rw [show bl0 4 (i + 1) (31 + i) = ((i + 1 : Nat) : Int) by unfold bl0; rw [if_neg (by omega), if_neg (by omega), if_pos (by omega)]; omega, ← nI_zI]
        exact (by (try dsimp only); exact up2_s)
      · rw [show bl0 4 (i + 1) j = bl0 4 i j by
          unfold bl0
          by_cases a : j = 1
          · rw [if_pos a, if_pos a]
          · rw [if_neg a, if_neg a]
            by_cases b : 27 ≤ j ∧ j < 27 + 4
            · rw [if_pos b, if_pos b]
            · rw [if_neg b, if_neg b]
              by_cases c : 31 ≤ j ∧ j < 31 + i
              · rw [if_pos c, if_pos (by omega)]
              · rw [if_neg c, if_neg (by omega)]]
        exact (by (try dsimp only); exact up2_o (by omega) (hD j hj))
  have loop2 : so = 0 → ∀ i, i ≤ 4 → ∀ M1, Fw [108] [] M M1 → TDm M1 (bl0 i 0) → G C 219 (34, [some (.ref 98), some (.int (nI so)), some (.int (nI i))], [], [], M1) (fun w M' => w = none ∧ Fw [108] [] M M' ∧ TDm M' (E0 so)) := by
    intro h0
    refine upto (fun i hi ih M1 hF hD => ?_)
    have hK := hF.1.K hK
    refine G_S (pc := 34) f_219_34 rfl rfl rfl ?_
    refine G_ic (v := nI 4) (pc := 35) f_219_35 (by decide) ?_
    refine G_jgeZ (pc := 36) f_219_36 rfl (by first | exact nI_toInt (by omega) | exact zI_toInt (by omega) (by omega) | rfl) (by first | exact nI_toInt (by omega) | exact zI_toInt (by omega) (by omega) | rfl) (fun b3 => ?_) (fun b3 => ?_)
    · refine G_ic (v := nI 0) (pc := 55) f_219_55 (by decide) ?_
      refine G_S (pc := 56) f_219_56 rfl rfl rfl ?_
      rw [show i = 4 by omega] at hD
      exact loop3 h0 0 (Nat.zero_le _) M1 hF hD
    · refine G_S (pc := 39) f_219_39 rfl rfl rfl ?_
      refine G_gR (pc := 40) f_219_40 (by decide) rfl (by first | assumption | exact hK.1 _ _ rfl) (by first | assumption | exact hK.2 _ _ _ rfl | (try dsimp only) <;> (repeat (first | exact up2_s | refine up2_o (by first | decide | omega) ?_)) <;> first | assumption | exact hK.2 _ _ _ rfl) ?_
      refine G_bi (v := nI 27) (pc := 43) f_219_43 (by decide) ?_
      refine G_S (pc := 45) f_219_45 rfl rfl rfl ?_
      first | refine G_addN (pc := 46) f_219_46 ?_ | refine G_addZ (pc := 46) f_219_46 (by first | rfl | exact nI_zI _) (by first | rfl | exact nI_zI _) ?_ | refine G_S (pc := 46) f_219_46 rfl rfl rfl ?_
      refine G_ic (v := nI 1) (pc := 47) f_219_47 (by decide) ?_
      refine G_isN (pc := 48) f_219_48 (by first | assumption | exact hK.1 _ _ rfl) (by omega) (by omega) ?_
      first | refine G_inc1 (pc := 49) f_219_49 rfl ?_ | refine G_S (pc := 49) f_219_49 rfl rfl rfl ?_
      refine G_S (pc := 52) f_219_52 rfl rfl rfl ?_
      refine ih (by omega) _ (hF.tr (Fw.up (i := 108) (k := 27 + i) (x := nI 1) (by decide) (by decide))) (fun j hj => ?_)
      by_cases q : j = 27 + i
      · subst q
        rw [show bl0 (i + 1) 0 (27 + i) = 1 by unfold bl0; rw [if_neg (by omega), if_pos (by omega)]]
        exact (by (try dsimp only); exact up2_s)
      · rw [show bl0 (i + 1) 0 j = bl0 i 0 j by
          unfold bl0
          by_cases a : j = 1
          · rw [if_pos a, if_pos a]
          · rw [if_neg a, if_neg a]
            by_cases b : 27 ≤ j ∧ j < 27 + i
            · rw [if_pos b, if_pos (by omega)]
            · rw [if_neg b, if_neg (by omega)]]
        exact (by (try dsimp only); exact up2_o (by omega) (hD j hj))
  have loop1 : ∀ i, i ≤ 121 → ∀ M1, Fw [108] [] M M1 → (∀ j, j < i → M1.2.1 108 j = nI 0) → G C 219 (2, [some (.ref 98), some (.int (nI so)), some (.int (nI i))], [], [], M1) (fun w M' => w = none ∧ Fw [108] [] M M' ∧ TDm M' (E0 so)) := by
    refine upto (fun i hi ih M1 hF hD => ?_)
    have hK := hF.1.K hK
    refine G_S (pc := 2) f_219_2 rfl rfl rfl ?_
    refine G_bi (v := nI 121) (pc := 3) f_219_3 (by decide) ?_
    refine G_jgeZ (pc := 5) f_219_5 rfl (by first | exact nI_toInt (by omega) | exact zI_toInt (by omega) (by omega) | rfl) (by first | exact nI_toInt (by omega) | exact zI_toInt (by omega) (by omega) | rfl) (fun b1 => ?_) (fun b1 => ?_)
    · refine G_S (pc := 21) f_219_21 rfl rfl rfl ?_
      first | refine G_bNe (pc := 22) f_219_22 rfl (fun b2 => ?_) (fun b2 => ?_) | refine G_zneZ (pc := 22) f_219_22 rfl (by first | exact nI_toInt (by omega) | exact zI_toInt (by omega) (by omega) | rfl) (fun b2 => ?_) (fun b2 => ?_)
      · refine G_S (pc := 81) f_219_81 rfl rfl rfl ?_
        refine G_ic (v := nI 1) (pc := 82) f_219_82 (by decide) ?_
        refine G_jleZ (pc := 83) f_219_83 rfl (by first | exact nI_toInt (by omega) | exact zI_toInt (by omega) (by omega) | rfl) (by first | exact nI_toInt (by omega) | exact zI_toInt (by omega) (by omega) | rfl) (fun b5 => ?_) (fun b5 => ?_)
        · refine G_rv (pc := 103) f_219_103 ?_
          first
            | (refine ⟨rfl, hF, fun j hj => ?_⟩
               rw [hD j (by omega), show E0 so j = 0 by unfold E0; rw [if_neg (by omega), if_neg (by omega), if_neg (by omega)]]
               rfl)
            | (refine ⟨rfl, hF.tr (Fw.up (i := 108) (k := 0) (x := nI 10) (by decide) (by decide)), fun j hj => ?_⟩
               have h2 : so = 2 := by omega
               by_cases q : j = 0
               · subst q
                 rw [show E0 so 0 = 10 by rw [h2]; rfl]
                 exact (by (try dsimp only); exact up2_s)
               · rw [show E0 so j = 0 by unfold E0; rw [if_neg (by omega), if_pos h2, if_neg q]]
                 exact (by (try dsimp only); exact up2_o (by omega) (hD j (by omega))))
            | (refine ⟨rfl, hF.tr (Fw.up (i := 108) (k := 0) (x := nI 2) (by decide) (by decide)), fun j hj => ?_⟩
               have h2 : so = 3 := by omega
               by_cases q : j = 0
               · subst q
                 rw [show E0 so 0 = 2 by rw [h2]; rfl]
                 exact (by (try dsimp only); exact up2_s)
               · rw [show E0 so j = 0 by unfold E0; rw [if_neg (by omega), if_neg (by omega), if_pos h2, if_neg q]]
                 exact (by (try dsimp only); exact up2_o (by omega) (hD j (by omega))))
        · refine G_S (pc := 86) f_219_86 rfl rfl rfl ?_
          refine G_gR (pc := 87) f_219_87 (by decide) rfl (by first | assumption | exact hK.1 _ _ rfl) (by first | assumption | exact hK.2 _ _ _ rfl | (try dsimp only) <;> (repeat (first | exact up2_s | refine up2_o (by first | decide | omega) ?_)) <;> first | assumption | exact hK.2 _ _ _ rfl) ?_
          refine G_ic (v := nI 0) (pc := 90) f_219_90 (by decide) ?_
          refine G_S (pc := 91) f_219_91 rfl rfl rfl ?_
          refine G_ic (v := nI 2) (pc := 92) f_219_92 (by decide) ?_
          refine G_jneZ (pc := 93) f_219_93 rfl (by first | exact nI_toInt (by omega) | exact zI_toInt (by omega) (by omega) | rfl) (by first | exact nI_toInt (by omega) | exact zI_toInt (by omega) (by omega) | rfl) (fun b6 => ?_) (fun b6 => ?_)
          · refine G_ic (v := nI 2) (pc := 101) f_219_101 (by decide) ?_
            refine G_isN (pc := 102) f_219_102 (by first | assumption | exact hK.1 _ _ rfl) (by omega) (by omega) ?_
            refine G_rv (pc := 103) f_219_103 ?_
            first
              | (refine ⟨rfl, hF, fun j hj => ?_⟩
                 rw [hD j (by omega), show E0 so j = 0 by unfold E0; rw [if_neg (by omega), if_neg (by omega), if_neg (by omega)]]
                 rfl)
              | (refine ⟨rfl, hF.tr (Fw.up (i := 108) (k := 0) (x := nI 10) (by decide) (by decide)), fun j hj => ?_⟩
                 have h2 : so = 2 := by omega
                 by_cases q : j = 0
                 · subst q
                   rw [show E0 so 0 = 10 by rw [h2]; rfl]
                   exact (by (try dsimp only); exact up2_s)
                 · rw [show E0 so j = 0 by unfold E0; rw [if_neg (by omega), if_pos h2, if_neg q]]
                   exact (by (try dsimp only); exact up2_o (by omega) (hD j (by omega))))
              | (refine ⟨rfl, hF.tr (Fw.up (i := 108) (k := 0) (x := nI 2) (by decide) (by decide)), fun j hj => ?_⟩
                 have h2 : so = 3 := by omega
                 by_cases q : j = 0
                 · subst q
                   rw [show E0 so 0 = 2 by rw [h2]; rfl]
                   exact (by (try dsimp only); exact up2_s)
                 · rw [show E0 so j = 0 by unfold E0; rw [if_neg (by omega), if_neg (by omega), if_pos h2, if_neg q]]
                   exact (by (try dsimp only); exact up2_o (by omega) (hD j (by omega))))
          · refine G_bi (v := nI 10) (pc := 96) f_219_96 (by decide) ?_
            refine G_S (pc := 98) f_219_98 rfl rfl rfl ?_
            refine G_isN (pc := 102) f_219_102 (by first | assumption | exact hK.1 _ _ rfl) (by omega) (by omega) ?_
            refine G_rv (pc := 103) f_219_103 ?_
            first
              | (refine ⟨rfl, hF, fun j hj => ?_⟩
                 rw [hD j (by omega), show E0 so j = 0 by unfold E0; rw [if_neg (by omega), if_neg (by omega), if_neg (by omega)]]
                 rfl)
              | (refine ⟨rfl, hF.tr (Fw.up (i := 108) (k := 0) (x := nI 10) (by decide) (by decide)), fun j hj => ?_⟩
                 have h2 : so = 2 := by omega
                 by_cases q : j = 0
                 · subst q
                   rw [show E0 so 0 = 10 by rw [h2]; rfl]
                   exact (by (try dsimp only); exact up2_s)
                 · rw [show E0 so j = 0 by unfold E0; rw [if_neg (by omega), if_pos h2, if_neg q]]
                   exact (by (try dsimp only); exact up2_o (by omega) (hD j (by omega))))
              | (refine ⟨rfl, hF.tr (Fw.up (i := 108) (k := 0) (x := nI 2) (by decide) (by decide)), fun j hj => ?_⟩
                 have h2 : so = 3 := by omega
                 by_cases q : j = 0
                 · subst q
                   rw [show E0 so 0 = 2 by rw [h2]; rfl]
                   exact (by (try dsimp only); exact up2_s)
                 · rw [show E0 so j = 0 by unfold E0; rw [if_neg (by omega), if_neg (by omega), if_pos h2, if_neg q]]
                   exact (by (try dsimp only); exact up2_o (by omega) (hD j (by omega))))
      · refine G_S (pc := 25) f_219_25 rfl rfl rfl ?_
        refine G_gR (pc := 26) f_219_26 (by decide) rfl (by first | assumption | exact hK.1 _ _ rfl) (by first | assumption | exact hK.2 _ _ _ rfl | (try dsimp only) <;> (repeat (first | exact up2_s | refine up2_o (by first | decide | omega) ?_)) <;> first | assumption | exact hK.2 _ _ _ rfl) ?_
        refine G_ic (v := nI 1) (pc := 29) f_219_29 (by decide) ?_
        refine G_ic (v := nI 4) (pc := 30) f_219_30 (by decide) ?_
        refine G_isN (pc := 31) f_219_31 (by first | assumption | exact hK.1 _ _ rfl) (by omega) (by omega) ?_
        refine G_ic (v := nI 0) (pc := 32) f_219_32 (by decide) ?_
        refine G_S (pc := 33) f_219_33 rfl rfl rfl ?_
        refine loop2 (by omega) 0 (Nat.zero_le _) _ (hF.tr (Fw.up (i := 108) (k := 1) (x := nI 4) (by decide) (by decide))) (fun j hj => ?_)
        by_cases q : j = 1
        · subst q
          exact (by (try dsimp only); exact up2_s)
        · rw [show bl0 0 0 j = 0 by unfold bl0; rw [if_neg q, if_neg (by omega), if_neg (by omega)]]
          exact (by (try dsimp only); exact up2_o (by omega) (hD j (by omega)))
    · refine G_S (pc := 8) f_219_8 rfl rfl rfl ?_
      refine G_gR (pc := 9) f_219_9 (by decide) rfl (by first | assumption | exact hK.1 _ _ rfl) (by first | assumption | exact hK.2 _ _ _ rfl | (try dsimp only) <;> (repeat (first | exact up2_s | refine up2_o (by first | decide | omega) ?_)) <;> first | assumption | exact hK.2 _ _ _ rfl) ?_
      refine G_S (pc := 12) f_219_12 rfl rfl rfl ?_
      refine G_ic (v := nI 0) (pc := 13) f_219_13 (by decide) ?_
      refine G_isN (pc := 14) f_219_14 (by first | assumption | exact hK.1 _ _ rfl) (by omega) (by omega) ?_
      first | refine G_inc1 (pc := 15) f_219_15 rfl ?_ | refine G_S (pc := 15) f_219_15 rfl rfl rfl ?_
      refine G_S (pc := 18) f_219_18 rfl rfl rfl ?_
      refine ih (by omega) _ (hF.tr (Fw.up (i := 108) (k := i) (x := nI 0) (by decide) (by decide))) (fun j hj => ?_)
      by_cases q : j = i
      · subst q
        exact (by (try dsimp only); exact up2_s)
      · exact (by (try dsimp only); exact up2_o (by omega) (hD j (by omega)))
  refine CG_in (mL := 3) (hl := false) (lv := [some (.ref 98), some (.int (nI so)), none]) (ll := []) rfl rfl rfl ?_
  refine G_ic (v := nI 0) (pc := 0) f_219_0 (by decide) ?_
  refine G_S (pc := 1) f_219_1 rfl rfl rfl ?_
  exact loop1 0 (Nat.zero_le _) M Fw.rf (fun j hj => absurd hj (by omega))
def RTo : List Nat := [101, 102, 108, 109]
def RTq (t : Nat → Int) (n so : Nat) (M : Mm) (w : Option Value) (M' : Mm) : Prop := w = some (.int (b2i ((rdF t n so).1.1 = 0))) ∧ Fp 98 RTo SFs M M' ∧ M'.2.1 101 0 = nI (rdF t n so).1.1 ∧ M'.2.1 102 0 = plI (rdF t n so).1 ∧ ((rdF t n so).1.1 = 0 → TDm M' (rdF t n so).2) ∧ ∀ k, k ≠ 0 → M'.2.1 101 k = M.2.1 101 k ∧ M'.2.1 102 k = M.2.1 102 k
theorem m_readText (W : MTp M t n) (hs : so < 4) : CG C 220 [.ref 98, .int (nI so)] M (RTq t n so M) := by
  have hn6 := W.2.2.1
  have E0b : EBd so (E0 so) := by
    refine ⟨fun h => ?_, fun h => ?_, fun h => ?_⟩ <;> subst h <;> decide
  have fin : ∀ f E M3, Fp 98 SFo SFs M M3 → LRd M3 f → TDm M3 E → rdF t n so = (f, E) → G C 220 (70, [some (.ref 98), some (.int (nI so)), some (.int ((b2i (True))))], [], [], M3) (RTq t n so M) := by
    intro f E M3 hF hf hD hr
    have hK := hF.K W.1
    have h17 := hf.1
    have h4 := hf.2.2.1
    unfold RTq
    rw [hr]
    by_cases h0 : f.1 = 0
    · have ep : plI f = zI (-1) := if_pos h0
      rw [ep, b2i_1 h0]
      refine G_S (pc := 70) f_220_70 rfl rfl rfl ?_
      refine G_gR (pc := 71) f_220_71 (by decide) rfl (by first | assumption | exact hK.1 _ _ rfl) (by first | assumption | exact hK.2 _ _ _ rfl | (try dsimp only) <;> (repeat (first | exact up2_s | refine up2_o (by first | decide | omega) ?_)) <;> first | assumption | exact hK.2 _ _ _ rfl) ?_
      refine G_ic (v := nI 0) (pc := 74) f_220_74 (by decide) ?_
      refine G_S (pc := 75) f_220_75 rfl rfl rfl ?_
      first | refine G_bEq (pc := 76) f_220_76 rfl (fun b5 => ?_) (fun b5 => ?_) | refine G_zeqZ (pc := 76) f_220_76 rfl (by first | exact nI_toInt (by omega) | exact zI_toInt (by omega) (by omega) | rfl) (fun b5 => ?_) (fun b5 => ?_)
      · exact absurd trivial b5
      · refine G_S (pc := 79) f_220_79 rfl rfl rfl ?_
        refine G_gIv (pc := 80) f_220_80 (by decide) rfl (by decide) (by first | assumption | exact hK.1 _ _ rfl) (by first | assumption | exact mI_s | ((refine mI_o (by first | decide | omega) ?_); (repeat (refine mI_o (by first | decide | omega) ?_)); first | exact mI_s | assumption) | rfl) ?_
        refine G_S (pc := 83) f_220_83 rfl rfl rfl ?_
        refine G_isN (pc := 87) f_220_87 (by first | assumption | exact hK.1 _ _ rfl) (by omega) (by omega) ?_
        refine G_S (pc := 88) f_220_88 rfl rfl rfl ?_
        refine G_gR (pc := 89) f_220_89 (by decide) rfl (by first | assumption | exact hK.1 _ _ rfl) (by first | assumption | exact hK.2 _ _ _ rfl | (try dsimp only) <;> (repeat (first | exact up2_s | refine up2_o (by first | decide | omega) ?_)) <;> first | assumption | exact hK.2 _ _ _ rfl) ?_
        refine G_ic (v := nI 0) (pc := 92) f_220_92 (by decide) ?_
        refine G_S (pc := 93) f_220_93 rfl rfl rfl ?_
        first | refine G_bNe (pc := 94) f_220_94 rfl (fun b6 => ?_) (fun b6 => ?_) | refine G_zneZ (pc := 94) f_220_94 rfl (by first | exact nI_toInt (by omega) | exact zI_toInt (by omega) (by omega) | rfl) (fun b6 => ?_) (fun b6 => ?_)
        · refine G_S (pc := 104) f_220_104 rfl rfl rfl ?_
          refine G_gIv (pc := 105) f_220_105 (by decide) rfl (by decide) (by first | assumption | exact hK.1 _ _ rfl) ((mI_o (by omega) h17)) ?_
          refine G_zleZ (pc := 108) f_220_108 rfl (by first | exact nI_toInt (by omega) | exact zI_toInt (by omega) (by omega) | rfl) (fun b7 => ?_) (fun b7 => ?_)
          · refine G_ic (v := zI (-1)) (pc := 118) f_220_118 (by decide) ?_
            refine G_isN (pc := 119) f_220_119 (by first | assumption | exact hK.1 _ _ rfl) (by omega) (by omega) ?_
            refine G_S (pc := 120) f_220_120 rfl rfl rfl ?_
            refine G_gR (pc := 121) f_220_121 (by decide) rfl (by first | assumption | exact hK.1 _ _ rfl) (by first | assumption | exact hK.2 _ _ _ rfl | (try dsimp only) <;> (repeat (first | exact up2_s | refine up2_o (by first | decide | omega) ?_)) <;> first | assumption | exact hK.2 _ _ _ rfl) ?_
            refine G_ic (v := nI 0) (pc := 124) f_220_124 (by decide) ?_
            refine G_iaN (pc := 125) f_220_125 (by first | assumption | exact hK.1 _ _ rfl) (by omega) (by omega) (by first | exact (mI_o (by omega) mI_s) | rfl) ?_
            first | refine G_bNe (pc := 126) f_220_126 rfl (fun b8 => ?_) (fun b8 => ?_) | refine G_zneZ (pc := 126) f_220_126 rfl (by first | exact nI_toInt (by omega) | exact zI_toInt (by omega) (by omega) | rfl) (fun b8 => ?_) (fun b8 => ?_)
            · exfalso; omega
            · refine G_ic (v := nI 1) (pc := 129) f_220_129 (by decide) ?_
              refine G_S (pc := 130) f_220_130 rfl rfl rfl ?_
              refine G_rz (pc := 134) f_220_134 (by first | exact Or.inl rfl | exact Or.inr rfl | exact b2i_01 _ | assumption) ?_
              refine ⟨rfl, (hF.sub (by decide) (fun _ q => q)).tr ((Fp.up (i := 101) (by decide) (by decide)).tr (Fp.up (i := 102) (by decide) (by decide))), (by (try dsimp only); exact up2_o (by omega) (by (try dsimp only); exact up2_s)), (by (try dsimp only); exact up2_s), fun _ j hj => (by (try dsimp only); exact up2_o (by omega) (by (try dsimp only); exact up2_o (by omega) (hD j hj))), fun k hk => ⟨?_, ?_⟩⟩
              · rw [← (hF.2.1 101 (by decide) (by decide)).1]
                exact (by (try dsimp only); exact up2_o (by omega) (by (try dsimp only); exact up2_o (by omega) rfl))
              · rw [← (hF.2.1 102 (by decide) (by decide)).1]
                exact (by (try dsimp only); exact up2_o (by omega) (by (try dsimp only); exact up2_o (by omega) rfl))
          · exfalso; omega
        · exact absurd trivial b6
    · have ep : plI f = nI f.2 := if_neg h0
      have h18 := hf.2.1 h0
      rw [ep, b2i_0 h0]
      refine G_S (pc := 70) f_220_70 rfl rfl rfl ?_
      refine G_gR (pc := 71) f_220_71 (by decide) rfl (by first | assumption | exact hK.1 _ _ rfl) (by first | assumption | exact hK.2 _ _ _ rfl | (try dsimp only) <;> (repeat (first | exact up2_s | refine up2_o (by first | decide | omega) ?_)) <;> first | assumption | exact hK.2 _ _ _ rfl) ?_
      refine G_ic (v := nI 0) (pc := 74) f_220_74 (by decide) ?_
      refine G_S (pc := 75) f_220_75 rfl rfl rfl ?_
      first | refine G_bEq (pc := 76) f_220_76 rfl (fun b5 => ?_) (fun b5 => ?_) | refine G_zeqZ (pc := 76) f_220_76 rfl (by first | exact nI_toInt (by omega) | exact zI_toInt (by omega) (by omega) | rfl) (fun b5 => ?_) (fun b5 => ?_)
      · exact absurd trivial b5
      · refine G_S (pc := 79) f_220_79 rfl rfl rfl ?_
        refine G_gIv (pc := 80) f_220_80 (by decide) rfl (by decide) (by first | assumption | exact hK.1 _ _ rfl) (by first | assumption | exact mI_s | ((refine mI_o (by first | decide | omega) ?_); (repeat (refine mI_o (by first | decide | omega) ?_)); first | exact mI_s | assumption) | rfl) ?_
        refine G_S (pc := 83) f_220_83 rfl rfl rfl ?_
        refine G_isN (pc := 87) f_220_87 (by first | assumption | exact hK.1 _ _ rfl) (by omega) (by omega) ?_
        refine G_S (pc := 88) f_220_88 rfl rfl rfl ?_
        refine G_gR (pc := 89) f_220_89 (by decide) rfl (by first | assumption | exact hK.1 _ _ rfl) (by first | assumption | exact hK.2 _ _ _ rfl | (try dsimp only) <;> (repeat (first | exact up2_s | refine up2_o (by first | decide | omega) ?_)) <;> first | assumption | exact hK.2 _ _ _ rfl) ?_
        refine G_ic (v := nI 0) (pc := 92) f_220_92 (by decide) ?_
        refine G_S (pc := 93) f_220_93 rfl rfl rfl ?_
        first | refine G_bNe (pc := 94) f_220_94 rfl (fun b6 => ?_) (fun b6 => ?_) | refine G_zneZ (pc := 94) f_220_94 rfl (by first | exact nI_toInt (by omega) | exact zI_toInt (by omega) (by omega) | rfl) (fun b6 => ?_) (fun b6 => ?_)
        · refine G_S (pc := 104) f_220_104 rfl rfl rfl ?_
          refine G_gIv (pc := 105) f_220_105 (by decide) rfl (by decide) (by first | assumption | exact hK.1 _ _ rfl) ((mI_o (by omega) h17)) ?_
          refine G_zleZ (pc := 108) f_220_108 rfl (by first | exact nI_toInt (by omega) | exact zI_toInt (by omega) (by omega) | rfl) (fun b7 => ?_) (fun b7 => ?_)
          · exfalso; omega
          · refine G_S (pc := 111) f_220_111 rfl rfl rfl ?_
            refine G_gIv (pc := 112) f_220_112 (by decide) rfl (by decide) (by first | assumption | exact hK.1 _ _ rfl) ((mI_o (by omega) h18)) ?_
            refine G_S (pc := 115) f_220_115 rfl rfl rfl ?_
            refine G_isN (pc := 119) f_220_119 (by first | assumption | exact hK.1 _ _ rfl) (by omega) (by omega) ?_
            refine G_S (pc := 120) f_220_120 rfl rfl rfl ?_
            refine G_gR (pc := 121) f_220_121 (by decide) rfl (by first | assumption | exact hK.1 _ _ rfl) (by first | assumption | exact hK.2 _ _ _ rfl | (try dsimp only) <;> (repeat (first | exact up2_s | refine up2_o (by first | decide | omega) ?_)) <;> first | assumption | exact hK.2 _ _ _ rfl) ?_
            refine G_ic (v := nI 0) (pc := 124) f_220_124 (by decide) ?_
            refine G_iaN (pc := 125) f_220_125 (by first | assumption | exact hK.1 _ _ rfl) (by omega) (by omega) (by first | exact (mI_o (by omega) mI_s) | rfl) ?_
            first | refine G_bNe (pc := 126) f_220_126 rfl (fun b8 => ?_) (fun b8 => ?_) | refine G_zneZ (pc := 126) f_220_126 rfl (by first | exact nI_toInt (by omega) | exact zI_toInt (by omega) (by omega) | rfl) (fun b8 => ?_) (fun b8 => ?_)
            · refine G_ic (v := nI 0) (pc := 133) f_220_133 (by decide) ?_
              refine G_rz (pc := 134) f_220_134 (by first | exact Or.inl rfl | exact Or.inr rfl | exact b2i_01 _ | assumption) ?_
              refine ⟨rfl, (hF.sub (by decide) (fun _ q => q)).tr ((Fp.up (i := 101) (by decide) (by decide)).tr (Fp.up (i := 102) (by decide) (by decide))), (by (try dsimp only); exact up2_o (by omega) (by (try dsimp only); exact up2_s)), (by (try dsimp only); exact up2_s), fun z => absurd z h0, fun k hk => ⟨?_, ?_⟩⟩
              · rw [← (hF.2.1 101 (by decide) (by decide)).1]
                exact (by (try dsimp only); exact up2_o (by omega) (by (try dsimp only); exact up2_o (by omega) rfl))
              · rw [← (hF.2.1 102 (by decide) (by decide)).1]
                exact (by (try dsimp only); exact up2_o (by omega) (by (try dsimp only); exact up2_o (by omega) rfl))
            · exfalso; omega
        · exact absurd trivial b6
  have hK := W.1
  refine CG_in (mL := 3) (hl := false) (lv := [some (.ref 98), some (.int (nI so)), none]) (ll := []) rfl rfl rfl ?_
  refine G_S (pc := 0) f_220_0 rfl rfl rfl ?_
  refine G_S (pc := 1) f_220_1 rfl rfl rfl ?_
  refine G_CV (pc := 2) f_220_2 rfl rfl (by decide) rfl rfl (by first | assumption | exact hK.1 _ _ rfl) (by decide) ⟨Nat.le_of_ble_eq_true rfl, Nat.le_of_ble_eq_true rfl⟩ ?_
  refine CG.mono (m_blank hK hs) ?_
  rintro _ M1 ⟨rfl, hF1, hD1⟩
  have hK := hF1.1.K hK
  have hF2 : Fp 98 SFo SFs M1 (M1.1, up2 (up2 (up2 M1.2.1 98 21 (nI 0)) 98 10 (nI 0)) 98 17 (nI 0), M1.2.2.1, M1.2.2.2) := ((Fp.upf (k := 21) (x := nI 0) (by decide)).tr (Fp.upf (k := 10) (x := nI 0) (by decide))).tr (Fp.upf (k := 17) (x := nI 0) (by decide))
  have hFM := (hF1.1.sub (os' := SFo) (fs' := SFs) (by decide) (by decide)).tr hF2
  have W2 := W.fp hFM (by decide) (by decide)
  have hD2 := TDm.fp (fs := SFs) (os := []) hD1 (M' := (M1.1, up2 (up2 (up2 M1.2.1 98 21 (nI 0)) 98 10 (nI 0)) 98 17 (nI 0), M1.2.2.1, M1.2.2.2)) (((Fp.upf (k := 21) (x := nI 0) (by decide)).tr (Fp.upf (k := 10) (x := nI 0) (by decide))).tr (Fp.upf (k := 17) (x := nI 0) (by decide))) (by decide)
  have hf2 : LRd (M1.1, up2 (up2 (up2 M1.2.1 98 21 (nI 0)) 98 10 (nI 0)) 98 17 (nI 0), M1.2.2.1, M1.2.2.2) (0, 0) := ⟨(by (try dsimp only); exact up2_s), fun z => absurd rfl z, by show 0 ≤ 4; decide, by show 0 ≤ 600; decide⟩
  refine G_S (pc := 5) f_220_5 rfl rfl rfl ?_
  refine G_ic (v := nI 0) (pc := 6) f_220_6 (by decide) ?_
  refine G_pI (pc := 7) f_220_7 rfl (by first | assumption | exact hK.1 _ _ rfl) ?_
  refine G_S (pc := 10) f_220_10 rfl rfl rfl ?_
  refine G_ic (v := nI 0) (pc := 11) f_220_11 (by decide) ?_
  refine G_pI (pc := 12) f_220_12 rfl (by first | assumption | exact hK.1 _ _ rfl) ?_
  refine G_S (pc := 15) f_220_15 rfl rfl rfl ?_
  refine G_ic (v := nI 0) (pc := 16) f_220_16 (by decide) ?_
  refine G_pI (pc := 17) f_220_17 rfl (by first | assumption | exact hK.1 _ _ rfl) ?_
  refine G_S (pc := 20) f_220_20 rfl rfl rfl ?_
  refine G_CV (pc := 21) f_220_21 rfl rfl (by decide) rfl rfl (by first | assumption | exact hK.1 _ _ rfl) (by decide) ⟨Nat.le_of_ble_eq_true rfl, Nat.le_of_ble_eq_true rfl⟩ ?_
  refine CG.mono (m_token W2 (by (try dsimp only); exact up2_o (by omega) (by (try dsimp only); exact up2_s)) (Nat.zero_le _)) ?_
  rintro _ M3 ⟨rfl, hF3, T3⟩
  have hFM3 := hFM.tr (hF3.sub (os' := SFo) (fs' := SFs) (by decide) (by decide))
  have W3 := W2.fp hF3 (by decide) (by decide)
  have hK := W3.1
  have ta : CG C 218 [.ref 98, .int (nI so)] M3 (ALq t n M (psF t n so (n + 1) (E0 so) 0 (0, 0) 0)) := by
    refine CG_in (mL := 4) (hl := false) (lv := [some (.ref 98), some (.int (nI so)), none, none]) (ll := []) rfl rfl rfl ?_
    refine G_ic (v := nI 1) (pc := 0) f_218_0 (by decide) ?_
    refine G_S (pc := 1) f_218_1 rfl rfl rfl ?_
    exact m_allLines hs (n + 1) 0 (0, 0) (E0 so) 0 M3 _ (Nat.zero_le _) (by omega) hFM3 W3 T3 (hf2.fp hF3 (by decide) (by decide)) (hD2.fp hF3 (by decide)) (by rw [hF3.2.2 21 (by decide)]; exact (by (try dsimp only); exact up2_o (by omega) (by (try dsimp only); exact up2_o (by omega) (by (try dsimp only); exact up2_s)))) (fun z => absurd rfl z) E0b (by decide) (fun _ z => by subst z; decide)
  refine G_S (pc := 24) f_220_24 rfl rfl rfl ?_
  refine G_S (pc := 25) f_220_25 rfl rfl rfl ?_
  cases hps : psF t n so (n + 1) (E0 so) 0 (0, 0) 0 with
  | inl e =>
    have hr : rdF t n so = ((1, e), E0 so) := by
      unfold rdF
      rw [hps]
    rw [hps] at ta
    unfold RTq
    rw [hr]
    refine G_CV (pc := 26) f_220_26 rfl rfl (by decide) rfl rfl (by first | assumption | exact hK.1 _ _ rfl) (by decide) ⟨Nat.le_of_ble_eq_true rfl, Nat.le_of_ble_eq_true rfl⟩ ?_
    refine CG.mono (ta) ?_
    rintro _ M4 ⟨hF4, rfl, h16⟩
    have hK := hF4.K W.1
    refine G_S (pc := 29) f_220_29 rfl rfl rfl ?_
    refine G_S (pc := 30) f_220_30 rfl rfl rfl ?_
    first | refine G_bEq (pc := 31) f_220_31 rfl (fun b1 => ?_) (fun b1 => ?_) | refine G_zeqZ (pc := 31) f_220_31 rfl (by first | exact nI_toInt (by omega) | exact zI_toInt (by omega) (by omega) | rfl) (fun b1 => ?_) (fun b1 => ?_)
    · refine G_S (pc := 70) f_220_70 rfl rfl rfl ?_
      refine G_gR (pc := 71) f_220_71 (by decide) rfl (by first | assumption | exact hK.1 _ _ rfl) (by first | assumption | exact hK.2 _ _ _ rfl | (try dsimp only) <;> (repeat (first | exact up2_s | refine up2_o (by first | decide | omega) ?_)) <;> first | assumption | exact hK.2 _ _ _ rfl) ?_
      refine G_ic (v := nI 0) (pc := 74) f_220_74 (by decide) ?_
      refine G_S (pc := 75) f_220_75 rfl rfl rfl ?_
      first | refine G_bEq (pc := 76) f_220_76 rfl (fun b5 => ?_) (fun b5 => ?_) | refine G_zeqZ (pc := 76) f_220_76 rfl (by first | exact nI_toInt (by omega) | exact zI_toInt (by omega) (by omega) | rfl) (fun b5 => ?_) (fun b5 => ?_)
      · refine G_ic (v := nI 1) (pc := 86) f_220_86 (by decide) ?_
        refine G_isN (pc := 87) f_220_87 (by first | assumption | exact hK.1 _ _ rfl) (by omega) (by omega) ?_
        refine G_S (pc := 88) f_220_88 rfl rfl rfl ?_
        refine G_gR (pc := 89) f_220_89 (by decide) rfl (by first | assumption | exact hK.1 _ _ rfl) (by first | assumption | exact hK.2 _ _ _ rfl | (try dsimp only) <;> (repeat (first | exact up2_s | refine up2_o (by first | decide | omega) ?_)) <;> first | assumption | exact hK.2 _ _ _ rfl) ?_
        refine G_ic (v := nI 0) (pc := 92) f_220_92 (by decide) ?_
        refine G_S (pc := 93) f_220_93 rfl rfl rfl ?_
        first | refine G_bNe (pc := 94) f_220_94 rfl (fun b6 => ?_) (fun b6 => ?_) | refine G_zneZ (pc := 94) f_220_94 rfl (by first | exact nI_toInt (by omega) | exact zI_toInt (by omega) (by omega) | rfl) (fun b6 => ?_) (fun b6 => ?_)
        · exact absurd b6 id
        · refine G_S (pc := 97) f_220_97 rfl rfl rfl ?_
          refine G_gIv (pc := 98) f_220_98 (by decide) rfl (by decide) (by first | assumption | exact hK.1 _ _ rfl) ((mI_o (by omega) h16)) ?_
          refine G_S (pc := 101) f_220_101 rfl rfl rfl ?_
          refine G_isN (pc := 119) f_220_119 (by first | assumption | exact hK.1 _ _ rfl) (by omega) (by omega) ?_
          refine G_S (pc := 120) f_220_120 rfl rfl rfl ?_
          refine G_gR (pc := 121) f_220_121 (by decide) rfl (by first | assumption | exact hK.1 _ _ rfl) (by first | assumption | exact hK.2 _ _ _ rfl | (try dsimp only) <;> (repeat (first | exact up2_s | refine up2_o (by first | decide | omega) ?_)) <;> first | assumption | exact hK.2 _ _ _ rfl) ?_
          refine G_ic (v := nI 0) (pc := 124) f_220_124 (by decide) ?_
          refine G_iaN (pc := 125) f_220_125 (by first | assumption | exact hK.1 _ _ rfl) (by omega) (by omega) (by first | exact (mI_o (by omega) mI_s) | rfl) ?_
          first | refine G_bNe (pc := 126) f_220_126 rfl (fun b8 => ?_) (fun b8 => ?_) | refine G_zneZ (pc := 126) f_220_126 rfl (by first | exact nI_toInt (by omega) | exact zI_toInt (by omega) (by omega) | rfl) (fun b8 => ?_) (fun b8 => ?_)
          · refine G_ic (v := nI 0) (pc := 133) f_220_133 (by decide) ?_
            refine G_rz (pc := 134) f_220_134 (by first | exact Or.inl rfl | exact Or.inr rfl | exact b2i_01 _ | assumption) ?_
            refine ⟨rfl, (hF4.sub (by decide) (fun _ q => q)).tr ((Fp.up (i := 101) (by decide) (by decide)).tr (Fp.up (i := 102) (by decide) (by decide))), (by (try dsimp only); exact up2_o (by omega) (by (try dsimp only); exact up2_s)), (by (try dsimp only); exact up2_s), fun z => absurd (show (1 : Nat) = 0 from z) (by decide), fun k hk => ⟨?_, ?_⟩⟩
            · rw [← (hF4.2.1 101 (by decide) (by decide)).1]
              exact (by (try dsimp only); exact up2_o (by omega) (by (try dsimp only); exact up2_o (by omega) rfl))
            · rw [← (hF4.2.1 102 (by decide) (by decide)).1]
              exact (by (try dsimp only); exact up2_o (by omega) (by (try dsimp only); exact up2_o (by omega) rfl))
          · exfalso; omega
      · exact absurd b5 id
    · exact absurd b1 id
  | inr q =>
    have hr : rdF t n so = if q.2.1.1 = 0 ∧ so = 3 ∧ 2 ^ (q.2.2.1 0).toNat ≤ q.2.2.2 then ((4, n), q.2.2.1) else (q.2.1, q.2.2.1) := by
      unfold rdF
      rw [hps]
    rw [hps] at ta
    have hinv := ps_inv hs (n + 1) (E0 so) 0 (0, 0) 0 q (Nat.zero_le _) (by omega) E0b (by decide) (fun _ z => by subst z; decide) hps
    have hend := tkK_end hinv.1
    have hsk := skp_b (t := t) hinv.2.2.2
    by_cases h3 : so = 3
    · subst h3
      by_cases h0 : q.2.1.1 = 0
      · have hb := hinv.2.2.1 h0 rfl
        obtain ⟨s, hs'⟩ : ∃ s : Nat, q.2.2.1 0 = (s : Int) := ⟨(q.2.2.1 0).toNat, by omega⟩
        have hs2 : (q.2.2.1 0).toNat = s := by omega
        rw [hs2] at hr
        have hp : 2 ^ s ≤ 16 := Nat.pow_le_pow_right (by decide) (show s ≤ 4 by omega)
        have hT := hinv.2.1
        refine G_CV (pc := 26) f_220_26 rfl rfl (by decide) rfl rfl (by first | assumption | exact hK.1 _ _ rfl) (by decide) ⟨Nat.le_of_ble_eq_true rfl, Nat.le_of_ble_eq_true rfl⟩ ?_
        refine CG.mono (ta) ?_
        rintro _ M4 ⟨hF4, rfl, T4, hf4, hD4, g21, hlt4, hp4⟩
        have hK := hF4.K W.1
        have g17 := hf4.1
        have d0 : M4.2.1 108 0 = nI s := by rw [hD4 0 (by decide), hs', nI_zI]
        have g12 := T4.2.1
        refine G_S (pc := 29) f_220_29 rfl rfl rfl ?_
        refine G_S (pc := 30) f_220_30 rfl rfl rfl ?_
        first | refine G_bEq (pc := 31) f_220_31 rfl (fun b1 => ?_) (fun b1 => ?_) | refine G_zeqZ (pc := 31) f_220_31 rfl (by first | exact nI_toInt (by omega) | exact zI_toInt (by omega) (by omega) | rfl) (fun b1 => ?_) (fun b1 => ?_)
        · exact absurd trivial b1
        · refine G_S (pc := 34) f_220_34 rfl rfl rfl ?_
          refine G_ic (v := nI 3) (pc := 35) f_220_35 (by decide) ?_
          refine G_jneZ (pc := 36) f_220_36 rfl (by first | exact nI_toInt (by omega) | exact zI_toInt (by omega) (by omega) | rfl) (by first | exact nI_toInt (by omega) | exact zI_toInt (by omega) (by omega) | rfl) (fun b2 => ?_) (fun b2 => ?_)
          · exact absurd rfl b2
          · refine G_S (pc := 39) f_220_39 rfl rfl rfl ?_
            refine G_gIv (pc := 40) f_220_40 (by decide) rfl (by decide) (by first | assumption | exact hK.1 _ _ rfl) (by first | assumption | exact mI_s | ((refine mI_o (by first | decide | omega) ?_); (repeat (refine mI_o (by first | decide | omega) ?_)); first | exact mI_s | assumption) | rfl) ?_
            first | refine G_bNe (pc := 43) f_220_43 rfl (fun b3 => ?_) (fun b3 => ?_) | refine G_zneZ (pc := 43) f_220_43 rfl (by first | exact nI_toInt (by omega) | exact zI_toInt (by omega) (by omega) | rfl) (fun b3 => ?_) (fun b3 => ?_)
            · exfalso; omega
            · refine G_S (pc := 46) f_220_46 rfl rfl rfl ?_
              refine G_gIv (pc := 47) f_220_47 (by decide) rfl (by decide) (by first | assumption | exact hK.1 _ _ rfl) (by first | assumption | exact mI_s | ((refine mI_o (by first | decide | omega) ?_); (repeat (refine mI_o (by first | decide | omega) ?_)); first | exact mI_s | assumption) | rfl) ?_
              refine G_ic (v := nI 1) (pc := 50) f_220_50 (by decide) ?_
              refine G_S (pc := 51) f_220_51 rfl rfl rfl ?_
              refine G_gR (pc := 52) f_220_52 (by decide) rfl (by first | assumption | exact hK.1 _ _ rfl) (by first | assumption | exact hK.2 _ _ _ rfl | (try dsimp only) <;> (repeat (first | exact up2_s | refine up2_o (by first | decide | omega) ?_)) <;> first | assumption | exact hK.2 _ _ _ rfl) ?_
              refine G_ic (v := nI 0) (pc := 55) f_220_55 (by decide) ?_
              refine G_iaN (pc := 56) f_220_56 (by first | assumption | exact hK.1 _ _ rfl) (by omega) (by omega) (by first | exact d0 | rfl) ?_
              first | refine G_shl1 (pc := 57) f_220_57 (by omega) ?_ | refine G_S (pc := 57) f_220_57 rfl rfl rfl ?_
              refine G_jltZ (pc := 58) f_220_58 rfl (by first | exact nI_toInt (by omega) | exact zI_toInt (by omega) (by omega) | rfl) (by first | exact nI_toInt (by omega) | exact zI_toInt (by omega) (by omega) | rfl) (fun b4 => ?_) (fun b4 => ?_)
              · first
                  | (refine fin q.2.1 q.2.2.1 M4 hF4 hf4 hD4 ?_
                     rw [hr, if_neg (fun z => absurd z.2.2 (by omega))])
                  | (have e : nt q.2.1 true 4 (skp t n q.1) = (4, n) := by
                       rw [show skp t n q.1 = n by omega]
                       exact if_pos ⟨h0, rfl⟩
                     rw [e] at hf5
                     refine fin (4, n) q.2.2.1 M5 (hF4.tr (hF5.1.sub (by decide) (by decide))) hf5 (hD4.fp hF5.1 (by decide)) ?_
                     rw [hr, if_pos ⟨h0, rfl, by omega⟩])
              · refine G_S (pc := 61) f_220_61 rfl rfl rfl ?_
                refine G_ic (v := nI 4) (pc := 62) f_220_62 (by decide) ?_
                refine G_S (pc := 63) f_220_63 rfl rfl rfl ?_
                refine G_gIv (pc := 64) f_220_64 (by decide) rfl (by decide) (by first | assumption | exact hK.1 _ _ rfl) (by first | assumption | exact mI_s | ((refine mI_o (by first | decide | omega) ?_); (repeat (refine mI_o (by first | decide | omega) ?_)); first | exact mI_s | assumption) | rfl) ?_
                refine G_CV (pc := 67) f_220_67 rfl rfl (by decide) rfl rfl (by first | assumption | exact hK.1 _ _ rfl) (by decide) ⟨Nat.le_of_ble_eq_true rfl, Nat.le_of_ble_eq_true rfl⟩ ?_
                refine CG.mono (m_later hK hf4 (fun z => absurd h0 z) (by decide) (by omega) (by decide)) ?_
                rintro _ M5 ⟨rfl, hF5, hf5⟩
                first
                  | (refine fin q.2.1 q.2.2.1 M4 hF4 hf4 hD4 ?_
                     rw [hr, if_neg (fun z => absurd z.2.2 (by omega))])
                  | (have e : nt q.2.1 true 4 (skp t n q.1) = (4, n) := by
                       rw [show skp t n q.1 = n by omega]
                       exact if_pos ⟨h0, rfl⟩
                     rw [e] at hf5
                     refine fin (4, n) q.2.2.1 M5 (hF4.tr (hF5.1.sub (by decide) (by decide))) hf5 (hD4.fp hF5.1 (by decide)) ?_
                     rw [hr, if_pos ⟨h0, rfl, by omega⟩])
      · have h4 : ∀ M4, LRd M4 q.2.1 → q.2.1.1 ≤ 4 := fun _ z => z.2.2.1
        refine G_CV (pc := 26) f_220_26 rfl rfl (by decide) rfl rfl (by first | assumption | exact hK.1 _ _ rfl) (by decide) ⟨Nat.le_of_ble_eq_true rfl, Nat.le_of_ble_eq_true rfl⟩ ?_
        refine CG.mono (ta) ?_
        rintro _ M4 ⟨hF4, rfl, T4, hf4, hD4, g21, hlt4, hp4⟩
        have hK := hF4.K W.1
        have g17 := hf4.1
        have h44 := hf4.2.2.1
        refine G_S (pc := 29) f_220_29 rfl rfl rfl ?_
        refine G_S (pc := 30) f_220_30 rfl rfl rfl ?_
        first | refine G_bEq (pc := 31) f_220_31 rfl (fun b1 => ?_) (fun b1 => ?_) | refine G_zeqZ (pc := 31) f_220_31 rfl (by first | exact nI_toInt (by omega) | exact zI_toInt (by omega) (by omega) | rfl) (fun b1 => ?_) (fun b1 => ?_)
        · exact absurd trivial b1
        · refine G_S (pc := 34) f_220_34 rfl rfl rfl ?_
          refine G_ic (v := nI 3) (pc := 35) f_220_35 (by decide) ?_
          refine G_jneZ (pc := 36) f_220_36 rfl (by first | exact nI_toInt (by omega) | exact zI_toInt (by omega) (by omega) | rfl) (by first | exact nI_toInt (by omega) | exact zI_toInt (by omega) (by omega) | rfl) (fun b2 => ?_) (fun b2 => ?_)
          · exact absurd rfl b2
          · refine G_S (pc := 39) f_220_39 rfl rfl rfl ?_
            refine G_gIv (pc := 40) f_220_40 (by decide) rfl (by decide) (by first | assumption | exact hK.1 _ _ rfl) (by first | assumption | exact mI_s | ((refine mI_o (by first | decide | omega) ?_); (repeat (refine mI_o (by first | decide | omega) ?_)); first | exact mI_s | assumption) | rfl) ?_
            first | refine G_bNe (pc := 43) f_220_43 rfl (fun b3 => ?_) (fun b3 => ?_) | refine G_zneZ (pc := 43) f_220_43 rfl (by first | exact nI_toInt (by omega) | exact zI_toInt (by omega) (by omega) | rfl) (fun b3 => ?_) (fun b3 => ?_)
            · refine fin q.2.1 q.2.2.1 M4 hF4 hf4 hD4 ?_
              rw [hr, if_neg (fun z => h0 z.1)]
            · exfalso; omega
    · refine G_CV (pc := 26) f_220_26 rfl rfl (by decide) rfl rfl (by first | assumption | exact hK.1 _ _ rfl) (by decide) ⟨Nat.le_of_ble_eq_true rfl, Nat.le_of_ble_eq_true rfl⟩ ?_
      refine CG.mono (ta) ?_
      rintro _ M4 ⟨hF4, rfl, T4, hf4, hD4, g21, hlt4, hp4⟩
      have hK := hF4.K W.1
      refine G_S (pc := 29) f_220_29 rfl rfl rfl ?_
      refine G_S (pc := 30) f_220_30 rfl rfl rfl ?_
      first | refine G_bEq (pc := 31) f_220_31 rfl (fun b1 => ?_) (fun b1 => ?_) | refine G_zeqZ (pc := 31) f_220_31 rfl (by first | exact nI_toInt (by omega) | exact zI_toInt (by omega) (by omega) | rfl) (fun b1 => ?_) (fun b1 => ?_)
      · exact absurd trivial b1
      · refine G_S (pc := 34) f_220_34 rfl rfl rfl ?_
        refine G_ic (v := nI 3) (pc := 35) f_220_35 (by decide) ?_
        refine G_jneZ (pc := 36) f_220_36 rfl (by first | exact nI_toInt (by omega) | exact zI_toInt (by omega) (by omega) | rfl) (by first | exact nI_toInt (by omega) | exact zI_toInt (by omega) (by omega) | rfl) (fun b2 => ?_) (fun b2 => ?_)
        · refine fin q.2.1 q.2.2.1 M4 hF4 hf4 hD4 ?_
          rw [hr, if_neg (fun z => h3 z.2.1)]
        · exfalso; omega
end MRX
