/-! the reference reads a text: all lines -/
def ALq (t : Nat → Int) (n : Nat) (M : Mm) (r : Sum Nat (Nat × (Nat × Nat) × (Nat → Int) × Nat)) (w : Option Value) (M' : Mm) : Prop := Fp 98 SFo SFs M M' ∧ (match r with
  | .inl e => w = some (.int (b2i (False))) ∧ M'.2.1 98 16 = nI e
  | .inr q => w = some (.int (b2i (True))) ∧ MTk M' t n q.1 ∧ LRd M' q.2.1 ∧ TDm M' q.2.2.1 ∧ M'.2.1 98 21 = nI q.2.2.2 ∧ (q.2.1.1 ≠ 0 → q.2.1.2 < skp t n q.1) ∧ q.1 ≤ n)
def scF (t : Nat → Int) (n : Nat) (r : Sum Nat (Nat × (Nat × Nat) × (Nat → Int) × Nat)) : Sum Nat (Nat × (Nat × Nat) × (Nat → Int) × Nat) := match r with
  | .inl e => .inl e
  | .inr q => if tkK t n q.1 = 3 then .inr (tkR t n q.1, q.2) else .inl (skp t n q.1)
def psK (t : Nat → Int) (n so k : Nat) (r : Sum Nat (Nat × (Nat × Nat) × (Nat → Int) × Nat)) : Sum Nat (Nat × (Nat × Nat) × (Nat → Int) × Nat) := match r with
  | .inl e => .inl e
  | .inr q => psF t n so k q.2.2.1 q.2.2.2 q.2.1 q.1
theorem psF_s {t : Nat → Int} {n so k T p : Nat} {E : Nat → Int} {f : Nat × Nat} : psF t n so (k + 1) E T f p = if tkK t n p = 0 then .inr (p, f, E, T) else psK t n so k (scF t n (lfF t n so E T f p)) := by
  rw [psF, stm_lf]
  rfl
theorem lf_lt {t : Nat → Int} {n so T p : Nat} {E : Nat → Int} {f : Nat × Nat} {q : Nat × (Nat × Nat) × (Nat → Int) × Nat} (hp : p ≤ n) (h0 : tkK t n p ≠ 0) (h : lfF t n so E T f p = .inr q) : p < q.1 := by
  have hx := tk_nx hp h0
  unfold lfF at h
  cases hg : fmH t n so p with
  | none =>
    rw [hg] at h
    cases h
  | some g =>
    rw [hg] at h
    dsimp only at h
    unfold lnS at h
    cases hk : kdS t n g (tkR t n p) with
    | inl e =>
      rw [hk] at h
      cases h
    | inr pk =>
      rw [hk] at h
      dsimp only at h
      have h2 := kdS_b hx.2.2 hk
      cases hm : nmS t n g (fmN g 1) 0 pk.1 (nt f (fulB g E) 3 (skp t n p)) with
      | inl e =>
        rw [hm] at h
        cases h
      | inr pf =>
        rw [hm] at h
        cases h
        have h3 := nmS_b _ _ _ _ _ h2.2.1 hm
        show p < pf.1
        omega
section MAL
variable {C : Ct} {M : Mm} {t : Nat → Int} {n p T so : Nat} {f : Nat × Nat} {E : Nat → Int}
theorem m_allLines (hs : so < 4) : ∀ k p f E T M1 v3, p ≤ n → n - p < k → Fp 98 SFo SFs M M1 → MTp M1 t n → MTk M1 t n p → LRd M1 f → TDm M1 E → M1.2.1 98 21 = nI T → (f.1 ≠ 0 → f.2 < skp t n p) → EBd so E → T < 128 → (f.1 = 0 → so = 3 → 1 ≤ E 0 ∧ E 0 ≤ 4) → G C 218 (2, [some (.ref 98), some (.int (nI so)), some (.int (nI 1)), v3], [], [], M1) (ALq t n M (psF t n so k E T f p)) := by
  intro k
  induction k with
  | zero =>
    intro p f E T M1 v3 hp hk
    omega
  | succ k ih =>
    intro p f E T M1 v3 hp hk hF W1 T1 hf hD h21 hlt hE hT h3
    have hK := W1.1
    have t13 := T1.2.2.1
    have t12 := T1.2.1
    have t15 := T1.2.2.2.2
    have hm := mk_3 (tkK_le t n p)
    rw [psF_s]
    by_cases h0 : tkK t n p = 0
    · rw [if_pos h0]
      refine G_S (pc := 2) f_218_2 rfl rfl rfl ?_
      first | refine G_bEq (pc := 3) f_218_3 rfl (fun b1 => ?_) (fun b1 => ?_) | refine G_zeqZ (pc := 3) f_218_3 rfl (by first | exact nI_toInt (by omega) | exact zI_toInt (by omega) (by omega) | rfl) (fun b1 => ?_) (fun b1 => ?_)
      · exfalso; omega
      · refine G_S (pc := 6) f_218_6 rfl rfl rfl ?_
        refine G_gIv (pc := 7) f_218_7 (by decide) rfl (by decide) (by first | assumption | exact hK.1 _ _ rfl) (by first | assumption | exact mI_s | ((refine mI_o (by first | decide | omega) ?_); (repeat (refine mI_o (by first | decide | omega) ?_)); first | exact mI_s | assumption) | rfl) ?_
        first | refine G_bEq (pc := 10) f_218_10 rfl (fun b2 => ?_) (fun b2 => ?_) | refine G_zeqZ (pc := 10) f_218_10 rfl (by first | exact nI_toInt (by omega) | exact zI_toInt (by omega) (by omega) | rfl) (fun b2 => ?_) (fun b2 => ?_)
        · refine G_S (pc := 74) f_218_74 rfl rfl rfl ?_
          refine G_rz (pc := 75) f_218_75 (by first | exact Or.inl rfl | exact Or.inr rfl | exact b2i_01 _ | assumption) ?_
          exact ⟨hF, rfl, T1, hf, hD, h21, hlt, hp⟩
        · exfalso; omega
    · rw [if_neg h0]
      have hx := tk_nx hp h0
      have hF2 : Fw [] [22] M1 (M1.1, up2 M1.2.1 98 22 (nI 1), M1.2.2.1, M1.2.2.2) := Fw.upf (k := 22) (x := nI 1) (by decide)
      have S2 : MSt (M1.1, up2 M1.2.1 98 22 (nI 1), M1.2.2.1, M1.2.2.2) t n p f E T := ⟨W1.fp hF2.1 (by decide) (by decide), T1.fw hF2 (by decide) (by decide) (by decide) (by decide), hf.fp hF2.1 (by decide) (by decide), hD.fp hF2.1 (by decide), (by (try dsimp only); exact up2_o (by omega) h21), (by (try dsimp only); exact up2_s), hlt, hp⟩
      have tl := m_lineOf (C := C) S2 h0 hs hE
      have hFM := hF.tr (hF2.1.sub (os' := SFo) (fs' := SFs) (by decide) (by decide))
      have g13 : up2 M1.2.1 98 22 (nI 1) 98 13 = nI (mkK (tkK t n p)) := (by (try dsimp only); exact up2_o (by omega) t13)
      -- behind a line
      have rest : ∀ v (x : Int32) M3, LNq t n (M1.1, up2 M1.2.1 98 22 (nI 1), M1.2.2.1, M1.2.2.2) (lfF t n so E T f p) (some (.int x)) M3 → G C 218 (45, [some (.ref 98), some (.int (nI so)), some (.int (nI 1)), v], [], [.int x], M3) (ALq t n M (psK t n so k (scF t n (lfF t n so E T f p)))) := by
        intro v x M3 hL
        cases hr : lfF t n so E T f p with
        | inl e =>
          rw [hr] at hL
          obtain ⟨hF3, hxv, h16⟩ := hL
          cases hxv
          have hK : KM M3.1 M3.2.2.2 := hF3.K (hF2.1.K hK)
          refine G_S (pc := 45) f_218_45 rfl rfl rfl ?_
          refine G_S (pc := 46) f_218_46 rfl rfl rfl ?_
          first | refine G_bEq (pc := 47) f_218_47 rfl (fun b4 => ?_) (fun b4 => ?_) | refine G_zeqZ (pc := 47) f_218_47 rfl (by first | exact nI_toInt (by omega) | exact zI_toInt (by omega) (by omega) | rfl) (fun b4 => ?_) (fun b4 => ?_)
          · refine G_S (pc := 63) f_218_63 rfl rfl rfl ?_
            first | refine G_bEq (pc := 64) f_218_64 rfl (fun b6 => ?_) (fun b6 => ?_) | refine G_zeqZ (pc := 64) f_218_64 rfl (by first | exact nI_toInt (by omega) | exact zI_toInt (by omega) (by omega) | rfl) (fun b6 => ?_) (fun b6 => ?_)
            · refine G_S (pc := 71) f_218_71 rfl rfl rfl ?_
              refine G_S (pc := 2) f_218_2 rfl rfl rfl ?_
              first | refine G_bEq (pc := 3) f_218_3 rfl (fun b1 => ?_) (fun b1 => ?_) | refine G_zeqZ (pc := 3) f_218_3 rfl (by first | exact nI_toInt (by omega) | exact zI_toInt (by omega) (by omega) | rfl) (fun b1 => ?_) (fun b1 => ?_)
              · refine G_S (pc := 74) f_218_74 rfl rfl rfl ?_
                refine G_rz (pc := 75) f_218_75 (by first | exact Or.inl rfl | exact Or.inr rfl | exact b2i_01 _ | assumption) ?_
                exact ⟨hFM.tr hF3, rfl, h16⟩
              · exact absurd b1 id
            · exact absurd b6 id
          · exact absurd b4 id
        | inr q =>
          rw [hr] at hL
          obtain ⟨hF3, hxv, T3, hf3, hD3, g21, hlt3, hp3⟩ := hL
          cases hxv
          have W3 := (W1.fp hF2.1 (by decide) (by decide)).fp hF3 (by decide) (by decide)
          have hK := W3.1
          have q13 := T3.2.2.1
          have hm3 := mk_3 (tkK_le t n q.1)
          have keepE : EBd so q.2.2.1 ∧ q.2.2.2 < 128 ∧ (q.2.1.1 = 0 → so = 3 → 1 ≤ q.2.2.1 0 ∧ q.2.2.1 0 ≤ 4) := by
            unfold lfF at hr
            cases hg : fmH t n so p with
            | none =>
              rw [hg] at hr
              cases hr
            | some g =>
              rw [hg] at hr
              obtain ⟨y1, y2, _, _⟩ := fmH_lt hs hg
              exact ln_eb hs y1 y2 hE hT hx.2.2 (fun z => h3 (nt_0 (by decide) z).1) hr
          by_cases hsem : tkK t n q.1 = 3
          · have esc : scF t n (.inr q) = .inr (tkR t n q.1, q.2) := if_pos hsem
            rw [esc]
            have hx3 := tk_nx hp3 (show tkK t n q.1 ≠ 0 by omega)
            have hs3 := skp_b (t := t) hx3.2.2
            have hp4 : p < q.1 ∨ True := Or.inr trivial
            have hq1 : p < q.1 := lf_lt hp h0 hr
            refine G_S (pc := 45) f_218_45 rfl rfl rfl ?_
            refine G_S (pc := 46) f_218_46 rfl rfl rfl ?_
            first | refine G_bEq (pc := 47) f_218_47 rfl (fun b4 => ?_) (fun b4 => ?_) | refine G_zeqZ (pc := 47) f_218_47 rfl (by first | exact nI_toInt (by omega) | exact zI_toInt (by omega) (by omega) | rfl) (fun b4 => ?_) (fun b4 => ?_)
            · exact absurd trivial b4
            · refine G_S (pc := 50) f_218_50 rfl rfl rfl ?_
              refine G_gIv (pc := 51) f_218_51 (by decide) rfl (by decide) (by first | assumption | exact hK.1 _ _ rfl) (by first | assumption | exact mI_s | ((refine mI_o (by first | decide | omega) ?_); (repeat (refine mI_o (by first | decide | omega) ?_)); first | exact mI_s | assumption) | rfl) ?_
              refine G_ic (v := nI 4) (pc := 54) f_218_54 (by decide) ?_
              refine G_jeqZ (pc := 55) f_218_55 rfl (by first | exact nI_toInt (by omega) | exact zI_toInt (by omega) (by omega) | rfl) (by first | exact nI_toInt (by omega) | exact zI_toInt (by omega) (by omega) | rfl) (fun b5 => ?_) (fun b5 => ?_)
              · refine G_S (pc := 63) f_218_63 rfl rfl rfl ?_
                first | refine G_bEq (pc := 64) f_218_64 rfl (fun b6 => ?_) (fun b6 => ?_) | refine G_zeqZ (pc := 64) f_218_64 rfl (by first | exact nI_toInt (by omega) | exact zI_toInt (by omega) (by omega) | rfl) (fun b6 => ?_) (fun b6 => ?_)
                · exact absurd trivial b6
                · refine G_S (pc := 67) f_218_67 rfl rfl rfl ?_
                  refine G_CV (pc := 68) f_218_68 rfl rfl (by decide) rfl rfl (by first | assumption | exact hK.1 _ _ rfl) (by decide) ⟨Nat.le_of_ble_eq_true rfl, Nat.le_of_ble_eq_true rfl⟩ ?_
                  refine CG.mono (m_token W3 T3.1 hx3.2.2) ?_
                  rintro _ M4 ⟨rfl, hF4, T4⟩
                  refine G_S (pc := 71) f_218_71 rfl rfl rfl ?_
                  exact ih (tkR t n q.1) q.2.1 q.2.2.1 q.2.2.2 M4 _ hx3.2.2 (by omega) ((hFM.tr hF3).tr (hF4.sub (by decide) (by decide))) (W3.fp hF4 (by decide) (by decide)) T4 (hf3.fp hF4 (by decide) (by decide)) (hD3.fp hF4 (by decide)) (by rw [hF4.2.2 21 (by decide)]; exact g21) (fun z => by have := hlt3 z; omega) keepE.1 keepE.2.1 keepE.2.2
              · exfalso; omega
          · have esc : scF t n (.inr q) = .inl (skp t n q.1) := if_neg hsem
            rw [esc]
            refine G_S (pc := 45) f_218_45 rfl rfl rfl ?_
            refine G_S (pc := 46) f_218_46 rfl rfl rfl ?_
            first | refine G_bEq (pc := 47) f_218_47 rfl (fun b4 => ?_) (fun b4 => ?_) | refine G_zeqZ (pc := 47) f_218_47 rfl (by first | exact nI_toInt (by omega) | exact zI_toInt (by omega) (by omega) | rfl) (fun b4 => ?_) (fun b4 => ?_)
            · exact absurd trivial b4
            · refine G_S (pc := 50) f_218_50 rfl rfl rfl ?_
              refine G_gIv (pc := 51) f_218_51 (by decide) rfl (by decide) (by first | assumption | exact hK.1 _ _ rfl) (by first | assumption | exact mI_s | ((refine mI_o (by first | decide | omega) ?_); (repeat (refine mI_o (by first | decide | omega) ?_)); first | exact mI_s | assumption) | rfl) ?_
              refine G_ic (v := nI 4) (pc := 54) f_218_54 (by decide) ?_
              refine G_jeqZ (pc := 55) f_218_55 rfl (by first | exact nI_toInt (by omega) | exact zI_toInt (by omega) (by omega) | rfl) (by first | exact nI_toInt (by omega) | exact zI_toInt (by omega) (by omega) | rfl) (fun b5 => ?_) (fun b5 => ?_)
              · exfalso; omega
              · refine G_S (pc := 58) f_218_58 rfl rfl rfl ?_
                refine G_CV (pc := 59) f_218_59 rfl rfl (by decide) rfl rfl (by first | assumption | exact hK.1 _ _ rfl) (by decide) ⟨Nat.le_of_ble_eq_true rfl, Nat.le_of_ble_eq_true rfl⟩ ?_
                refine CG.mono (m_fails hK T3.2.1) ?_
                rintro _ M4 ⟨rfl, hF4, h16⟩
                have hK := hF4.1.K hK
                refine G_S (pc := 62) f_218_62 rfl rfl rfl ?_
                refine G_S (pc := 63) f_218_63 rfl rfl rfl ?_
                first | refine G_bEq (pc := 64) f_218_64 rfl (fun b6 => ?_) (fun b6 => ?_) | refine G_zeqZ (pc := 64) f_218_64 rfl (by first | exact nI_toInt (by omega) | exact zI_toInt (by omega) (by omega) | rfl) (fun b6 => ?_) (fun b6 => ?_)
                · refine G_S (pc := 71) f_218_71 rfl rfl rfl ?_
                  refine G_S (pc := 2) f_218_2 rfl rfl rfl ?_
                  first | refine G_bEq (pc := 3) f_218_3 rfl (fun b1 => ?_) (fun b1 => ?_) | refine G_zeqZ (pc := 3) f_218_3 rfl (by first | exact nI_toInt (by omega) | exact zI_toInt (by omega) (by omega) | rfl) (fun b1 => ?_) (fun b1 => ?_)
                  · refine G_S (pc := 74) f_218_74 rfl rfl rfl ?_
                    refine G_rz (pc := 75) f_218_75 (by first | exact Or.inl rfl | exact Or.inr rfl | exact b2i_01 _ | assumption) ?_
                    exact ⟨(hFM.tr hF3).tr (hF4.1.sub (by decide) (by decide)), rfl, h16⟩
                  · exact absurd b1 id
                · exact absurd b6 id
      by_cases h1 : tkK t n p = 1
      · refine G_S (pc := 2) f_218_2 rfl rfl rfl ?_
        first | refine G_bEq (pc := 3) f_218_3 rfl (fun b1 => ?_) (fun b1 => ?_) | refine G_zeqZ (pc := 3) f_218_3 rfl (by first | exact nI_toInt (by omega) | exact zI_toInt (by omega) (by omega) | rfl) (fun b1 => ?_) (fun b1 => ?_)
        · exfalso; omega
        · refine G_S (pc := 6) f_218_6 rfl rfl rfl ?_
          refine G_gIv (pc := 7) f_218_7 (by decide) rfl (by decide) (by first | assumption | exact hK.1 _ _ rfl) (by first | assumption | exact mI_s | ((refine mI_o (by first | decide | omega) ?_); (repeat (refine mI_o (by first | decide | omega) ?_)); first | exact mI_s | assumption) | rfl) ?_
          first | refine G_bEq (pc := 10) f_218_10 rfl (fun b2 => ?_) (fun b2 => ?_) | refine G_zeqZ (pc := 10) f_218_10 rfl (by first | exact nI_toInt (by omega) | exact zI_toInt (by omega) (by omega) | rfl) (fun b2 => ?_) (fun b2 => ?_)
          · exfalso; omega
          · refine G_S (pc := 13) f_218_13 rfl rfl rfl ?_
            refine G_gIv (pc := 14) f_218_14 (by decide) rfl (by decide) (by first | assumption | exact hK.1 _ _ rfl) (by first | assumption | exact mI_s | ((refine mI_o (by first | decide | omega) ?_); (repeat (refine mI_o (by first | decide | omega) ?_)); first | exact mI_s | assumption) | rfl) ?_
            refine G_S (pc := 17) f_218_17 rfl rfl rfl ?_
            refine G_S (pc := 18) f_218_18 rfl rfl rfl ?_
            refine G_ic (v := nI 1) (pc := 19) f_218_19 (by decide) ?_
            refine G_pZ (pc := 20) f_218_20 rfl (by first | assumption | exact hK.1 _ _ rfl) (by first | exact Or.inl rfl | exact Or.inr rfl | exact b2i_01 _ | assumption) ?_
            refine G_S (pc := 23) f_218_23 rfl rfl rfl ?_
            refine G_S (pc := 24) f_218_24 rfl rfl rfl ?_
            refine G_S (pc := 25) f_218_25 rfl rfl rfl ?_
            refine G_gIv (pc := 26) f_218_26 (by decide) rfl (by decide) (by first | assumption | exact hK.1 _ _ rfl) (g13) ?_
            refine G_ic (v := nI 2) (pc := 29) f_218_29 (by decide) ?_
            refine G_jneZ (pc := 30) f_218_30 rfl (by first | exact nI_toInt (by omega) | exact zI_toInt (by omega) (by omega) | rfl) (by first | exact nI_toInt (by omega) | exact zI_toInt (by omega) (by omega) | rfl) (fun b3 => ?_) (fun b3 => ?_)
            · exfalso; omega
            · refine G_S (pc := 33) f_218_33 rfl rfl rfl ?_
              refine G_gLv (pc := 34) f_218_34 (by decide) rfl (by first | assumption | exact hK.1 _ _ rfl) (t15) ?_
              refine G_S (pc := 37) f_218_37 rfl rfl rfl ?_
              refine G_S (pc := 41) f_218_41 rfl rfl rfl ?_
              refine G_CV (pc := 42) f_218_42 rfl rfl (by decide) rfl rfl (by first | assumption | exact hK.1 _ _ rfl) (by decide) ⟨Nat.le_of_ble_eq_true rfl, Nat.le_of_ble_eq_true rfl⟩ ?_
              refine CG.mono (tl) ?_
              rintro _ M3 ⟨x, rfl, h01, L3⟩
              exact rest _ x M3 L3
      · have hw : wvF t n p = Int64.ofNat 0 := if_neg (fun z => h1 z.1)
        rw [hw] at tl
        refine G_S (pc := 2) f_218_2 rfl rfl rfl ?_
        first | refine G_bEq (pc := 3) f_218_3 rfl (fun b1 => ?_) (fun b1 => ?_) | refine G_zeqZ (pc := 3) f_218_3 rfl (by first | exact nI_toInt (by omega) | exact zI_toInt (by omega) (by omega) | rfl) (fun b1 => ?_) (fun b1 => ?_)
        · exfalso; omega
        · refine G_S (pc := 6) f_218_6 rfl rfl rfl ?_
          refine G_gIv (pc := 7) f_218_7 (by decide) rfl (by decide) (by first | assumption | exact hK.1 _ _ rfl) (by first | assumption | exact mI_s | ((refine mI_o (by first | decide | omega) ?_); (repeat (refine mI_o (by first | decide | omega) ?_)); first | exact mI_s | assumption) | rfl) ?_
          first | refine G_bEq (pc := 10) f_218_10 rfl (fun b2 => ?_) (fun b2 => ?_) | refine G_zeqZ (pc := 10) f_218_10 rfl (by first | exact nI_toInt (by omega) | exact zI_toInt (by omega) (by omega) | rfl) (fun b2 => ?_) (fun b2 => ?_)
          · exfalso; omega
          · refine G_S (pc := 13) f_218_13 rfl rfl rfl ?_
            refine G_gIv (pc := 14) f_218_14 (by decide) rfl (by decide) (by first | assumption | exact hK.1 _ _ rfl) (by first | assumption | exact mI_s | ((refine mI_o (by first | decide | omega) ?_); (repeat (refine mI_o (by first | decide | omega) ?_)); first | exact mI_s | assumption) | rfl) ?_
            refine G_S (pc := 17) f_218_17 rfl rfl rfl ?_
            refine G_S (pc := 18) f_218_18 rfl rfl rfl ?_
            refine G_ic (v := nI 1) (pc := 19) f_218_19 (by decide) ?_
            refine G_pZ (pc := 20) f_218_20 rfl (by first | assumption | exact hK.1 _ _ rfl) (by first | exact Or.inl rfl | exact Or.inr rfl | exact b2i_01 _ | assumption) ?_
            refine G_S (pc := 23) f_218_23 rfl rfl rfl ?_
            refine G_S (pc := 24) f_218_24 rfl rfl rfl ?_
            refine G_S (pc := 25) f_218_25 rfl rfl rfl ?_
            refine G_gIv (pc := 26) f_218_26 (by decide) rfl (by decide) (by first | assumption | exact hK.1 _ _ rfl) (g13) ?_
            refine G_ic (v := nI 2) (pc := 29) f_218_29 (by decide) ?_
            refine G_jneZ (pc := 30) f_218_30 rfl (by first | exact nI_toInt (by omega) | exact zI_toInt (by omega) (by omega) | rfl) (by first | exact nI_toInt (by omega) | exact zI_toInt (by omega) (by omega) | rfl) (fun b3 => ?_) (fun b3 => ?_)
            · refine G_S (pc := 40) f_218_40 rfl rfl rfl ?_
              refine G_S (pc := 41) f_218_41 rfl rfl rfl ?_
              refine G_CV (pc := 42) f_218_42 rfl rfl (by decide) rfl rfl (by first | assumption | exact hK.1 _ _ rfl) (by decide) ⟨Nat.le_of_ble_eq_true rfl, Nat.le_of_ble_eq_true rfl⟩ ?_
              refine CG.mono (tl) ?_
              rintro _ M3 ⟨x, rfl, h01, L3⟩
              exact rest _ x M3 L3
            · exfalso; omega
end MAL
