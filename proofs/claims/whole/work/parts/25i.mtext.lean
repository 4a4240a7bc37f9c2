/-! the reference reads a text -/
def EBd (so : Nat) (E : Nat → Int) : Prop := (so = 0 → (0 ≤ E 0 ∧ E 0 ≤ 8) ∧ 0 ≤ E 2 ∧ E 2 ≤ 8) ∧ (so = 1 → 0 ≤ E 0 ∧ E 0 ≤ 40) ∧ (so = 3 → 0 ≤ E 1 ∧ E 1 ≤ 10)
theorem tkE_eb {so g kd : Nat} {V1 V2 : Int} {gd : Bool} {E : Nat → Int} (hs : so < 4) (h1 : ffN so ≤ g) (h2 : g < ffN (so + 1)) (h : EBd so E) : EBd so (tkE g kd V1 V2 gd E) := by
  rcases ff_r hs h1 h2 with ⟨rfl, hr⟩ | ⟨rfl, hr⟩ | ⟨rfl, hr⟩ | ⟨rfl, hr⟩
  · obtain ⟨a, b⟩ := h.1 rfl
    refine ⟨fun _ => ?_, fun q => absurd q (by decide), fun q => absurd q (by decide)⟩
    rcases (show g = 0 ∨ g = 1 ∨ g = 2 ∨ g = 3 ∨ g = 4 by omega) with rfl | rfl | rfl | rfl | rfl
    · unfold tkE
      rw [if_pos rfl]
      split
      · rw [up1_s, show up1 (up1 E (3 + (E 0).toNat) V1) 0 (E 0 + 1) 2 = E 2 from up1_o (by decide) (up1_o (by omega) rfl)]
        omega
      · exact ⟨a, b⟩
    · show (0 ≤ up1 E 1 V1 0 ∧ up1 E 1 V1 0 ≤ 8) ∧ 0 ≤ up1 E 1 V1 2 ∧ up1 E 1 V1 2 ≤ 8
      rw [up1_o (by decide) rfl, up1_o (by decide) rfl]
      exact ⟨a, b⟩
    · unfold tkE
      rw [if_neg (by decide), if_neg (by decide), if_pos rfl]
      split
      · rw [up1_s, show up1 (up1 (up1 E (11 + (E 2).toNat) (kd : Int)) (19 + (E 2).toNat) V1) 2 (E 2 + 1) 0 = E 0 from up1_o (by decide) (up1_o (by omega) (up1_o (by omega) rfl))]
        omega
      · exact ⟨a, b⟩
    · unfold tkE
      rw [if_neg (by decide), if_neg (by decide), if_neg (by decide), if_pos rfl]
      split
      · rw [up1_o (by omega) rfl, up1_o (by omega) rfl]
        exact ⟨a, b⟩
      · exact ⟨a, b⟩
    · unfold tkE
      rw [if_neg (by decide), if_neg (by decide), if_neg (by decide), if_neg (by decide), if_pos rfl]
      split
      · rw [up1_o (by omega) rfl, up1_o (by omega) rfl]
        exact ⟨a, b⟩
      · exact ⟨a, b⟩
  · have a := h.2.1 rfl
    refine ⟨fun q => absurd q (by decide), fun _ => ?_, fun q => absurd q (by decide)⟩
    unfold tkE
    rw [if_neg (by omega), if_neg (by omega), if_neg (by omega), if_neg (by omega), if_neg (by omega), if_pos (by omega)]
    split
    · exact a
    · rw [ad3_c]
      omega
  · exact ⟨fun q => absurd q (by decide), fun q => absurd q (by decide), fun q => absurd q (by decide)⟩
  · have a := h.2.2 rfl
    refine ⟨fun q => absurd q (by decide), fun q => absurd q (by decide), fun _ => ?_⟩
    unfold tkE
    rw [if_neg (by omega), if_neg (by omega), if_neg (by omega), if_neg (by omega), if_neg (by omega), if_neg (by omega), if_neg (by omega), if_neg (by omega)]
    split
    · rw [up1_o (by decide) rfl]
      exact a
    · split
      · exact a
      · rw [ad3_c]
        omega
/-- what a line keeps -/
theorem ln_eb {t : Nat → Int} {n so g T p : Nat} {E : Nat → Int} {f : Nat × Nat} {q : Nat × (Nat × Nat) × (Nat → Int) × Nat} (hs : so < 4) (h1 : ffN so ≤ g) (h2 : g < ffN (so + 1)) (hE : EBd so E) (hT : T < 128) (hp : p ≤ n) (h3 : f.1 = 0 → so = 3 → 1 ≤ E 0 ∧ E 0 ≤ 4) (h : lnS t n g E T f p = .inr q) : EBd so q.2.2.1 ∧ q.2.2.2 < 128 ∧ (q.2.1.1 = 0 → so = 3 → 1 ≤ q.2.2.1 0 ∧ q.2.2.1 0 ≤ 4) := by
  have hg : g < 18 := by
    have := (ffN_at (so + 1) (by omega)).2
    omega
  unfold lnS at h
  cases hk : kdS t n g p with
  | inl e =>
    rw [hk] at h
    cases h
  | inr pk =>
    rw [hk] at h
    dsimp only at h
    have hb := kdS_b hp hk
    cases hm : nmS t n g (fmN g 1) 0 pk.1 f with
    | inl e =>
      rw [hm] at h
      cases h
    | inr pf =>
      rw [hm] at h
      cases h
      refine ⟨tkE_eb hs h1 h2 hE, ?_, fun h0 hs3 => ?_⟩
      · show tkT g (v1F t n g pk.1) T < 128
        unfold tkT
        split
        · rename_i h16
          have hv : (v1F t n g pk.1).toNat < 128 := by
            unfold v1F
            split
            · rename_i hc
              have hk2 : tkK t n pk.1 = 2 := by
                rcases (show fmN g 1 = 1 ∨ fmN g 1 = 2 by have := (fmN_c g hg).2; omega) with e | e
                · rw [e, nmS] at hm
                  split at hm
                  · assumption
                  · cases hm
                · rw [e, nmS] at hm
                  split at hm
                  · assumption
                  · cases hm
              have := (vN_at hb.2.1 hk2).2
              omega
            · decide
          exact Nat.or_lt_two_pow (n := 7) hT hv
        · exact hT
      · subst hs3
        have hz := nmS_good hg hm h0
        have ha := h3 hz.1 rfl
        have hr := ff_r hs h1 h2
        have hr : 15 ≤ g ∧ g < 18 := by omega
        show 1 ≤ tkE g pk.2 (v1F t n g pk.1) (v2F t n g pk.1) (goodB t n g pk.1) E 0 ∧ tkE g pk.2 (v1F t n g pk.1) (v2F t n g pk.1) (goodB t n g pk.1) E 0 ≤ 4
        by_cases h15 : g = 15
        · subst h15
          have hv := (good_1 hz.2).1 (by decide)
          rw [bad_d (lo := 1) (hi := 4) (by decide) (by decide)] at hv
          have hv := of_decide_eq_false hv
          have e : v1F t n 15 pk.1 = (vN t n pk.1 : Int) := if_pos (by decide)
          rw [e]
          show 1 ≤ up1 E 0 (vN t n pk.1 : Int) 0 ∧ up1 E 0 (vN t n pk.1 : Int) 0 ≤ 4
          rw [up1_s]
          omega
        · unfold tkE
          rw [if_neg (by omega), if_neg (by omega), if_neg (by omega), if_neg (by omega), if_neg (by omega), if_neg (by omega), if_neg (by omega), if_neg (by omega), if_neg (by omega)]
          split
          · exact ha
          · rw [ad3_o (by decide) (by omega) (by omega) (by omega)]
            exact ha
section MTX
variable {C : Ct} {M : Mm} {t : Nat → Int} {n p T so : Nat} {f : Nat × Nat} {E : Nat → Int}
def lfF (t : Nat → Int) (n so : Nat) (E : Nat → Int) (T : Nat) (f : Nat × Nat) (p : Nat) : Sum Nat (Nat × (Nat × Nat) × (Nat → Int) × Nat) := match fmH t n so p with
  | none => .inl (skp t n p)
  | some g => lnS t n g E T (nt f (fulB g E) 3 (skp t n p)) (tkR t n p)
theorem stm_lf : stm t n so E T f p = (match lfF t n so E T f p with
  | .inl e => .inl e
  | .inr q => if tkK t n q.1 = 3 then .inr (tkR t n q.1, q.2) else .inl (skp t n q.1)) := by
  unfold lfF
  cases hg : fmH t n so p with
  | none =>
    unfold stm
    rw [hg]
  | some g => exact stm_ln hg
theorem m_lineOf (S : MSt M t n p f E T) (hk : tkK t n p ≠ 0) (hs : so < 4) (hE : EBd so E) : CG C 217 [.ref 98, .int (nI so), .long (wvF t n p), .int (nI (skp t n p))] M (fun w M' => ∃ x : Int32, w = some (.int x) ∧ (x = 0 ∨ x = 1) ∧ LNq t n M (lfF t n so E T f p) (some (.int x)) M') := by
  have hK := S.1.1
  have hp := S.2.2.2.2.2.2.2
  have hn6 := S.1.2.2.1
  have hx := tk_nx hp hk
  have hn : skp t n p ≤ 600 := by omega
  unfold lfF
  cases hg : fmH t n so p with
  | none =>
    have hno : ∀ g, ffN so ≤ g → g < ffN (so + 1) → ¬ wvF t n p = nL (wk g) := fun g h1 h2 z => by
      have h3 := (ffN_at (so + 1) (by omega)).2
      exact leastF_none _ _ hg g h1 (by omega) ((wv_iff hp (by omega)).mp z)
    obtain ⟨f0, f1, f2, f3, f4⟩ := ff_0
    rcases (show so = 0 ∨ so = 1 ∨ so = 2 ∨ so = 3 by omega) with rfl | rfl | rfl | rfl
    · refine CG_in (mL := 5) (hl := true) (lv := [some (.ref 98), some (.int (nI 0)), none, none, some (.int (nI (skp t n p)))]) (ll := [none, none, some (wvF t n p), none, none]) rfl rfl rfl ?_
      refine G_S (pc := 0) f_217_0 rfl rfl rfl ?_
      skip
      · refine G_S (pc := 1) f_217_1 rfl rfl rfl ?_
        refine G_S (pc := 28) f_217_28 rfl rfl rfl ?_
        refine G_S (pc := 29) f_217_29 rfl rfl rfl ?_
        refine G_S (pc := 30) f_217_30 rfl rfl rfl ?_
        refine G_CV (pc := 32) f_217_32 rfl rfl (by decide) rfl rfl (by first | assumption | exact hK.1 _ _ rfl) (by decide) ⟨Nat.le_of_ble_eq_true rfl, Nat.le_of_ble_eq_true rfl⟩ ?_
        refine CG.mono (LNx (m_lineN S (fun g h => hno g (by omega) (by show g < ffN 1; omega)))) ?_
        rintro _ M2 ⟨x, rfl, h01, L2⟩
        refine G_rz (pc := 35) f_217_35 h01 ?_
        exact ⟨x, rfl, h01, L2⟩
    · refine CG_in (mL := 5) (hl := true) (lv := [some (.ref 98), some (.int (nI 1)), none, none, some (.int (nI (skp t n p)))]) (ll := [none, none, some (wvF t n p), none, none]) rfl rfl rfl ?_
      refine G_S (pc := 0) f_217_0 rfl rfl rfl ?_
      skip
      · refine G_S (pc := 1) f_217_1 rfl rfl rfl ?_
        refine G_S (pc := 36) f_217_36 rfl rfl rfl ?_
        refine G_S (pc := 37) f_217_37 rfl rfl rfl ?_
        refine G_S (pc := 38) f_217_38 rfl rfl rfl ?_
        refine G_CV (pc := 40) f_217_40 rfl rfl (by decide) rfl rfl (by first | assumption | exact hK.1 _ _ rfl) (by decide) ⟨Nat.le_of_ble_eq_true rfl, Nat.le_of_ble_eq_true rfl⟩ ?_
        refine CG.mono (LNx (m_rideN S (fun g h h' => hno g (by omega) (by show g < ffN 2; omega)))) ?_
        rintro _ M2 ⟨x, rfl, h01, L2⟩
        refine G_rz (pc := 43) f_217_43 h01 ?_
        exact ⟨x, rfl, h01, L2⟩
    · refine CG_in (mL := 5) (hl := true) (lv := [some (.ref 98), some (.int (nI 2)), none, none, some (.int (nI (skp t n p)))]) (ll := [none, none, some (wvF t n p), none, none]) rfl rfl rfl ?_
      refine G_S (pc := 0) f_217_0 rfl rfl rfl ?_
      skip
      · refine G_S (pc := 1) f_217_1 rfl rfl rfl ?_
        refine G_S (pc := 44) f_217_44 rfl rfl rfl ?_
        refine G_S (pc := 45) f_217_45 rfl rfl rfl ?_
        refine G_CV (pc := 46) f_217_46 rfl rfl (by decide) rfl rfl (by first | assumption | exact hK.1 _ _ rfl) (by decide) ⟨Nat.le_of_ble_eq_true rfl, Nat.le_of_ble_eq_true rfl⟩ ?_
        refine CG.mono (LNx (m_flowN S (fun g h h' => hno g (by omega) (by show g < ffN 3; omega)))) ?_
        rintro _ M2 ⟨x, rfl, h01, L2⟩
        refine G_rz (pc := 49) f_217_49 h01 ?_
        exact ⟨x, rfl, h01, L2⟩
    · refine CG_in (mL := 5) (hl := true) (lv := [some (.ref 98), some (.int (nI 3)), none, none, some (.int (nI (skp t n p)))]) (ll := [none, none, some (wvF t n p), none, none]) rfl rfl rfl ?_
      refine G_S (pc := 0) f_217_0 rfl rfl rfl ?_
      skip
      · refine G_tsO (pc := 1) f_217_1 rfl ((Or.inr (by decide))) ?_
        refine G_S (pc := 50) f_217_50 rfl rfl rfl ?_
        refine G_S (pc := 51) f_217_51 rfl rfl rfl ?_
        refine G_S (pc := 52) f_217_52 rfl rfl rfl ?_
        refine G_CV (pc := 54) f_217_54 rfl rfl (by decide) rfl rfl (by first | assumption | exact hK.1 _ _ rfl) (by decide) ⟨Nat.le_of_ble_eq_true rfl, Nat.le_of_ble_eq_true rfl⟩ ?_
        refine CG.mono (LNx (m_sightN S (fun g h h' => hno g (by omega) (by show g < ffN 4; omega)))) ?_
        rintro _ M2 ⟨x, rfl, h01, L2⟩
        refine G_rz (pc := 57) f_217_57 h01 ?_
        exact ⟨x, rfl, h01, L2⟩
  | some g =>
    obtain ⟨h1, h2, hg18, hwd⟩ := fmH_lt hs hg
    have hw := (wv_iff hp (show g < 22 by omega)).mpr hwd
    dsimp only
    rcases ff_r hs h1 h2 with ⟨rfl, hr⟩ | ⟨rfl, hr⟩ | ⟨rfl, hr⟩ | ⟨rfl, hr⟩
    · refine CG_in (mL := 5) (hl := true) (lv := [some (.ref 98), some (.int (nI 0)), none, none, some (.int (nI (skp t n p)))]) (ll := [none, none, some (wvF t n p), none, none]) rfl rfl rfl ?_
      refine G_S (pc := 0) f_217_0 rfl rfl rfl ?_
      skip
      · refine G_S (pc := 1) f_217_1 rfl rfl rfl ?_
        refine G_S (pc := 28) f_217_28 rfl rfl rfl ?_
        refine G_S (pc := 29) f_217_29 rfl rfl rfl ?_
        refine G_S (pc := 30) f_217_30 rfl rfl rfl ?_
        refine G_CV (pc := 32) f_217_32 rfl rfl (by decide) rfl rfl (by first | assumption | exact hK.1 _ _ rfl) (by decide) ⟨Nat.le_of_ble_eq_true rfl, Nat.le_of_ble_eq_true rfl⟩ ?_
        refine CG.mono (LNx (m_lineL S hk hn (hE.1 rfl).1 (hE.1 rfl).2 hr hw)) ?_
        rintro _ M2 ⟨x, rfl, h01, L2⟩
        refine G_rz (pc := 35) f_217_35 h01 ?_
        exact ⟨x, rfl, h01, L2⟩
    · refine CG_in (mL := 5) (hl := true) (lv := [some (.ref 98), some (.int (nI 1)), none, none, some (.int (nI (skp t n p)))]) (ll := [none, none, some (wvF t n p), none, none]) rfl rfl rfl ?_
      refine G_S (pc := 0) f_217_0 rfl rfl rfl ?_
      skip
      · refine G_S (pc := 1) f_217_1 rfl rfl rfl ?_
        refine G_S (pc := 36) f_217_36 rfl rfl rfl ?_
        refine G_S (pc := 37) f_217_37 rfl rfl rfl ?_
        refine G_S (pc := 38) f_217_38 rfl rfl rfl ?_
        refine G_CV (pc := 40) f_217_40 rfl rfl (by decide) rfl rfl (by first | assumption | exact hK.1 _ _ rfl) (by decide) ⟨Nat.le_of_ble_eq_true rfl, Nat.le_of_ble_eq_true rfl⟩ ?_
        refine CG.mono (LNx (m_rideL S hk hn (hE.2.1 rfl) ⟨hr.1, by omega⟩ hw)) ?_
        rintro _ M2 ⟨x, rfl, h01, L2⟩
        refine G_rz (pc := 43) f_217_43 h01 ?_
        exact ⟨x, rfl, h01, L2⟩
    · refine CG_in (mL := 5) (hl := true) (lv := [some (.ref 98), some (.int (nI 2)), none, none, some (.int (nI (skp t n p)))]) (ll := [none, none, some (wvF t n p), none, none]) rfl rfl rfl ?_
      refine G_S (pc := 0) f_217_0 rfl rfl rfl ?_
      skip
      · refine G_S (pc := 1) f_217_1 rfl rfl rfl ?_
        refine G_S (pc := 44) f_217_44 rfl rfl rfl ?_
        refine G_S (pc := 45) f_217_45 rfl rfl rfl ?_
        refine G_CV (pc := 46) f_217_46 rfl rfl (by decide) rfl rfl (by first | assumption | exact hK.1 _ _ rfl) (by decide) ⟨Nat.le_of_ble_eq_true rfl, Nat.le_of_ble_eq_true rfl⟩ ?_
        refine CG.mono (LNx (m_flowL S hk (by omega) hw)) ?_
        rintro _ M2 ⟨x, rfl, h01, L2⟩
        refine G_rz (pc := 49) f_217_49 h01 ?_
        exact ⟨x, rfl, h01, L2⟩
    · have ts : CG C 216 [.ref 98, .long (wvF t n p), .int (nI (skp t n p))] M (LNq t n M (lnS t n g E T (nt f (fulB g E) 3 (skp t n p)) (tkR t n p))) := by
        rw [hw, kw_f g hg18]
        rcases (show g = 15 ∨ g = 16 ∨ g = 17 by omega) with rfl | rfl | rfl
        · exact m_sight15 S hk
        · exact m_sight16 S hk hn (hE.2.2 rfl)
        · exact m_sight17 S hk hn (hE.2.2 rfl)
      refine CG_in (mL := 5) (hl := true) (lv := [some (.ref 98), some (.int (nI 3)), none, none, some (.int (nI (skp t n p)))]) (ll := [none, none, some (wvF t n p), none, none]) rfl rfl rfl ?_
      refine G_S (pc := 0) f_217_0 rfl rfl rfl ?_
      skip
      · refine G_tsO (pc := 1) f_217_1 rfl ((Or.inr (by decide))) ?_
        refine G_S (pc := 50) f_217_50 rfl rfl rfl ?_
        refine G_S (pc := 51) f_217_51 rfl rfl rfl ?_
        refine G_S (pc := 52) f_217_52 rfl rfl rfl ?_
        refine G_CV (pc := 54) f_217_54 rfl rfl (by decide) rfl rfl (by first | assumption | exact hK.1 _ _ rfl) (by decide) ⟨Nat.le_of_ble_eq_true rfl, Nat.le_of_ble_eq_true rfl⟩ ?_
        refine CG.mono (LNx ts) ?_
        rintro _ M2 ⟨x, rfl, h01, L2⟩
        refine G_rz (pc := 57) f_217_57 h01 ?_
        exact ⟨x, rfl, h01, L2⟩
end MTX
