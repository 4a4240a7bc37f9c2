/-! calm: the class -/
section CAC
variable {C : Ct} {M : Mm} {n m h S : Nat} {L : Nat → Nat → Nat} {k x y z : Int32} {D a b : Nat → Nat}
theorem b_sit (W : LW M h D) (hS : S < 256) (hSD : S < 2 ^ D 2) (hp : pc8 S ≤ 6) : CG C 3 [.ref 89, .ref h, .int (nI S)] M (fun w M' => w = none ∧ Fo [89, 90] M M' ∧ M'.2.1 89 0 = nI (pc8 S) ∧ ∀ i, i < pc8 S → M'.2.1 90 i = nI (odF S (D 2) i)) := by
  have hn2 : D 2 ≤ 8 := W.2.2.1.1.2.2.1
  have hpc := pcN_at (D 2) (by omega) S hS hSD
  have mono : ∀ d i, i + d = D 2 → pcN S i ≤ pc8 S := by
    intro d
    induction d with
    | zero =>
      intro i hi
      rw [← hpc, show i = D 2 by omega]
      exact Nat.le_refl _
    | succ d ih =>
      intro i hi
      have := ih (i + 1) (by omega)
      by_cases hb : S.testBit i = true
      · rw [pcN_y hb] at this
        omega
      · rw [pcN_n hb] at this
        exact this
  have loop : ∀ i, i ≤ D 2 → ∀ M1, Fo [89, 90] M M1 → M1.2.1 89 0 = nI (pcN S i) → (∀ j, j < pcN S i → M1.2.1 90 j = nI (odF S i j)) → G C 3 (7, [some (.ref 89), some (.ref h), some (.int (nI S)), some (.int (nI i))], [], [], M1) (fun w M' => w = none ∧ Fo [89, 90] M M' ∧ M'.2.1 89 0 = nI (pc8 S) ∧ ∀ i, i < pc8 S → M'.2.1 90 i = nI (odF S (D 2) i)) := by
    refine upto (fun i hi ih M1 hF h0 hq => ?_)
    have W1 : LW M1 h D := W.fc hF.c (by decide)
    have hK := W1.1
    obtain ⟨⟨t0, t1, t2, t3, t4, t5, t6⟩, r0, r3, r4, r6, r7, r8⟩ := W1.2.1
    obtain ⟨hD, ⟨v0, v1, v2⟩, vh, vr, vw, vf⟩ := W1.2.2.1
    have hs := W1.2.2.2.1
    have hh := W1.2.2.2.2
    have hn0 : _ ≤ 8 := hD.1
    have hn1 : _ ≤ 6 := hD.2.1.2
    have hn2 : _ ≤ 8 := hD.2.2.1
    have hle := mono (D 2 - i) i (by omega)
    have hb1 : i < D 2 → S.testBit i = true → pcN S i < 6 := fun z hb => by
      have := mono (D 2 - (i + 1)) (i + 1) (by omega)
      rw [pcN_y hb] at this
      omega
    refine G_S (pc := 7) f_3_7 rfl rfl rfl ?_
    refine G_S (pc := 8) f_3_8 rfl rfl rfl ?_
    refine G_gIv (pc := 9) f_3_9 (by decide) rfl (by decide) (by first | assumption | exact hK.1 _ _ rfl) (by first | assumption | exact mI_s | ((refine mI_o (by first | decide | omega) ?_); (repeat (refine mI_o (by first | decide | omega) ?_)); first | exact mI_s | assumption) | rfl) ?_
    refine G_jgeZ (pc := 12) f_3_12 rfl (by first | exact nI_toInt (by omega) | exact zI_toInt (by omega) (by omega) | rfl) (by first | exact nI_toInt (by omega) | exact zI_toInt (by omega) (by omega) | rfl) (fun b1 => ?_) (fun b1 => ?_)
    · refine G_rv (pc := 58) f_3_58 ?_
      have e : i = D 2 := by omega
      subst e
      rw [hpc] at h0 hq
      exact ⟨rfl, hF, h0, hq⟩
    · refine G_S (pc := 15) f_3_15 rfl rfl rfl ?_
      refine G_S (pc := 16) f_3_16 rfl rfl rfl ?_
      refine G_CS (pc := 17) f_3_17 rfl rfl (by decide) rfl rfl ⟨Nat.le_of_ble_eq_true rfl, Nat.le_of_ble_eq_true rfl⟩ ?_
      refine CG.go (c_holds (by omega) (by omega)) ?_
      first | refine G_bEq (pc := 20) f_3_20 rfl (fun b2 => ?_) (fun b2 => ?_) | refine G_zeqZ (pc := 20) f_3_20 rfl (by first | exact nI_toInt (by omega) | exact zI_toInt (by omega) (by omega) | rfl) (fun b2 => ?_) (fun b2 => ?_)
      · first | refine G_inc1 (pc := 52) f_3_52 rfl ?_ | refine G_S (pc := 52) f_3_52 rfl rfl rfl ?_
        refine G_S (pc := 55) f_3_55 rfl rfl rfl ?_
        first
          | (refine ih (by omega) M1 hF ?_ ?_
             · rw [pcN_n b2]
               exact h0
             · rw [pcN_n b2, odF, if_neg b2]
               exact hq)
          | (refine ih (by omega) _ (hF.tr ((Fo.up (i := 90) (k := pcN S i) (x := nI i) (by decide)).tr (Fo.up (i := 89) (k := 0) (x := nI (pcN S i + 1)) (by decide)))) ?_ ?_
             · rw [pcN_y b2]
               exact (by (try dsimp only); exact up2_s)
             · intro j hj
               rw [pcN_y b2] at hj
               rw [odF, if_pos b2]
               by_cases e : j = pcN S i
               · subst e
                 rw [up1_s]
                 exact (by (try dsimp only); exact up2_o (by omega) (by (try dsimp only); exact up2_s))
               · rw [up1_o e rfl]
                 exact (by (try dsimp only); exact up2_o (by omega) (by (try dsimp only); exact up2_o (by omega) (hq j (by omega)))))
      · have hb1 := hb1 (by omega) b2
        refine G_S (pc := 23) f_3_23 rfl rfl rfl ?_
        refine G_gIv (pc := 24) f_3_24 (by decide) rfl (by decide) (by first | assumption | exact hK.1 _ _ rfl) (by first | assumption | exact mI_s | ((refine mI_o (by first | decide | omega) ?_); (repeat (refine mI_o (by first | decide | omega) ?_)); first | exact mI_s | assumption) | rfl) ?_
        refine G_bi (v := nI 6) (pc := 27) f_3_27 (by decide) ?_
        refine G_jgeZ (pc := 29) f_3_29 rfl (by first | exact nI_toInt (by omega) | exact zI_toInt (by omega) (by omega) | rfl) (by first | exact nI_toInt (by omega) | exact zI_toInt (by omega) (by omega) | rfl) (fun b3 => ?_) (fun b3 => ?_)
        · exfalso; omega
        · refine G_S (pc := 32) f_3_32 rfl rfl rfl ?_
          refine G_gR (pc := 33) f_3_33 (by decide) rfl (by first | assumption | exact hK.1 _ _ rfl) (by first | assumption | exact hK.2 _ _ _ rfl | (try dsimp only) <;> (repeat (first | exact up2_s | refine up2_o (by first | decide | omega) ?_)) <;> first | assumption | exact hK.2 _ _ _ rfl) ?_
          refine G_S (pc := 36) f_3_36 rfl rfl rfl ?_
          refine G_gIv (pc := 37) f_3_37 (by decide) rfl (by decide) (by first | assumption | exact hK.1 _ _ rfl) (by first | assumption | exact mI_s | ((refine mI_o (by first | decide | omega) ?_); (repeat (refine mI_o (by first | decide | omega) ?_)); first | exact mI_s | assumption) | rfl) ?_
          refine G_S (pc := 40) f_3_40 rfl rfl rfl ?_
          refine G_isN (pc := 41) f_3_41 (by first | assumption | exact hK.1 _ _ rfl) (by omega) (by omega) ?_
          refine G_S (pc := 42) f_3_42 rfl rfl rfl ?_
          refine G_S (pc := 43) f_3_43 rfl rfl rfl ?_
          refine G_gIv (pc := 44) f_3_44 (by decide) rfl (by decide) (by first | assumption | exact hK.1 _ _ rfl) ((mI_o (by omega) h0)) ?_
          refine G_ic (v := nI 1) (pc := 47) f_3_47 (by decide) ?_
          first | refine G_addN (pc := 48) f_3_48 ?_ | refine G_addZ (pc := 48) f_3_48 (by first | rfl | exact nI_zI _) (by first | rfl | exact nI_zI _) ?_ | refine G_S (pc := 48) f_3_48 rfl rfl rfl ?_
          refine G_pI (pc := 49) f_3_49 rfl (by first | assumption | exact hK.1 _ _ rfl) ?_
          first | refine G_inc1 (pc := 52) f_3_52 rfl ?_ | refine G_S (pc := 52) f_3_52 rfl rfl rfl ?_
          refine G_S (pc := 55) f_3_55 rfl rfl rfl ?_
          first
            | (refine ih (by omega) M1 hF ?_ ?_
               · rw [pcN_n b2]
                 exact h0
               · rw [pcN_n b2, odF, if_neg b2]
                 exact hq)
            | (refine ih (by omega) _ (hF.tr ((Fo.up (i := 90) (k := pcN S i) (x := nI i) (by decide)).tr (Fo.up (i := 89) (k := 0) (x := nI (pcN S i + 1)) (by decide)))) ?_ ?_
               · rw [pcN_y b2]
                 exact (by (try dsimp only); exact up2_s)
               · intro j hj
                 rw [pcN_y b2] at hj
                 rw [odF, if_pos b2]
                 by_cases e : j = pcN S i
                 · subst e
                   rw [up1_s]
                   exact (by (try dsimp only); exact up2_o (by omega) (by (try dsimp only); exact up2_s))
                 · rw [up1_o e rfl]
                   exact (by (try dsimp only); exact up2_o (by omega) (by (try dsimp only); exact up2_o (by omega) (hq j (by omega)))))
  have hK := W.1
  obtain ⟨⟨t0, t1, t2, t3, t4, t5, t6⟩, r0, r3, r4, r6, r7, r8⟩ := W.2.1
  obtain ⟨hD, ⟨v0, v1, v2⟩, vh, vr, vw, vf⟩ := W.2.2.1
  have hs := W.2.2.2.1
  have hh := W.2.2.2.2
  have hn0 : _ ≤ 8 := hD.1
  have hn1 : _ ≤ 6 := hD.2.1.2
  have hn2 : _ ≤ 8 := hD.2.2.1
  refine CG_in (mL := 4) (hl := false) (lv := [some (.ref 89), some (.ref h), some (.int (nI S)), none]) (ll := []) rfl rfl rfl ?_
  refine G_S (pc := 0) f_3_0 rfl rfl rfl ?_
  refine G_ic (v := nI 0) (pc := 1) f_3_1 (by decide) ?_
  refine G_pI (pc := 2) f_3_2 rfl (by first | assumption | exact hK.1 _ _ rfl) ?_
  refine G_ic (v := nI 0) (pc := 5) f_3_5 (by decide) ?_
  refine G_S (pc := 6) f_3_6 rfl rfl rfl ?_
  refine loop 0 (Nat.zero_le _) _ (Fo.up (i := 89) (k := 0) (x := nI 0) (by decide)) (by (try dsimp only); exact up2_s) (fun j hj => absurd hj (by show ¬ j < 0; omega))
theorem b_great {c : Nat} (W : LW M h D) (hm : 1 ≤ m ∧ m ≤ 6) (hs : M.2.1 89 0 = nI m) (hq : ∀ i, i < m → M.2.1 90 i = nI (a i)) (ha : ∀ i, i < m → a i < D 2) (hc : c ≤ 9) : CG C 4 [.ref 89, .ref h, .int (nI c)] M (fun w M' => w = some (.int (nI (mxA a (itN (fun b => shM a b (m - 1)) c (fun r => D (19 + r))) m))) ∧ Fo [92] M M') := by
  have hn2 : D 2 ≤ 8 := W.2.2.1.1.2.2.1
  have keep : ∀ {N}, Fo [92] M N → KM N.1 N.2.2.2 ∧ N.2.1 89 0 = nI m ∧ ∀ i, i < m → N.2.1 90 i = nI (a i) := fun hF => ⟨hF.K W.1, by rw [(hF.2 89 (by decide)).1]; exact hs, by rw [(hF.2 90 (by decide)).1]; exact hq⟩
  have loop3 : ∀ b M1, Fo [92] M M1 → (∀ r, r < D 2 → M1.2.1 92 r = nI (b r)) → (∀ r, r < D 2 → b r ≤ 99) → ∀ i, i ≤ m → G C 4 (72, [some (.ref 89), some (.ref h), some (.int (nI c)), some (.int (nI (mxA a b i))), some (.int (nI i))], [], [], M1) (fun w M' => w = some (.int (nI (mxA a b m))) ∧ Fo [92] M M') := by
    intro b M1 hF hb hb9
    obtain ⟨hK, hs1, hq1⟩ := keep hF
    refine upto (fun i hi ih => ?_)
    have hmi := mxA_le ha hb9 i hi
    have h1 : i < m → M1.2.1 90 i = nI (a i) := fun z => hq1 i z
    have h2 : i < m → M1.2.1 92 (a i) = nI (b (a i)) ∧ b (a i) ≤ 99 ∧ a i < 8 := fun z => ⟨hb _ (ha i z), hb9 _ (ha i z), by have := ha i z; omega⟩
    refine G_S (pc := 72) f_4_72 rfl rfl rfl ?_
    refine G_S (pc := 74) f_4_74 rfl rfl rfl ?_
    refine G_gIv (pc := 75) f_4_75 (by decide) rfl (by decide) (by first | assumption | exact hK.1 _ _ rfl) (by first | assumption | exact mI_s | ((refine mI_o (by first | decide | omega) ?_); (repeat (refine mI_o (by first | decide | omega) ?_)); first | exact mI_s | assumption) | rfl) ?_
    refine G_jgeZ (pc := 78) f_4_78 rfl (by first | exact nI_toInt (by omega) | exact zI_toInt (by omega) (by omega) | rfl) (by first | exact nI_toInt (by omega) | exact zI_toInt (by omega) (by omega) | rfl) (fun b3 => ?_) (fun b3 => ?_)
    · refine G_S (pc := 104) f_4_104 rfl rfl rfl ?_
      refine G_ri (pc := 105) f_4_105 ?_
      rw [show i = m by omega]
      exact ⟨rfl, hF⟩
    · have h1 := h1 (by omega)
      obtain ⟨h2, h3, h4⟩ := h2 (by omega)
      refine G_S (pc := 81) f_4_81 rfl rfl rfl ?_
      refine G_S (pc := 82) f_4_82 rfl rfl rfl ?_
      refine G_gR (pc := 83) f_4_83 (by decide) rfl (by first | assumption | exact hK.1 _ _ rfl) (by first | assumption | exact hK.2 _ _ _ rfl | (try dsimp only) <;> (repeat (first | exact up2_s | refine up2_o (by first | decide | omega) ?_)) <;> first | assumption | exact hK.2 _ _ _ rfl) ?_
      refine G_S (pc := 86) f_4_86 rfl rfl rfl ?_
      refine G_gR (pc := 87) f_4_87 (by decide) rfl (by first | assumption | exact hK.1 _ _ rfl) (by first | assumption | exact hK.2 _ _ _ rfl | (try dsimp only) <;> (repeat (first | exact up2_s | refine up2_o (by first | decide | omega) ?_)) <;> first | assumption | exact hK.2 _ _ _ rfl) ?_
      refine G_S (pc := 90) f_4_90 rfl rfl rfl ?_
      refine G_iaN (pc := 92) f_4_92 (by first | assumption | exact hK.1 _ _ rfl) (by omega) (by omega) (by first | exact h1 | rfl) ?_
      refine G_iaN (pc := 93) f_4_93 (by first | assumption | exact hK.1 _ _ rfl) (by omega) (by omega) (by first | exact h2 | rfl) ?_
      first | refine G_maxN (pc := 94) f_4_94 rfl rfl (by omega) (by omega) ?_ | refine G_maxZ (pc := 94) f_4_94 rfl rfl (by first | exact nI_toInt (by omega) | exact zI_toInt (by omega) (by omega) | rfl) (by first | exact nI_toInt (by omega) | exact zI_toInt (by omega) (by omega) | rfl) ?_
      refine G_S (pc := 97) f_4_97 rfl rfl rfl ?_
      first | refine G_inc1 (pc := 98) f_4_98 rfl ?_ | refine G_S (pc := 98) f_4_98 rfl rfl rfl ?_
      refine G_S (pc := 101) f_4_101 rfl rfl rfl ?_
      exact ih (by omega)
  have loop2 : ∀ i b M1, Fo [92] M M1 → (∀ r, r < D 2 → b r ≤ 99) → ∀ s, s ≤ m - 1 → ∀ M1, Fo [92] M M1 → (∀ r, r < D 2 → M1.2.1 92 r = nI (shM a b s r)) → (∀ M2, Fo [92] M M2 → (∀ r, r < D 2 → M2.2.1 92 r = nI (shM a b (m - 1) r)) → ∀ v, G C 4 (13, [some (.ref 89), some (.ref h), some (.int (nI c)), some (.int (nI (i + 1))), v], [], [], M2) (fun w M' => w = some (.int (nI (mxA a (itN (fun b => shM a b (m - 1)) c (fun r => D (19 + r))) m))) ∧ Fo [92] M M')) → G C 4 (21, [some (.ref 89), some (.ref h), some (.int (nI c)), some (.int (nI i)), some (.int (nI s))], [], [], M1) (fun w M' => w = some (.int (nI (mxA a (itN (fun b => shM a b (m - 1)) c (fun r => D (19 + r))) m))) ∧ Fo [92] M M') := by
    intro i b _ _ hb9
    refine upto (fun s hs' ih M1 hF hb K => ?_)
    obtain ⟨hK, hs1, hq1⟩ := keep hF
    have hsl := shM_le ha hb9 s (by omega)
    have h1 : s + 1 < m → M1.2.1 90 s = nI (a s) := fun z => hq1 s (by omega)
    have h2 : s + 1 < m → M1.2.1 90 (s + 1) = nI (a (s + 1)) := fun z => hq1 (s + 1) z
    refine G_S (pc := 21) f_4_21 rfl rfl rfl ?_
    refine G_ic (v := nI 1) (pc := 23) f_4_23 (by decide) ?_
    first | refine G_addN (pc := 24) f_4_24 ?_ | refine G_addZ (pc := 24) f_4_24 (by first | rfl | exact nI_zI _) (by first | rfl | exact nI_zI _) ?_ | refine G_S (pc := 24) f_4_24 rfl rfl rfl ?_
    refine G_S (pc := 25) f_4_25 rfl rfl rfl ?_
    refine G_gIv (pc := 26) f_4_26 (by decide) rfl (by decide) (by first | assumption | exact hK.1 _ _ rfl) (by first | assumption | exact mI_s | ((refine mI_o (by first | decide | omega) ?_); (repeat (refine mI_o (by first | decide | omega) ?_)); first | exact mI_s | assumption) | rfl) ?_
    refine G_jgeZ (pc := 29) f_4_29 rfl (by first | exact nI_toInt (by omega) | exact zI_toInt (by omega) (by omega) | rfl) (by first | exact nI_toInt (by omega) | exact zI_toInt (by omega) (by omega) | rfl) (fun b2 => ?_) (fun b2 => ?_)
    · first | refine G_inc1 (pc := 61) f_4_61 rfl ?_ | refine G_S (pc := 61) f_4_61 rfl rfl rfl ?_
      refine G_S (pc := 64) f_4_64 rfl rfl rfl ?_
      rw [show s = m - 1 by omega] at hb
      exact K M1 hF hb _
    · have h1 := h1 (by omega)
      have h2 := h2 (by omega)
      refine G_S (pc := 32) f_4_32 rfl rfl rfl ?_
      refine G_gR (pc := 33) f_4_33 (by decide) rfl (by first | assumption | exact hK.1 _ _ rfl) (by first | assumption | exact hK.2 _ _ _ rfl | (try dsimp only) <;> (repeat (first | exact up2_s | refine up2_o (by first | decide | omega) ?_)) <;> first | assumption | exact hK.2 _ _ _ rfl) ?_
      refine G_S (pc := 36) f_4_36 rfl rfl rfl ?_
      refine G_gR (pc := 37) f_4_37 (by decide) rfl (by first | assumption | exact hK.1 _ _ rfl) (by first | assumption | exact hK.2 _ _ _ rfl | (try dsimp only) <;> (repeat (first | exact up2_s | refine up2_o (by first | decide | omega) ?_)) <;> first | assumption | exact hK.2 _ _ _ rfl) ?_
      refine G_S (pc := 40) f_4_40 rfl rfl rfl ?_
      refine G_iaN (pc := 42) f_4_42 (by first | assumption | exact hK.1 _ _ rfl) (by omega) (by omega) (by first | exact h1 | rfl) ?_
      refine G_S (pc := 43) f_4_43 rfl rfl rfl ?_
      refine G_gR (pc := 44) f_4_44 (by decide) rfl (by first | assumption | exact hK.1 _ _ rfl) (by first | assumption | exact hK.2 _ _ _ rfl | (try dsimp only) <;> (repeat (first | exact up2_s | refine up2_o (by first | decide | omega) ?_)) <;> first | assumption | exact hK.2 _ _ _ rfl) ?_
      refine G_S (pc := 47) f_4_47 rfl rfl rfl ?_
      refine G_ic (v := nI 1) (pc := 49) f_4_49 (by decide) ?_
      first | refine G_addN (pc := 50) f_4_50 ?_ | refine G_addZ (pc := 50) f_4_50 (by first | rfl | exact nI_zI _) (by first | rfl | exact nI_zI _) ?_ | refine G_S (pc := 50) f_4_50 rfl rfl rfl ?_
      refine G_iaN (pc := 51) f_4_51 (by first | assumption | exact hK.1 _ _ rfl) (by omega) (by omega) (by first | exact h2 | rfl) ?_
      refine G_CS (pc := 52) f_4_52 rfl rfl (by decide) rfl rfl ⟨Nat.le_of_ble_eq_true rfl, Nat.le_of_ble_eq_true rfl⟩ ?_
      refine CG.mono (c_evenOut (n := D 2) (hK.1 92 _ rfl) hn2 (ha s (by omega)) (ha (s + 1) (by omega)) hb hsl) ?_
      rintro _ M2 ⟨rfl, hF2, e3, e4⟩
      first | refine G_inc1 (pc := 55) f_4_55 rfl ?_ | refine G_S (pc := 55) f_4_55 rfl rfl rfl ?_
      refine G_S (pc := 58) f_4_58 rfl rfl rfl ?_
      have hF3 : Fo [92] M1 M2 := ⟨⟨hF2.1, e3⟩, hF2.2.2⟩
      exact ih (by omega) M2 (hF.tr hF3) e4 K
  have loop1 : ∀ d i, i + d = c → ∀ b M1 v, Fo [92] M M1 → (∀ r, r < D 2 → M1.2.1 92 r = nI (b r)) → (∀ r, r < D 2 → b r ≤ 99) → itN (fun b => shM a b (m - 1)) d b = itN (fun b => shM a b (m - 1)) c (fun r => D (19 + r)) → G C 4 (13, [some (.ref 89), some (.ref h), some (.int (nI c)), some (.int (nI i)), v], [], [], M1) (fun w M' => w = some (.int (nI (mxA a (itN (fun b => shM a b (m - 1)) c (fun r => D (19 + r))) m))) ∧ Fo [92] M M') := by
    intro d
    induction d with
    | zero =>
      intro i hi b M1 v hF hb hb9 he
      have hK := (keep hF).1
      rw [itN] at he
      rw [← he]
      refine G_S (pc := 13) f_4_13 rfl rfl rfl ?_
      refine G_S (pc := 14) f_4_14 rfl rfl rfl ?_
      refine G_jgeZ (pc := 15) f_4_15 rfl (by first | exact nI_toInt (by omega) | exact zI_toInt (by omega) (by omega) | rfl) (by first | exact nI_toInt (by omega) | exact zI_toInt (by omega) (by omega) | rfl) (fun b1 => ?_) (fun b1 => ?_)
      · refine G_ic (v := nI 0) (pc := 67) f_4_67 (by decide) ?_
        refine G_S (pc := 68) f_4_68 rfl rfl rfl ?_
        refine G_ic (v := nI 0) (pc := 69) f_4_69 (by decide) ?_
        refine G_S (pc := 70) f_4_70 rfl rfl rfl ?_
        exact loop3 b M1 hF hb hb9 0 (Nat.zero_le _)
      · exfalso; omega
    | succ d ih =>
      intro i hi b M1 v hF hb hb9 he
      have hK := (keep hF).1
      refine G_S (pc := 13) f_4_13 rfl rfl rfl ?_
      refine G_S (pc := 14) f_4_14 rfl rfl rfl ?_
      refine G_jgeZ (pc := 15) f_4_15 rfl (by first | exact nI_toInt (by omega) | exact zI_toInt (by omega) (by omega) | rfl) (by first | exact nI_toInt (by omega) | exact zI_toInt (by omega) (by omega) | rfl) (fun b1 => ?_) (fun b1 => ?_)
      · exfalso; omega
      · refine G_ic (v := nI 0) (pc := 18) f_4_18 (by decide) ?_
        refine G_S (pc := 19) f_4_19 rfl rfl rfl ?_
        refine loop2 i b M1 hF hb9 0 (Nat.zero_le _) M1 hF hb (fun M2 hF2 hb2 v => ?_)
        exact ih (i + 1) (by omega) (shM a b (m - 1)) M2 v hF2 hb2 (shM_le ha hb9 (m - 1) (by omega)) he
  have hK := W.1
  obtain ⟨⟨t0, t1, t2, t3, t4, t5, t6⟩, r0, r3, r4, r6, r7, r8⟩ := W.2.1
  obtain ⟨hD, ⟨v0, v1, v2⟩, vh, vr, vw, vf⟩ := W.2.2.1
  have hs := W.2.2.2.1
  have hh := W.2.2.2.2
  have hn0 : _ ≤ 8 := hD.1
  have hn1 : _ ≤ 6 := hD.2.1.2
  have hn2 : _ ≤ 8 := hD.2.2.1
  refine CG_in (mL := 5) (hl := false) (lv := [some (.ref 89), some (.ref h), some (.int (nI c)), none, none]) (ll := []) rfl rfl rfl ?_
  refine G_S (pc := 0) f_4_0 rfl rfl rfl ?_
  refine G_gR (pc := 1) f_4_1 (by decide) rfl (by first | assumption | exact hK.1 _ _ rfl) (by first | assumption | exact hK.2 _ _ _ rfl | (try dsimp only) <;> (repeat (first | exact up2_s | refine up2_o (by first | decide | omega) ?_)) <;> first | assumption | exact hK.2 _ _ _ rfl) ?_
  refine G_S (pc := 4) f_4_4 rfl rfl rfl ?_
  refine G_gR (pc := 5) f_4_5 (by decide) rfl (by first | assumption | exact hK.1 _ _ rfl) (by first | assumption | exact hK.2 _ _ _ rfl | (try dsimp only) <;> (repeat (first | exact up2_s | refine up2_o (by first | decide | omega) ?_)) <;> first | assumption | exact hK.2 _ _ _ rfl) ?_
  refine G_CS (pc := 8) f_4_8 rfl rfl (by decide) rfl rfl ⟨Nat.le_of_ble_eq_true rfl, Nat.le_of_ble_eq_true rfl⟩ ?_
  refine CG.mono (c_copyRow (s := h + 3) (d := 92) (n0 := 8) (n1 := 8) t3 (hK.1 92 _ rfl) (by decide) (by decide)) ?_
  rintro _ M2 ⟨rfl, rfl⟩
  refine G_ic (v := nI 0) (pc := 11) f_4_11 (by decide) ?_
  refine G_S (pc := 12) f_4_12 rfl rfl rfl ?_
  have hFc : Fo [92] M (M.1, up1 M.2.1 92 (va_cpy (M.2.1 (h + 3)) (M.2.1 92) 0 0 (min 8 8)), M.2.2.1, M.2.2.2) := by
    refine ⟨⟨rfl, rfl⟩, fun i hi => ⟨?_, rfl⟩⟩
    dsimp only
    exact up1_o (fun q => hi (by rw [q]; decide)) rfl
  refine loop1 c 0 (by omega) (fun r => D (19 + r)) _ _ hFc (fun r hr => ?_) (fun r hr => ?_) rfl
  · dsimp only
    rw [up1_s, pk_cpy_in (Nat.zero_le r) (by omega), Nat.sub_zero, Nat.zero_add]
    exact (vr r hr).2
  · have := hD.2.2.2.2.2.1 r (by omega)
    omega
/-- the bench in the midst -/
def BR (M : Mm) (D : Nat → Nat) (S : Nat) (q : Nat × Nat × Nat) : Prop := M.2.1 89 2 = nI q.2.1 ∧ (q.2.1 ≠ 0 → M.2.1 89 1 = nI q.1 ∧ ∀ i, i < pc8 S → M.2.1 91 i = nI (odF S (D 2) (dg q.2.2 i)))
def BO : List Nat := [89, 90, 91, 92]
theorem BR.fo {M' : Mm} {q : Nat × Nat × Nat} {os : List Nat} (B : BR M D S q) (hF : Fo os M M') (h1 : 89 ∉ os) (h2 : 91 ∉ os) : BR M' D S q := by
  unfold BR
  rw [(hF.2 89 h1).1, (hF.2 91 h2).1]
  exact B
theorem b_copy (hK : KM M.1 M.2.2.2) : CG C 186 [.ref 90, .ref 91] M (fun w M' => w = none ∧ Fo [91] M M' ∧ ∀ i, i < 6 → M'.2.1 91 i = M.2.1 90 i) := by
  refine CG.mono (c_copyRow (s := 90) (d := 91) (n0 := 6) (n1 := 6) (hK.1 90 _ rfl) (hK.1 91 _ rfl) (by decide) (by decide)) ?_
  rintro w M' ⟨rfl, rfl⟩
  refine ⟨rfl, ⟨⟨rfl, rfl⟩, fun i hi => ⟨?_, rfl⟩⟩, fun i hi => ?_⟩
  · dsimp only
    exact up1_o (fun q => hi (by rw [q]; decide)) rfl
  · dsimp only
    rw [up1_s, pk_cpy_in (Nat.zero_le i) (by omega), Nat.sub_zero, Nat.zero_add]
theorem caS_b {g cd i : Nat} {q : Nat × Nat × Nat} (hg : g ≤ 99) (hq : q.1 ≤ 99 ∧ q.2.1 ≤ i) : (caS g cd q).1 ≤ 99 ∧ (caS g cd q).2.1 ≤ i + 1 ∧ ((caS g cd q).2.1 ≠ 0) := by
  unfold caS
  split
  · exact ⟨hg, by show 1 ≤ i + 1; omega, by show 1 ≠ 0; decide⟩
  · rename_i h1
    split
    · exact ⟨hq.1, by show q.2.1 + 1 ≤ i + 1; omega, by show q.2.1 + 1 ≠ 0; omega⟩
    · exact ⟨hq.1, by show q.2.1 ≤ i + 1; omega, fun z => h1 (Or.inl z)⟩
theorem b_seatAll {c : Nat} (W : LW M h D) (hSD : S < 2 ^ D 2) (hp : 1 ≤ pc8 S ∧ pc8 S ≤ 6) (hc : c ≤ 9) : CG C 1 [.ref 89, .ref h, .int (nI S), .int (nI c)] M (fun w M' => w = none ∧ Fo BO M M' ∧ M'.2.1 89 0 = nI (pc8 S) ∧ BR M' D S (calF D S c) ∧ (calF D S c).2.1 ≠ 0) := by
  have hn2 : D 2 ≤ 8 := W.2.2.1.1.2.2.1
  have hS := pw2 hn2 hSD
  have hpc := pcN_at (D 2) (by omega) S hS hSD
  have hρ := odF_iff (S := S) (r := D 2) hpc.symm
  have hρ8 : ∀ i, i < pc8 S → odF S (D 2) i < D 2 := fun i hi => (odF_ok S (D 2)).1 i (by omega)
  have keep : ∀ {N}, Fo BO M N → LW N h D := fun hF => W.fc hF.c (by decide)
  have loop : ∀ f i, i + f = 720 → ∀ M1 cd q v, Fo BO M M1 → M1.2.1 89 0 = nI (pc8 S) → (∀ i, i < pc8 S → M1.2.1 90 i = nI (odF S (D 2) (dg cd i))) → BR M1 D S q → q.1 ≤ 99 ∧ q.2.1 ≤ i → endC (pc8 S) f cd = true → G C 1 (14, [some (.ref 89), some (.ref h), some (.int (nI S)), some (.int (nI c)), some (.int (nI i)), v], [], [], M1) (fun w M' => w = none ∧ Fo BO M M' ∧ M'.2.1 89 0 = nI (pc8 S) ∧ BR M' D S (caF (grF D S c) (pc8 S) f cd q) ∧ (caF (grF D S c) (pc8 S) f cd q).2.1 ≠ 0) := by
    intro f
    induction f with
    | zero =>
      intro i hi M1 cd q v hF h89 hq hB hb he
      cases he
    | succ f ih =>
      intro i hi M1 cd q v hF h89 hq hB hb he
      obtain ⟨hok, hen⟩ := endC_ok he
      have W1 := keep hF
      have hK := W1.1
      obtain ⟨⟨t0, t1, t2, t3, t4, t5, t6⟩, r0, r3, r4, r6, r7, r8⟩ := W1.2.1
      obtain ⟨hD, ⟨v0, v1, v2⟩, vh, vr, vw, vf⟩ := W1.2.2.1
      have hs := W1.2.2.2.1
      have hh := W1.2.2.2.2
      have hn0 : _ ≤ 8 := hD.1
      have hn1 : _ ≤ 6 := hD.2.1.2
      have hn2 : _ ≤ 8 := hD.2.2.1
      have ha : ∀ i, i < pc8 S → odF S (D 2) (dg cd i) < D 2 := fun i hi => hρ8 _ (hok i hi).1
      have hg9 : grF D S c cd ≤ 99 := mxA_le (a := fun i => odF S (D 2) (dg cd i)) ha (itN_le (a := fun i => odF S (D 2) (dg cd i)) ha c _ (fun r hr => by have := hD.2.2.2.2.2.1 r (by omega); omega)) (pc8 S) (Nat.le_refl _)
      have hcb := caS_b (cd := cd) hg9 hb
      have tail : ∀ M3, Fo BO M M3 → M3.2.1 89 0 = nI (pc8 S) → (∀ i, i < pc8 S → M3.2.1 90 i = nI (odF S (D 2) (dg cd i))) → BR M3 D S (caS (grF D S c cd) cd q) → G C 1 (87, [some (.ref 89), some (.ref h), some (.int (nI S)), some (.int (nI c)), some (.int (nI i)), some (.int (nI (grF D S c cd)))], [], [], M3) (fun w M' => w = none ∧ Fo BO M M' ∧ M'.2.1 89 0 = nI (pc8 S) ∧ BR M' D S (caF (grF D S c) (pc8 S) (f + 1) cd q) ∧ (caF (grF D S c) (pc8 S) (f + 1) cd q).2.1 ≠ 0) := by
        intro M3 hF3 hs3 hq3 hB3
        have hK := (keep hF3).1
        have tn := b_next (C := C) (a := fun i => odF S (D 2) (dg cd i)) hK hs3 hp hq3 (fun r hr => by have := ha r hr; omega)
        obtain ⟨r0, r1⟩ := nxC_rho hρ hok
        rw [caF]
        cases hn : nxC (pc8 S) cd with
        | zero =>
          have e := r0 hn
          rw [e] at tn
          refine G_S (pc := 87) f_1_87 rfl rfl rfl ?_
          refine G_CV (pc := 88) f_1_88 rfl rfl (by decide) rfl rfl (by first | assumption | exact hK.1 _ _ rfl) (by decide) ⟨Nat.le_of_ble_eq_true rfl, Nat.le_of_ble_eq_true rfl⟩ ?_
          refine CG.mono (tn) ?_
          rintro _ M4 ⟨rfl, hF4, _⟩
          first | refine G_bNe (pc := 91) f_1_91 rfl (fun b5 => ?_) (fun b5 => ?_) | refine G_zneZ (pc := 91) f_1_91 rfl (by first | exact nI_toInt (by omega) | exact zI_toInt (by omega) (by omega) | rfl) (fun b5 => ?_) (fun b5 => ?_)
          · exact absurd b5 (by decide)
          · refine G_rv (pc := 94) f_1_94 ?_
            exact ⟨rfl, hF3.tr (hF4.sub (by decide)), by rw [(hF4.2 89 (by decide)).1]; exact hs3, hB3.fo hF4 (by decide) (by decide), hcb.2.2⟩
        | succ c' =>
          obtain ⟨a', e, e2⟩ := r1 c' hn
          rw [e] at tn
          refine G_S (pc := 87) f_1_87 rfl rfl rfl ?_
          refine G_CV (pc := 88) f_1_88 rfl rfl (by decide) rfl rfl (by first | assumption | exact hK.1 _ _ rfl) (by decide) ⟨Nat.le_of_ble_eq_true rfl, Nat.le_of_ble_eq_true rfl⟩ ?_
          refine CG.mono (tn) ?_
          rintro _ M4 ⟨rfl, hF4, hq4⟩
          first | refine G_bNe (pc := 91) f_1_91 rfl (fun b5 => ?_) (fun b5 => ?_) | refine G_zneZ (pc := 91) f_1_91 rfl (by first | exact nI_toInt (by omega) | exact zI_toInt (by omega) (by omega) | rfl) (fun b5 => ?_) (fun b5 => ?_)
          · first | refine G_inc1 (pc := 95) f_1_95 rfl ?_ | refine G_S (pc := 95) f_1_95 rfl rfl rfl ?_
            refine G_S (pc := 98) f_1_98 rfl rfl rfl ?_
            refine ih (i + 1) (by omega) M4 c' _ _ (hF3.tr (hF4.sub (by decide))) (by rw [(hF4.2 89 (by decide)).1]; exact hs3) (fun r hr => ?_) (hB3.fo hF4 (by decide) (by decide)) ⟨hcb.1, hcb.2.1⟩ (hen c' hn)
            rw [hq4 a' rfl r hr, e2 r hr]
          · exact absurd rfl b5
      have tg : CG C 4 [.ref 89, .ref h, .int (nI c)] M1 (fun w M' => w = some (.int (nI (grF D S c cd))) ∧ Fo [92] M1 M') := b_great (C := C) (a := fun i => odF S (D 2) (dg cd i)) W1 hp h89 hq ha hc
      have hkp : ∀ {N}, Fo [92] M1 N → KM N.1 N.2.2.2 ∧ N.2.1 89 0 = nI (pc8 S) ∧ (∀ i, i < pc8 S → N.2.1 90 i = nI (odF S (D 2) (dg cd i))) ∧ BR N D S q ∧ Fo BO M N := fun hF2 => ⟨hF2.K hK, by rw [(hF2.2 89 (by decide)).1]; exact h89, by rw [(hF2.2 90 (by decide)).1]; exact hq, hB.fo hF2 (by decide) (by decide), hF.tr (hF2.sub (by decide))⟩
      have newB : ∀ N M3, Fo BO M N → KM N.1 N.2.2.2 → N.2.1 89 0 = nI (pc8 S) → (∀ i, i < pc8 S → N.2.1 90 i = nI (odF S (D 2) (dg cd i))) → (q.2.1 = 0 ∨ grF D S c cd < q.1) → Fo [91] (N.1, up2 (up2 N.2.1 89 1 (nI (grF D S c cd))) 89 2 (nI 0), N.2.2.1, N.2.2.2) M3 → (∀ i, i < 6 → M3.2.1 91 i = up2 (up2 N.2.1 89 1 (nI (grF D S c cd))) 89 2 (nI 0) 90 i) → G C 1 (87, [some (.ref 89), some (.ref h), some (.int (nI S)), some (.int (nI c)), some (.int (nI i)), some (.int (nI (grF D S c cd)))], [], [], (M3.1, up2 M3.2.1 89 2 (nI (0 + 1)), M3.2.2.1, M3.2.2.2)) (fun w M' => w = none ∧ Fo BO M M' ∧ M'.2.1 89 0 = nI (pc8 S) ∧ BR M' D S (caF (grF D S c) (pc8 S) (f + 1) cd q) ∧ (caF (grF D S c) (pc8 S) (f + 1) cd q).2.1 ≠ 0) := by
        intro N M3 hFN hKN hsN hqN hlt hF3 hc3
        have f1 : Fo BO N (N.1, up2 (up2 N.2.1 89 1 (nI (grF D S c cd))) 89 2 (nI 0), N.2.2.1, N.2.2.2) := (Fo.up (i := 89) (k := 1) (x := nI (grF D S c cd)) (by decide)).tr (Fo.up (i := 89) (k := 2) (x := nI 0) (by decide))
        have hs3 : M3.2.1 89 0 = nI (pc8 S) := by
          rw [(hF3.2 89 (by decide)).1]
          exact (by (try dsimp only); exact up2_o (by omega) (by (try dsimp only); exact up2_o (by omega) hsN))
        have hl3 : M3.2.1 89 1 = nI (grF D S c cd) := by
          rw [(hF3.2 89 (by decide)).1]
          exact (by (try dsimp only); exact up2_o (by omega) (by (try dsimp only); exact up2_s))
        have hq3 : ∀ i, i < pc8 S → M3.2.1 90 i = nI (odF S (D 2) (dg cd i)) := fun r hr => by
          rw [(hF3.2 90 (by decide)).1]
          exact (by (try dsimp only); exact up2_o (by omega) (by (try dsimp only); exact up2_o (by omega) (hqN r hr)))
        refine tail _ (((hFN.tr f1).tr (hF3.sub (by decide))).tr (Fo.up (i := 89) (k := 2) (x := nI (0 + 1)) (by decide))) (by (try dsimp only); exact up2_o (by omega) hs3) (fun r hr => (by (try dsimp only); exact up2_o (by omega) (hq3 r hr))) ?_
        have ec : caS (grF D S c cd) cd q = (grF D S c cd, 1, cd) := by
          unfold caS
          rw [if_pos hlt]
        rw [ec]
        refine ⟨(by (try dsimp only); exact up2_s), fun _ => ⟨(by (try dsimp only); exact up2_o (by omega) hl3), fun r hr => ?_⟩⟩
        show up2 M3.2.1 89 2 (nI (0 + 1)) 91 r = _
        refine up2_o (by omega) ?_
        rw [hc3 r (by omega)]
        exact (by (try dsimp only); exact up2_o (by omega) (by (try dsimp only); exact up2_o (by omega) (hqN r hr)))
      by_cases hw : q.2.1 = 0
      · refine G_S (pc := 14) f_1_14 rfl rfl rfl ?_
        refine G_si (v := nI 720) (pc := 16) f_1_16 (by decide) ?_
        refine G_jgeZ (pc := 19) f_1_19 rfl (by first | exact nI_toInt (by omega) | exact zI_toInt (by omega) (by omega) | rfl) (by first | exact nI_toInt (by omega) | exact zI_toInt (by omega) (by omega) | rfl) (fun b1 => ?_) (fun b1 => ?_)
        · exfalso; omega
        · refine G_S (pc := 22) f_1_22 rfl rfl rfl ?_
          refine G_S (pc := 23) f_1_23 rfl rfl rfl ?_
          refine G_S (pc := 24) f_1_24 rfl rfl rfl ?_
          refine G_CV (pc := 25) f_1_25 rfl rfl (by decide) rfl rfl (by first | assumption | exact hK.1 _ _ rfl) (by decide) ⟨Nat.le_of_ble_eq_true rfl, Nat.le_of_ble_eq_true rfl⟩ ?_
          refine CG.mono (tg) ?_
          rintro _ M2 ⟨rfl, hF2⟩
          obtain ⟨hK2, hs2, hq2, hB2, hFM⟩ := hkp hF2
          have hK := hK2
          have hw2 := hB2.1
          refine G_S (pc := 28) f_1_28 rfl rfl rfl ?_
          refine G_S (pc := 30) f_1_30 rfl rfl rfl ?_
          refine G_gIv (pc := 31) f_1_31 (by decide) rfl (by decide) (by first | assumption | exact hK.1 _ _ rfl) (by first | assumption | exact mI_s | ((refine mI_o (by first | decide | omega) ?_); (repeat (refine mI_o (by first | decide | omega) ?_)); first | exact mI_s | assumption) | rfl) ?_
          first | refine G_bEq (pc := 34) f_1_34 rfl (fun b2 => ?_) (fun b2 => ?_) | refine G_zeqZ (pc := 34) f_1_34 rfl (by first | exact nI_toInt (by omega) | exact zI_toInt (by omega) (by omega) | rfl) (fun b2 => ?_) (fun b2 => ?_)
          · refine G_S (pc := 46) f_1_46 rfl rfl rfl ?_
            refine G_S (pc := 47) f_1_47 rfl rfl rfl ?_
            refine G_pI (pc := 49) f_1_49 rfl (by first | assumption | exact hK.1 _ _ rfl) ?_
            refine G_S (pc := 52) f_1_52 rfl rfl rfl ?_
            refine G_ic (v := nI 0) (pc := 53) f_1_53 (by decide) ?_
            refine G_pI (pc := 54) f_1_54 rfl (by first | assumption | exact hK.1 _ _ rfl) ?_
            refine G_S (pc := 57) f_1_57 rfl rfl rfl ?_
            refine G_gR (pc := 58) f_1_58 (by decide) rfl (by first | assumption | exact hK.1 _ _ rfl) (by first | assumption | exact hK.2 _ _ _ rfl | (try dsimp only) <;> (repeat (first | exact up2_s | refine up2_o (by first | decide | omega) ?_)) <;> first | assumption | exact hK.2 _ _ _ rfl) ?_
            refine G_S (pc := 61) f_1_61 rfl rfl rfl ?_
            refine G_gR (pc := 62) f_1_62 (by decide) rfl (by first | assumption | exact hK.1 _ _ rfl) (by first | assumption | exact hK.2 _ _ _ rfl | (try dsimp only) <;> (repeat (first | exact up2_s | refine up2_o (by first | decide | omega) ?_)) <;> first | assumption | exact hK.2 _ _ _ rfl) ?_
            refine G_CS (pc := 65) f_1_65 rfl rfl (by decide) rfl rfl ⟨Nat.le_of_ble_eq_true rfl, Nat.le_of_ble_eq_true rfl⟩ ?_
            refine CG.mono (b_copy hK2) ?_
            rintro _ M3 ⟨rfl, hF3, hc3⟩
            have hK := hF3.K hK2
            have hl3 : M3.2.1 89 1 = nI (grF D S c cd) := by
              rw [(hF3.2 89 (by decide)).1]
              exact (by (try dsimp only); exact up2_o (by omega) (by (try dsimp only); exact up2_s))
            have hw3 : M3.2.1 89 2 = nI 0 := by
              rw [(hF3.2 89 (by decide)).1]
              exact (by (try dsimp only); exact up2_s)
            refine G_S (pc := 68) f_1_68 rfl rfl rfl ?_
            refine G_S (pc := 70) f_1_70 rfl rfl rfl ?_
            refine G_gIv (pc := 71) f_1_71 (by decide) rfl (by decide) (by first | assumption | exact hK.1 _ _ rfl) (by first | assumption | exact mI_s | ((refine mI_o (by first | decide | omega) ?_); (repeat (refine mI_o (by first | decide | omega) ?_)); first | exact mI_s | assumption) | rfl) ?_
            refine G_jneZ (pc := 74) f_1_74 rfl (by first | exact nI_toInt (by omega) | exact zI_toInt (by omega) (by omega) | rfl) (by first | exact nI_toInt (by omega) | exact zI_toInt (by omega) (by omega) | rfl) (fun b4 => ?_) (fun b4 => ?_)
            · exact absurd rfl b4
            · refine G_S (pc := 77) f_1_77 rfl rfl rfl ?_
              refine G_S (pc := 78) f_1_78 rfl rfl rfl ?_
              refine G_gIv (pc := 79) f_1_79 (by decide) rfl (by decide) (by first | assumption | exact hK.1 _ _ rfl) (by first | assumption | exact mI_s | ((refine mI_o (by first | decide | omega) ?_); (repeat (refine mI_o (by first | decide | omega) ?_)); first | exact mI_s | assumption) | rfl) ?_
              refine G_ic (v := nI 1) (pc := 82) f_1_82 (by decide) ?_
              first | refine G_addN (pc := 83) f_1_83 ?_ | refine G_addZ (pc := 83) f_1_83 (by first | rfl | exact nI_zI _) (by first | rfl | exact nI_zI _) ?_ | refine G_S (pc := 83) f_1_83 rfl rfl rfl ?_
              refine G_pI (pc := 84) f_1_84 rfl (by first | assumption | exact hK.1 _ _ rfl) ?_
              exact newB M2 M3 hFM hK2 hs2 hq2 (Or.inl hw) hF3 hc3
          · exfalso; omega
      · by_cases hlt : grF D S c cd < q.1
        · refine G_S (pc := 14) f_1_14 rfl rfl rfl ?_
          refine G_si (v := nI 720) (pc := 16) f_1_16 (by decide) ?_
          refine G_jgeZ (pc := 19) f_1_19 rfl (by first | exact nI_toInt (by omega) | exact zI_toInt (by omega) (by omega) | rfl) (by first | exact nI_toInt (by omega) | exact zI_toInt (by omega) (by omega) | rfl) (fun b1 => ?_) (fun b1 => ?_)
          · exfalso; omega
          · refine G_S (pc := 22) f_1_22 rfl rfl rfl ?_
            refine G_S (pc := 23) f_1_23 rfl rfl rfl ?_
            refine G_S (pc := 24) f_1_24 rfl rfl rfl ?_
            refine G_CV (pc := 25) f_1_25 rfl rfl (by decide) rfl rfl (by first | assumption | exact hK.1 _ _ rfl) (by decide) ⟨Nat.le_of_ble_eq_true rfl, Nat.le_of_ble_eq_true rfl⟩ ?_
            refine CG.mono (tg) ?_
            rintro _ M2 ⟨rfl, hF2⟩
            obtain ⟨hK2, hs2, hq2, hB2, hFM⟩ := hkp hF2
            have hK := hK2
            have hw2 := hB2.1
            have hl2 := (hB2.2 hw).1
            refine G_S (pc := 28) f_1_28 rfl rfl rfl ?_
            refine G_S (pc := 30) f_1_30 rfl rfl rfl ?_
            refine G_gIv (pc := 31) f_1_31 (by decide) rfl (by decide) (by first | assumption | exact hK.1 _ _ rfl) (by first | assumption | exact mI_s | ((refine mI_o (by first | decide | omega) ?_); (repeat (refine mI_o (by first | decide | omega) ?_)); first | exact mI_s | assumption) | rfl) ?_
            first | refine G_bEq (pc := 34) f_1_34 rfl (fun b2 => ?_) (fun b2 => ?_) | refine G_zeqZ (pc := 34) f_1_34 rfl (by first | exact nI_toInt (by omega) | exact zI_toInt (by omega) (by omega) | rfl) (fun b2 => ?_) (fun b2 => ?_)
            · exfalso; omega
            · refine G_S (pc := 37) f_1_37 rfl rfl rfl ?_
              refine G_S (pc := 39) f_1_39 rfl rfl rfl ?_
              refine G_gIv (pc := 40) f_1_40 (by decide) rfl (by decide) (by first | assumption | exact hK.1 _ _ rfl) (by first | assumption | exact mI_s | ((refine mI_o (by first | decide | omega) ?_); (repeat (refine mI_o (by first | decide | omega) ?_)); first | exact mI_s | assumption) | rfl) ?_
              refine G_jgeZ (pc := 43) f_1_43 rfl (by first | exact nI_toInt (by omega) | exact zI_toInt (by omega) (by omega) | rfl) (by first | exact nI_toInt (by omega) | exact zI_toInt (by omega) (by omega) | rfl) (fun b3 => ?_) (fun b3 => ?_)
              · exfalso; omega
              · refine G_S (pc := 46) f_1_46 rfl rfl rfl ?_
                refine G_S (pc := 47) f_1_47 rfl rfl rfl ?_
                refine G_pI (pc := 49) f_1_49 rfl (by first | assumption | exact hK.1 _ _ rfl) ?_
                refine G_S (pc := 52) f_1_52 rfl rfl rfl ?_
                refine G_ic (v := nI 0) (pc := 53) f_1_53 (by decide) ?_
                refine G_pI (pc := 54) f_1_54 rfl (by first | assumption | exact hK.1 _ _ rfl) ?_
                refine G_S (pc := 57) f_1_57 rfl rfl rfl ?_
                refine G_gR (pc := 58) f_1_58 (by decide) rfl (by first | assumption | exact hK.1 _ _ rfl) (by first | assumption | exact hK.2 _ _ _ rfl | (try dsimp only) <;> (repeat (first | exact up2_s | refine up2_o (by first | decide | omega) ?_)) <;> first | assumption | exact hK.2 _ _ _ rfl) ?_
                refine G_S (pc := 61) f_1_61 rfl rfl rfl ?_
                refine G_gR (pc := 62) f_1_62 (by decide) rfl (by first | assumption | exact hK.1 _ _ rfl) (by first | assumption | exact hK.2 _ _ _ rfl | (try dsimp only) <;> (repeat (first | exact up2_s | refine up2_o (by first | decide | omega) ?_)) <;> first | assumption | exact hK.2 _ _ _ rfl) ?_
                refine G_CS (pc := 65) f_1_65 rfl rfl (by decide) rfl rfl ⟨Nat.le_of_ble_eq_true rfl, Nat.le_of_ble_eq_true rfl⟩ ?_
                refine CG.mono (b_copy hK2) ?_
                rintro _ M3 ⟨rfl, hF3, hc3⟩
                have hK := hF3.K hK2
                have hl3 : M3.2.1 89 1 = nI (grF D S c cd) := by
                  rw [(hF3.2 89 (by decide)).1]
                  exact (by (try dsimp only); exact up2_o (by omega) (by (try dsimp only); exact up2_s))
                have hw3 : M3.2.1 89 2 = nI 0 := by
                  rw [(hF3.2 89 (by decide)).1]
                  exact (by (try dsimp only); exact up2_s)
                refine G_S (pc := 68) f_1_68 rfl rfl rfl ?_
                refine G_S (pc := 70) f_1_70 rfl rfl rfl ?_
                refine G_gIv (pc := 71) f_1_71 (by decide) rfl (by decide) (by first | assumption | exact hK.1 _ _ rfl) (by first | assumption | exact mI_s | ((refine mI_o (by first | decide | omega) ?_); (repeat (refine mI_o (by first | decide | omega) ?_)); first | exact mI_s | assumption) | rfl) ?_
                refine G_jneZ (pc := 74) f_1_74 rfl (by first | exact nI_toInt (by omega) | exact zI_toInt (by omega) (by omega) | rfl) (by first | exact nI_toInt (by omega) | exact zI_toInt (by omega) (by omega) | rfl) (fun b4 => ?_) (fun b4 => ?_)
                · exact absurd rfl b4
                · refine G_S (pc := 77) f_1_77 rfl rfl rfl ?_
                  refine G_S (pc := 78) f_1_78 rfl rfl rfl ?_
                  refine G_gIv (pc := 79) f_1_79 (by decide) rfl (by decide) (by first | assumption | exact hK.1 _ _ rfl) (by first | assumption | exact mI_s | ((refine mI_o (by first | decide | omega) ?_); (repeat (refine mI_o (by first | decide | omega) ?_)); first | exact mI_s | assumption) | rfl) ?_
                  refine G_ic (v := nI 1) (pc := 82) f_1_82 (by decide) ?_
                  first | refine G_addN (pc := 83) f_1_83 ?_ | refine G_addZ (pc := 83) f_1_83 (by first | rfl | exact nI_zI _) (by first | rfl | exact nI_zI _) ?_ | refine G_S (pc := 83) f_1_83 rfl rfl rfl ?_
                  refine G_pI (pc := 84) f_1_84 rfl (by first | assumption | exact hK.1 _ _ rfl) ?_
                  exact newB M2 M3 hFM hK2 hs2 hq2 (Or.inr hlt) hF3 hc3
        · by_cases heq : grF D S c cd = q.1
          · refine G_S (pc := 14) f_1_14 rfl rfl rfl ?_
            refine G_si (v := nI 720) (pc := 16) f_1_16 (by decide) ?_
            refine G_jgeZ (pc := 19) f_1_19 rfl (by first | exact nI_toInt (by omega) | exact zI_toInt (by omega) (by omega) | rfl) (by first | exact nI_toInt (by omega) | exact zI_toInt (by omega) (by omega) | rfl) (fun b1 => ?_) (fun b1 => ?_)
            · exfalso; omega
            · refine G_S (pc := 22) f_1_22 rfl rfl rfl ?_
              refine G_S (pc := 23) f_1_23 rfl rfl rfl ?_
              refine G_S (pc := 24) f_1_24 rfl rfl rfl ?_
              refine G_CV (pc := 25) f_1_25 rfl rfl (by decide) rfl rfl (by first | assumption | exact hK.1 _ _ rfl) (by decide) ⟨Nat.le_of_ble_eq_true rfl, Nat.le_of_ble_eq_true rfl⟩ ?_
              refine CG.mono (tg) ?_
              rintro _ M2 ⟨rfl, hF2⟩
              obtain ⟨hK2, hs2, hq2, hB2, hFM⟩ := hkp hF2
              have hK := hK2
              have hw2 := hB2.1
              have hl2 := (hB2.2 hw).1
              refine G_S (pc := 28) f_1_28 rfl rfl rfl ?_
              refine G_S (pc := 30) f_1_30 rfl rfl rfl ?_
              refine G_gIv (pc := 31) f_1_31 (by decide) rfl (by decide) (by first | assumption | exact hK.1 _ _ rfl) (by first | assumption | exact mI_s | ((refine mI_o (by first | decide | omega) ?_); (repeat (refine mI_o (by first | decide | omega) ?_)); first | exact mI_s | assumption) | rfl) ?_
              first | refine G_bEq (pc := 34) f_1_34 rfl (fun b2 => ?_) (fun b2 => ?_) | refine G_zeqZ (pc := 34) f_1_34 rfl (by first | exact nI_toInt (by omega) | exact zI_toInt (by omega) (by omega) | rfl) (fun b2 => ?_) (fun b2 => ?_)
              · exfalso; omega
              · refine G_S (pc := 37) f_1_37 rfl rfl rfl ?_
                refine G_S (pc := 39) f_1_39 rfl rfl rfl ?_
                refine G_gIv (pc := 40) f_1_40 (by decide) rfl (by decide) (by first | assumption | exact hK.1 _ _ rfl) (by first | assumption | exact mI_s | ((refine mI_o (by first | decide | omega) ?_); (repeat (refine mI_o (by first | decide | omega) ?_)); first | exact mI_s | assumption) | rfl) ?_
                refine G_jgeZ (pc := 43) f_1_43 rfl (by first | exact nI_toInt (by omega) | exact zI_toInt (by omega) (by omega) | rfl) (by first | exact nI_toInt (by omega) | exact zI_toInt (by omega) (by omega) | rfl) (fun b3 => ?_) (fun b3 => ?_)
                · refine G_S (pc := 68) f_1_68 rfl rfl rfl ?_
                  refine G_S (pc := 70) f_1_70 rfl rfl rfl ?_
                  refine G_gIv (pc := 71) f_1_71 (by decide) rfl (by decide) (by first | assumption | exact hK.1 _ _ rfl) (by first | assumption | exact mI_s | ((refine mI_o (by first | decide | omega) ?_); (repeat (refine mI_o (by first | decide | omega) ?_)); first | exact mI_s | assumption) | rfl) ?_
                  refine G_jneZ (pc := 74) f_1_74 rfl (by first | exact nI_toInt (by omega) | exact zI_toInt (by omega) (by omega) | rfl) (by first | exact nI_toInt (by omega) | exact zI_toInt (by omega) (by omega) | rfl) (fun b4 => ?_) (fun b4 => ?_)
                  · exfalso; omega
                  · refine G_S (pc := 77) f_1_77 rfl rfl rfl ?_
                    refine G_S (pc := 78) f_1_78 rfl rfl rfl ?_
                    refine G_gIv (pc := 79) f_1_79 (by decide) rfl (by decide) (by first | assumption | exact hK.1 _ _ rfl) (by first | assumption | exact mI_s | ((refine mI_o (by first | decide | omega) ?_); (repeat (refine mI_o (by first | decide | omega) ?_)); first | exact mI_s | assumption) | rfl) ?_
                    refine G_ic (v := nI 1) (pc := 82) f_1_82 (by decide) ?_
                    first | refine G_addN (pc := 83) f_1_83 ?_ | refine G_addZ (pc := 83) f_1_83 (by first | rfl | exact nI_zI _) (by first | rfl | exact nI_zI _) ?_ | refine G_S (pc := 83) f_1_83 rfl rfl rfl ?_
                    refine G_pI (pc := 84) f_1_84 rfl (by first | assumption | exact hK.1 _ _ rfl) ?_
                    have ec : caS (grF D S c cd) cd q = (q.1, q.2.1 + 1, q.2.2) := by
                      unfold caS
                      rw [if_neg (by omega), if_pos heq]
                    refine tail _ (hFM.tr (Fo.up (i := 89) (k := 2) (x := nI (q.2.1 + 1)) (by decide))) (by (try dsimp only); exact up2_o (by omega) hs2) (fun r hr => (by (try dsimp only); exact up2_o (by omega) (hq2 r hr))) ?_
                    rw [ec]
                    exact ⟨(by (try dsimp only); exact up2_s), fun _ => ⟨(by (try dsimp only); exact up2_o (by omega) hl2), fun r hr => (by (try dsimp only); exact up2_o (by omega) ((hB2.2 hw).2 r hr))⟩⟩
                · exfalso; omega
          · refine G_S (pc := 14) f_1_14 rfl rfl rfl ?_
            refine G_si (v := nI 720) (pc := 16) f_1_16 (by decide) ?_
            refine G_jgeZ (pc := 19) f_1_19 rfl (by first | exact nI_toInt (by omega) | exact zI_toInt (by omega) (by omega) | rfl) (by first | exact nI_toInt (by omega) | exact zI_toInt (by omega) (by omega) | rfl) (fun b1 => ?_) (fun b1 => ?_)
            · exfalso; omega
            · refine G_S (pc := 22) f_1_22 rfl rfl rfl ?_
              refine G_S (pc := 23) f_1_23 rfl rfl rfl ?_
              refine G_S (pc := 24) f_1_24 rfl rfl rfl ?_
              refine G_CV (pc := 25) f_1_25 rfl rfl (by decide) rfl rfl (by first | assumption | exact hK.1 _ _ rfl) (by decide) ⟨Nat.le_of_ble_eq_true rfl, Nat.le_of_ble_eq_true rfl⟩ ?_
              refine CG.mono (tg) ?_
              rintro _ M2 ⟨rfl, hF2⟩
              obtain ⟨hK2, hs2, hq2, hB2, hFM⟩ := hkp hF2
              have hK := hK2
              have hw2 := hB2.1
              have hl2 := (hB2.2 hw).1
              refine G_S (pc := 28) f_1_28 rfl rfl rfl ?_
              refine G_S (pc := 30) f_1_30 rfl rfl rfl ?_
              refine G_gIv (pc := 31) f_1_31 (by decide) rfl (by decide) (by first | assumption | exact hK.1 _ _ rfl) (by first | assumption | exact mI_s | ((refine mI_o (by first | decide | omega) ?_); (repeat (refine mI_o (by first | decide | omega) ?_)); first | exact mI_s | assumption) | rfl) ?_
              first | refine G_bEq (pc := 34) f_1_34 rfl (fun b2 => ?_) (fun b2 => ?_) | refine G_zeqZ (pc := 34) f_1_34 rfl (by first | exact nI_toInt (by omega) | exact zI_toInt (by omega) (by omega) | rfl) (fun b2 => ?_) (fun b2 => ?_)
              · exfalso; omega
              · refine G_S (pc := 37) f_1_37 rfl rfl rfl ?_
                refine G_S (pc := 39) f_1_39 rfl rfl rfl ?_
                refine G_gIv (pc := 40) f_1_40 (by decide) rfl (by decide) (by first | assumption | exact hK.1 _ _ rfl) (by first | assumption | exact mI_s | ((refine mI_o (by first | decide | omega) ?_); (repeat (refine mI_o (by first | decide | omega) ?_)); first | exact mI_s | assumption) | rfl) ?_
                refine G_jgeZ (pc := 43) f_1_43 rfl (by first | exact nI_toInt (by omega) | exact zI_toInt (by omega) (by omega) | rfl) (by first | exact nI_toInt (by omega) | exact zI_toInt (by omega) (by omega) | rfl) (fun b3 => ?_) (fun b3 => ?_)
                · refine G_S (pc := 68) f_1_68 rfl rfl rfl ?_
                  refine G_S (pc := 70) f_1_70 rfl rfl rfl ?_
                  refine G_gIv (pc := 71) f_1_71 (by decide) rfl (by decide) (by first | assumption | exact hK.1 _ _ rfl) (by first | assumption | exact mI_s | ((refine mI_o (by first | decide | omega) ?_); (repeat (refine mI_o (by first | decide | omega) ?_)); first | exact mI_s | assumption) | rfl) ?_
                  refine G_jneZ (pc := 74) f_1_74 rfl (by first | exact nI_toInt (by omega) | exact zI_toInt (by omega) (by omega) | rfl) (by first | exact nI_toInt (by omega) | exact zI_toInt (by omega) (by omega) | rfl) (fun b4 => ?_) (fun b4 => ?_)
                  · have ec : caS (grF D S c cd) cd q = q := by
                      unfold caS
                      rw [if_neg (by omega), if_neg heq]
                    refine tail _ hFM hs2 hq2 ?_
                    rw [ec]
                    exact hB2
                  · exfalso; omega
                · exfalso; omega
  have hend := endC_0 (pc8 S) (by omega)
  have hid : ∀ i, i < pc8 S → dg (c0 (pc8 S)) i = i := fun i hi => dg_enc (pc8 S) (fun i hi => by omega) i hi
  have hK := W.1
  obtain ⟨⟨t0, t1, t2, t3, t4, t5, t6⟩, r0, r3, r4, r6, r7, r8⟩ := W.2.1
  obtain ⟨hD, ⟨v0, v1, v2⟩, vh, vr, vw, vf⟩ := W.2.2.1
  have hs := W.2.2.2.1
  have hh := W.2.2.2.2
  have hn0 : _ ≤ 8 := hD.1
  have hn1 : _ ≤ 6 := hD.2.1.2
  have hn2 : _ ≤ 8 := hD.2.2.1
  refine CG_in (mL := 6) (hl := false) (lv := [some (.ref 89), some (.ref h), some (.int (nI S)), some (.int (nI c)), none, none]) (ll := []) rfl rfl rfl ?_
  refine G_S (pc := 0) f_1_0 rfl rfl rfl ?_
  refine G_S (pc := 1) f_1_1 rfl rfl rfl ?_
  refine G_S (pc := 2) f_1_2 rfl rfl rfl ?_
  refine G_CV (pc := 3) f_1_3 rfl rfl (by decide) rfl rfl (by first | assumption | exact hK.1 _ _ rfl) (by decide) ⟨Nat.le_of_ble_eq_true rfl, Nat.le_of_ble_eq_true rfl⟩ ?_
  refine CG.mono (b_sit W hS hSD hp.2) ?_
  rintro _ M2 ⟨rfl, hF2, hs2, hq2⟩
  have hK := hF2.K hK
  refine G_S (pc := 6) f_1_6 rfl rfl rfl ?_
  refine G_ic (v := nI 0) (pc := 7) f_1_7 (by decide) ?_
  refine G_pI (pc := 8) f_1_8 rfl (by first | assumption | exact hK.1 _ _ rfl) ?_
  refine G_ic (v := nI 0) (pc := 11) f_1_11 (by decide) ?_
  refine G_S (pc := 12) f_1_12 rfl rfl rfl ?_
  refine loop 720 0 (by omega) _ (c0 (pc8 S)) (0, 0, 0) _ ((hF2.sub (by decide)).tr (Fo.up (i := 89) (k := 2) (x := nI 0) (by decide))) (by (try dsimp only); exact up2_o (by omega) hs2) (fun i hi => ?_) ⟨(by (try dsimp only); exact up2_s), fun z => absurd rfl z⟩ ⟨by decide, by decide⟩ hend
  rw [hid i hi]
  exact (by (try dsimp only); exact up2_o (by omega) (hq2 i hi))
theorem sw2 (x : Int32) : x = nI 0 ∨ x = nI 1 ∨ ¬ (x.toInt = 0 ∨ x.toInt = 1) := by
  by_cases h : x.toInt = 0 ∨ x.toInt = 1
  · obtain ⟨c, hc, rfl⟩ := i_nat (x := x) (n := 2) (by omega) (by omega)
    rcases (show c = 0 ∨ c = 1 by omega) with rfl | rfl
    · exact Or.inl rfl
    · exact Or.inr (Or.inl rfl)
  · exact Or.inr (Or.inr h)
theorem b_answer {c : Nat} (hK : KM M.1 M.2.2.2) (hp : pc8 S ≤ 6) (hs : M.2.1 89 0 = nI (pc8 S)) (hB : BR M D S (calF D S c)) (hw : (calF D S c).2.1 ≠ 0) (h0 : S ≠ 0) (hc : c ≤ 9) : CG C 2 [.ref 89, .int x] M (fun w M' => w = some (.int (calA D S (nI c) x)) ∧ M' = M) := by
  have hw2 := hB.1
  obtain ⟨hl2, hf2⟩ := hB.2 hw
  have ec : (nI c).toInt.toNat = c := by rw [nI_toInt (by omega), Int.toNat_natCast]
  have e0 : calA D S (nI c) x = if x.toInt = 0 then nI (calF D S c).1 else if x.toInt = 1 then nI (calF D S c).2.1 else if 10 ≤ x.toInt ∧ x.toInt < 10 + (pc8 S : Int) then nI (odF S (D 2) (dg (calF D S c).2.2 (x.toInt.toNat - 10))) else zI (-1) := by
    unfold calA
    rw [ec, if_neg (by rw [nI_toInt (by omega)]; omega)]
  rw [e0]
  by_cases hx : 10 ≤ x.toInt ∧ x.toInt < 10 + (pc8 S : Int)
  · obtain ⟨e, he, rfl⟩ := i_nat (x := x) (n := 16) (by omega) (by omega)
    rw [nI_toInt (by omega)] at hx
    have qe := hf2 (e - 10) (by omega)
    refine CG_in (mL := 2) (hl := false) (lv := [some (.ref 89), some (.int (nI e))]) (ll := []) rfl rfl rfl ?_
    refine G_S (pc := 0) f_2_0 rfl rfl rfl ?_
    skip
    · refine G_lsO (pc := 1) f_2_1 rfl ((by rw [nI_toInt (by omega)]; omega)) ?_
      refine G_S (pc := 38) f_2_38 rfl rfl rfl ?_
      refine G_bi (v := nI 10) (pc := 39) f_2_39 (by decide) ?_
      refine G_jltZ (pc := 41) f_2_41 rfl (by first | exact nI_toInt (by omega) | exact zI_toInt (by omega) (by omega) | rfl) (by first | exact nI_toInt (by omega) | exact zI_toInt (by omega) (by omega) | rfl) (fun b1 => ?_) (fun b1 => ?_)
      · exfalso; omega
      · refine G_S (pc := 44) f_2_44 rfl rfl rfl ?_
        refine G_bi (v := nI 10) (pc := 45) f_2_45 (by decide) ?_
        refine G_S (pc := 47) f_2_47 rfl rfl rfl ?_
        refine G_gIv (pc := 48) f_2_48 (by decide) rfl (by decide) (by first | assumption | exact hK.1 _ _ rfl) (by first | assumption | exact mI_s | ((refine mI_o (by first | decide | omega) ?_); (repeat (refine mI_o (by first | decide | omega) ?_)); first | exact mI_s | assumption) | rfl) ?_
        first | refine G_addN (pc := 51) f_2_51 ?_ | refine G_addZ (pc := 51) f_2_51 (by first | rfl | exact nI_zI _) (by first | rfl | exact nI_zI _) ?_ | refine G_S (pc := 51) f_2_51 rfl rfl rfl ?_
        refine G_jgeZ (pc := 52) f_2_52 rfl (by first | exact nI_toInt (by omega) | exact zI_toInt (by omega) (by omega) | rfl) (by first | exact nI_toInt (by omega) | exact zI_toInt (by omega) (by omega) | rfl) (fun b2 => ?_) (fun b2 => ?_)
        · exfalso; omega
        · refine G_S (pc := 55) f_2_55 rfl rfl rfl ?_
          refine G_gR (pc := 56) f_2_56 (by decide) rfl (by first | assumption | exact hK.1 _ _ rfl) (by first | assumption | exact hK.2 _ _ _ rfl | (try dsimp only) <;> (repeat (first | exact up2_s | refine up2_o (by first | decide | omega) ?_)) <;> first | assumption | exact hK.2 _ _ _ rfl) ?_
          refine G_S (pc := 59) f_2_59 rfl rfl rfl ?_
          refine G_bi (v := nI 10) (pc := 60) f_2_60 (by decide) ?_
          first | refine G_subN (pc := 62) f_2_62 (by omega) ?_ | refine G_subZ (pc := 62) f_2_62 (by first | rfl | exact nI_zI _) (by first | rfl | exact nI_zI _) ?_ | refine G_S (pc := 62) f_2_62 rfl rfl rfl ?_
          refine G_iaN (pc := 63) f_2_63 (by first | assumption | exact hK.1 _ _ rfl) (by omega) (by omega) (by first | exact qe | rfl) ?_
          refine G_S (pc := 64) f_2_64 rfl rfl rfl ?_
          refine G_ri (pc := 68) f_2_68 ?_
          refine ⟨?_, rfl⟩
          rw [nI_toInt (by omega), if_neg (by omega), if_neg (by omega), if_pos (by omega), Int.toNat_natCast]
  · refine CG_in (mL := 2) (hl := false) (lv := [some (.ref 89), some (.int x)]) (ll := []) rfl rfl rfl ?_
    refine G_S (pc := 0) f_2_0 rfl rfl rfl ?_
    rcases sw2 x with rfl | rfl | hw
    · refine G_S (pc := 1) f_2_1 rfl rfl rfl ?_
      refine G_S (pc := 28) f_2_28 rfl rfl rfl ?_
      refine G_gIv (pc := 29) f_2_29 (by decide) rfl (by decide) (by first | assumption | exact hK.1 _ _ rfl) (by first | assumption | exact mI_s | ((refine mI_o (by first | decide | omega) ?_); (repeat (refine mI_o (by first | decide | omega) ?_)); first | exact mI_s | assumption) | rfl) ?_
      refine G_ri (pc := 32) f_2_32 ?_
      refine ⟨?_, rfl⟩
      first
        | rfl
        | (rw [if_neg (by omega), if_neg (by omega), if_neg hx])
    · refine G_S (pc := 1) f_2_1 rfl rfl rfl ?_
      refine G_S (pc := 33) f_2_33 rfl rfl rfl ?_
      refine G_gIv (pc := 34) f_2_34 (by decide) rfl (by decide) (by first | assumption | exact hK.1 _ _ rfl) (by first | assumption | exact mI_s | ((refine mI_o (by first | decide | omega) ?_); (repeat (refine mI_o (by first | decide | omega) ?_)); first | exact mI_s | assumption) | rfl) ?_
      refine G_ri (pc := 37) f_2_37 ?_
      refine ⟨?_, rfl⟩
      first
        | rfl
        | (rw [if_neg (by omega), if_neg (by omega), if_neg hx])
    · refine G_lsO (pc := 1) f_2_1 rfl (hw) ?_
      refine G_S (pc := 38) f_2_38 rfl rfl rfl ?_
      refine G_bi (v := nI 10) (pc := 39) f_2_39 (by decide) ?_
      refine G_jltZ (pc := 41) f_2_41 rfl (by first | exact nI_toInt (by omega) | exact zI_toInt (by omega) (by omega) | rfl) (by first | exact nI_toInt (by omega) | exact zI_toInt (by omega) (by omega) | rfl) (fun b1 => ?_) (fun b1 => ?_)
      · refine G_ic (v := zI (-1)) (pc := 67) f_2_67 (by decide) ?_
        refine G_ri (pc := 68) f_2_68 ?_
        refine ⟨?_, rfl⟩
        first
          | rfl
          | (rw [if_neg (by omega), if_neg (by omega), if_neg hx])
      · refine G_S (pc := 44) f_2_44 rfl rfl rfl ?_
        refine G_bi (v := nI 10) (pc := 45) f_2_45 (by decide) ?_
        refine G_S (pc := 47) f_2_47 rfl rfl rfl ?_
        refine G_gIv (pc := 48) f_2_48 (by decide) rfl (by decide) (by first | assumption | exact hK.1 _ _ rfl) (by first | assumption | exact mI_s | ((refine mI_o (by first | decide | omega) ?_); (repeat (refine mI_o (by first | decide | omega) ?_)); first | exact mI_s | assumption) | rfl) ?_
        first | refine G_addN (pc := 51) f_2_51 ?_ | refine G_addZ (pc := 51) f_2_51 (by first | rfl | exact nI_zI _) (by first | rfl | exact nI_zI _) ?_ | refine G_S (pc := 51) f_2_51 rfl rfl rfl ?_
        refine G_jgeZ (pc := 52) f_2_52 rfl (by first | exact nI_toInt (by omega) | exact zI_toInt (by omega) (by omega) | rfl) (by first | exact nI_toInt (by omega) | exact zI_toInt (by omega) (by omega) | rfl) (fun b2 => ?_) (fun b2 => ?_)
        · refine G_ic (v := zI (-1)) (pc := 67) f_2_67 (by decide) ?_
          refine G_ri (pc := 68) f_2_68 ?_
          refine ⟨?_, rfl⟩
          first
            | rfl
            | (rw [if_neg (by omega), if_neg (by omega), if_neg hx])
        · exfalso; omega
theorem pc8_z : ∀ S, S < 256 → S ≠ 0 → 1 ≤ pc8 S := by decide +kernel
theorem c_calm (W : CLs M n L) : CG C 168 [.ref 0, .int k, .int x, .int y, .int z] M (fun w M' => w = some (.int (aFor (slin n L k x) (fun D S => calA D S y z))) ∧ Fc CS M M') := by
  have hK := W.1
  cases hx : slin n L k x with
  | none =>
    refine CG_in (mL := 6) (hl := false) (lv := [some (.ref 0), some (.int k), some (.int x), some (.int y), some (.int z), none]) (ll := []) rfl rfl rfl ?_
    refine G_S (pc := 0) f_168_0 rfl rfl rfl ?_
    refine G_S (pc := 1) f_168_1 rfl rfl rfl ?_
    refine G_S (pc := 2) f_168_2 rfl rfl rfl ?_
    refine G_CV (pc := 3) f_168_3 rfl rfl (by decide) rfl rfl (by first | assumption | exact hK.1 _ _ rfl) (by decide) ⟨Nat.le_of_ble_eq_true rfl, Nat.le_of_ble_eq_true rfl⟩ ?_
    refine CG.go (c_for0 W hx) ?_
    refine G_S (pc := 6) f_168_6 rfl rfl rfl ?_
    refine G_S (pc := 8) f_168_8 rfl rfl rfl ?_
    refine G_S (pc := 10) f_168_10 rfl rfl rfl ?_
    refine G_ic (v := zI (-1)) (pc := 27) f_168_27 (by decide) ?_
    refine G_ri (pc := 28) f_168_28 ?_
    exact ⟨rfl, Fc.rf⟩
  | some q =>
    obtain ⟨D, S⟩ := q
    obtain ⟨hS, rfl, hse⟩ := sea_some (slin_some hx).2
    show CG C 168 [.ref 0, .int k, .int (nI S), .int y, .int z] M (fun w M' => w = some (.int (calA D S y z)) ∧ Fc CS M M')
    by_cases hy : S ≠ 0 ∧ 0 ≤ y.toInt ∧ y.toInt ≤ 9
    · obtain ⟨c, hc, rfl⟩ := i_nat (x := y) (n := 10) hy.2.1 (by omega)
      refine CG_in (mL := 6) (hl := false) (lv := [some (.ref 0), some (.int k), some (.int (nI S)), some (.int (nI c)), some (.int z), none]) (ll := []) rfl rfl rfl ?_
      refine G_S (pc := 0) f_168_0 rfl rfl rfl ?_
      refine G_S (pc := 1) f_168_1 rfl rfl rfl ?_
      refine G_S (pc := 2) f_168_2 rfl rfl rfl ?_
      refine G_CV (pc := 3) f_168_3 rfl rfl (by decide) rfl rfl (by first | assumption | exact hK.1 _ _ rfl) (by decide) ⟨Nat.le_of_ble_eq_true rfl, Nat.le_of_ble_eq_true rfl⟩ ?_
      refine CG.mono (c_for1 W hx) ?_
      rintro _ M1 ⟨⟨h, rfl, W1⟩, rfl⟩
      have hK := W1.1
      obtain ⟨⟨t0, t1, t2, t3, t4, t5, t6⟩, r0, r3, r4, r6, r7, r8⟩ := W1.2.1
      obtain ⟨hD, ⟨v0, v1, v2⟩, vh, vr, vw, vf⟩ := W1.2.2.1
      have hs := W1.2.2.2.1
      have hh := W1.2.2.2.2
      have hn0 : _ ≤ 8 := hD.1
      have hn1 : _ ≤ 6 := hD.2.1.2
      have hn2 : _ ≤ 8 := hD.2.2.1
      have hS8 := pw2 hn2 hS
      have hp1 := pc8_z S hS8 hy.1
      refine G_S (pc := 6) f_168_6 rfl rfl rfl ?_
      refine G_S (pc := 8) f_168_8 rfl rfl rfl ?_
      refine G_S (pc := 10) f_168_10 rfl rfl (if_pos (by first | assumption | omega)) ?_
      refine G_S (pc := 13) f_168_13 rfl rfl rfl ?_
      first | refine G_bEq (pc := 14) f_168_14 rfl (fun b2 => ?_) (fun b2 => ?_) | refine G_zeqZ (pc := 14) f_168_14 rfl (by first | exact nI_toInt (by omega) | exact zI_toInt (by omega) (by omega) | rfl) (fun b2 => ?_) (fun b2 => ?_)
      · exfalso; omega
      · refine G_S (pc := 17) f_168_17 rfl rfl rfl ?_
        refine G_zltZ (pc := 18) f_168_18 rfl (by first | exact nI_toInt (by omega) | exact zI_toInt (by omega) (by omega) | rfl) (fun b3 => ?_) (fun b3 => ?_)
        · exfalso; omega
        · refine G_S (pc := 21) f_168_21 rfl rfl rfl ?_
          refine G_bi (v := nI 9) (pc := 22) f_168_22 (by decide) ?_
          refine G_jleZ (pc := 24) f_168_24 rfl (by first | exact nI_toInt (by omega) | exact zI_toInt (by omega) (by omega) | rfl) (by first | exact nI_toInt (by omega) | exact zI_toInt (by omega) (by omega) | rfl) (fun b4 => ?_) (fun b4 => ?_)
          · refine G_S (pc := 29) f_168_29 rfl rfl rfl ?_
            refine G_gR (pc := 30) f_168_30 (by decide) rfl (by first | assumption | exact hK.1 _ _ rfl) (by first | assumption | exact hK.2 _ _ _ rfl | (try dsimp only) <;> (repeat (first | exact up2_s | refine up2_o (by first | decide | omega) ?_)) <;> first | assumption | exact hK.2 _ _ _ rfl) ?_
            refine G_S (pc := 33) f_168_33 rfl rfl rfl ?_
            refine G_S (pc := 35) f_168_35 rfl rfl rfl ?_
            refine G_S (pc := 36) f_168_36 rfl rfl rfl ?_
            refine G_CV (pc := 37) f_168_37 rfl rfl (by decide) rfl rfl (by first | assumption | exact hK.1 _ _ rfl) (by decide) ⟨Nat.le_of_ble_eq_true rfl, Nat.le_of_ble_eq_true rfl⟩ ?_
            refine CG.mono (b_seatAll W1 hS ⟨hp1, by omega⟩ (by omega)) ?_
            rintro _ M2 ⟨rfl, hF, hs2, hB, hw⟩
            have hK := hF.K hK
            refine G_S (pc := 40) f_168_40 rfl rfl rfl ?_
            refine G_gR (pc := 41) f_168_41 (by decide) rfl (by first | assumption | exact hK.1 _ _ rfl) (by first | assumption | exact hK.2 _ _ _ rfl | (try dsimp only) <;> (repeat (first | exact up2_s | refine up2_o (by first | decide | omega) ?_)) <;> first | assumption | exact hK.2 _ _ _ rfl) ?_
            refine G_S (pc := 44) f_168_44 rfl rfl rfl ?_
            refine G_CV (pc := 46) f_168_46 rfl rfl (by decide) rfl rfl (by first | assumption | exact hK.1 _ _ rfl) (by decide) ⟨Nat.le_of_ble_eq_true rfl, Nat.le_of_ble_eq_true rfl⟩ ?_
            refine CG.go (b_answer hK (by omega) hs2 hB hw hy.1 (by omega)) ?_
            refine G_ri (pc := 49) f_168_49 ?_
            exact ⟨rfl, hF.c.sub (by decide)⟩
          · exfalso; omega
    · have e0 : calA D S y z = zI (-1) := by
        unfold calA
        rw [if_pos (by omega)]
      rw [e0]
      refine CG_in (mL := 6) (hl := false) (lv := [some (.ref 0), some (.int k), some (.int (nI S)), some (.int y), some (.int z), none]) (ll := []) rfl rfl rfl ?_
      refine G_S (pc := 0) f_168_0 rfl rfl rfl ?_
      refine G_S (pc := 1) f_168_1 rfl rfl rfl ?_
      refine G_S (pc := 2) f_168_2 rfl rfl rfl ?_
      refine G_CV (pc := 3) f_168_3 rfl rfl (by decide) rfl rfl (by first | assumption | exact hK.1 _ _ rfl) (by decide) ⟨Nat.le_of_ble_eq_true rfl, Nat.le_of_ble_eq_true rfl⟩ ?_
      refine CG.mono (c_for1 W hx) ?_
      rintro _ M1 ⟨⟨h, rfl, W1⟩, rfl⟩
      have hK := W1.1
      obtain ⟨⟨t0, t1, t2, t3, t4, t5, t6⟩, r0, r3, r4, r6, r7, r8⟩ := W1.2.1
      obtain ⟨hD, ⟨v0, v1, v2⟩, vh, vr, vw, vf⟩ := W1.2.2.1
      have hs := W1.2.2.2.1
      have hh := W1.2.2.2.2
      have hn0 : _ ≤ 8 := hD.1
      have hn1 : _ ≤ 6 := hD.2.1.2
      have hn2 : _ ≤ 8 := hD.2.2.1
      have hS8 := pw2 hn2 hS
      refine G_S (pc := 6) f_168_6 rfl rfl rfl ?_
      refine G_S (pc := 8) f_168_8 rfl rfl rfl ?_
      refine G_S (pc := 10) f_168_10 rfl rfl (if_pos (by first | assumption | omega)) ?_
      refine G_S (pc := 13) f_168_13 rfl rfl rfl ?_
      first | refine G_bEq (pc := 14) f_168_14 rfl (fun b2 => ?_) (fun b2 => ?_) | refine G_zeqZ (pc := 14) f_168_14 rfl (by first | exact nI_toInt (by omega) | exact zI_toInt (by omega) (by omega) | rfl) (fun b2 => ?_) (fun b2 => ?_)
      · refine G_ic (v := zI (-1)) (pc := 27) f_168_27 (by decide) ?_
        refine G_ri (pc := 28) f_168_28 ?_
        exact ⟨rfl, Fc.rf⟩
      · refine G_S (pc := 17) f_168_17 rfl rfl rfl ?_
        refine G_zltZ (pc := 18) f_168_18 rfl (by first | exact nI_toInt (by omega) | exact zI_toInt (by omega) (by omega) | rfl) (fun b3 => ?_) (fun b3 => ?_)
        · refine G_ic (v := zI (-1)) (pc := 27) f_168_27 (by decide) ?_
          refine G_ri (pc := 28) f_168_28 ?_
          exact ⟨rfl, Fc.rf⟩
        · refine G_S (pc := 21) f_168_21 rfl rfl rfl ?_
          refine G_bi (v := nI 9) (pc := 22) f_168_22 (by decide) ?_
          refine G_jleZ (pc := 24) f_168_24 rfl (by first | exact nI_toInt (by omega) | exact zI_toInt (by omega) (by omega) | rfl) (by first | exact nI_toInt (by omega) | exact zI_toInt (by omega) (by omega) | rfl) (fun b4 => ?_) (fun b4 => ?_)
          · exfalso; omega
          · refine G_ic (v := zI (-1)) (pc := 27) f_168_27 (by decide) ?_
            refine G_ri (pc := 28) f_168_28 ?_
            exact ⟨rfl, Fc.rf⟩
end CAC
