/-! the reference's tram: ounces, going, deeds -/
section MTS
variable {C : Ct} {M : Mm} {l k : Nat} {D : Nat → Nat} {S : Nat → Int} {b : Nat → Nat} {x y : Int32}
theorem TM.oz {M1 : Mm} {b' : Nat → Nat} (W : TM M l D k S b) (hF : Fm [110] [] M M1) (hq : ∀ r, r < D 2 → M1.2.1 110 r = nI (b' r)) (hb : ∀ r, r < D 2 → b' r ≤ 99) : TM M1 l D k S b' := by
  obtain ⟨h1, ⟨s0, s1, s2, s3⟩, q1, q2, q3, hO⟩ := W
  refine ⟨h1.fm hF (by decide) (by decide), ⟨by rw [hF.2.2 31 (by decide)]; exact s0, by rw [hF.2.2 32 (by decide)]; exact s1, by rw [hF.2.2 33 (by decide)]; exact s2, by rw [hF.2.2 34 (by decide)]; exact s3⟩, hq, by rw [(hF.2.1 111 (by decide) (by decide)).1]; exact q2, by rw [(hF.2.1 112 (by decide) (by decide)).1]; exact q3, hO.ob hb⟩
theorem TM.fd {M1 : Mm} {k' : Nat} {S' : Nat → Int} (W : TM M l D k S b) (hF : Fm [] TFs M M1) (hs : M1.2.1 98 31 = zI (S' 0) ∧ M1.2.1 98 32 = zI (S' 1) ∧ M1.2.1 98 33 = zI (S' 2) ∧ M1.2.1 98 34 = zI (S' 3)) (e : ∀ j, 20 ≤ j → S' j = S j) (hO : TOK D k' S' b) : TM M1 l D k' S' b := by
  obtain ⟨h1, _, q1, q2, q3, _⟩ := W
  refine ⟨h1.fm hF (by decide) TFs_ok, hs, by rw [(hF.2.1 110 (by decide) (by decide)).1]; exact q1, fun r hr => ?_, fun s hs => ?_, hO⟩
  · rw [(hF.2.1 111 (by decide) (by decide)).1, e _ (by omega)]
    exact q2 r hr
  · rw [(hF.2.1 112 (by decide) (by decide)).1, e _ (by omega)]
    exact q3 s hs
theorem n_tells {n : Int} (W : TM M l D k S b) (hx : x = zI n) (h1 : -1000 ≤ n) (h2 : n ≤ 1000) : CG C 240 [.ref 98, .int x] M (fun w M' => w = none ∧ Fm TO TFs M M' ∧ TM M' l D k S (adB S n b)) := by
  subst hx
  have hbb := W.2.2.2.2.2.2.2.2.2.2.1
  have loop : ∀ i, i ≤ D 2 → ∀ M1, Fm [110] [] M M1 → TM M1 l D k S (mx i (adB S n b) b) → G C 240 (2, [some (.ref 98), some (.int (zI n)), some (.int (nI i))], [], [], M1) (fun w M' => w = none ∧ Fm TO TFs M M' ∧ TM M' l D k S (adB S n b)) := by
    refine upto (fun i hi ih M1 hF W1 => ?_)
    have hK := W1.1.1
    have hH := W1.1.2
    obtain ⟨⟨a0, a1, a2, a3⟩, hl8, hD, ao⟩ := W1.1.2
    have hn0 : _ ≤ 8 := hD.1
    have hn1 : _ ≤ 6 := hD.2.1.2
    have hn2 : _ ≤ 8 := hD.2.2.1
    obtain ⟨⟨s0, s1, s2, s3⟩, q1, q2, q3, hO⟩ := W1.2
    obtain ⟨o0, o1, o2, o3, o4, o5, o6⟩ := hO
    have hbi : i < D 2 → b i ≤ 99 := fun q => (hbb i q).2
    have q4 : i < D 2 → M1.2.1 110 i = nI (b i) := fun q => by rw [q1 i q, mx, if_neg (by omega)]
    have nxt : ∀ M2, i < D 2 → Fm [110] [] M1 M2 → (∀ r, r < D 2 → r ≠ i → M2.2.1 110 r = M1.2.1 110 r) → M2.2.1 110 i = nI (adB S n b i) → TM M2 l D k S (mx (i + 1) (adB S n b) b) := by
      intro M2 hi2 hF2 e1 e2
      refine W1.oz hF2 (fun r hr => ?_) (fun r hr => ?_)
      · by_cases q : r = i
        · subst q
          rw [e2, mx, if_pos (by omega)]
        · rw [e1 r hr q, q1 r hr]
          unfold mx
          by_cases q2 : r < i
          · rw [if_pos q2, if_pos (by omega)]
          · rw [if_neg q2, if_neg (by omega)]
      · have := (hbb r hr).2
        unfold mx adB
        split
        · split <;> omega
        · omega
    refine G_S (pc := 2) f_240_2 rfl rfl rfl ?_
    refine G_S (pc := 3) f_240_3 rfl rfl rfl ?_
    refine G_gIv (pc := 4) f_240_4 (by decide) rfl (by decide) (by first | assumption | exact hK.1 _ _ rfl) (by first | assumption | exact mI_s | ((refine mI_o (by first | decide | omega) ?_); (repeat (refine mI_o (by first | decide | omega) ?_)); first | exact mI_s | assumption) | rfl) ?_
    refine G_jgeZ (pc := 7) f_240_7 rfl (by first | exact nI_toInt (by omega) | exact zI_toInt (by omega) (by omega) | rfl) (by first | exact nI_toInt (by omega) | exact zI_toInt (by omega) (by omega) | rfl) (fun b1 => ?_) (fun b1 => ?_)
    · refine G_rv (pc := 47) f_240_47 ?_
      refine ⟨rfl, hF.sub (by decide) (by decide), W1.oz Fm.rf (fun r hr => ?_) (fun r hr => ?_)⟩
      · rw [q1 r hr, mx, if_pos (by omega)]
      · have := (hbb r hr).2
        unfold adB
        split <;> omega
    · have hbi := hbi (by omega)
      have q4 := q4 (by omega)
      refine G_S (pc := 10) f_240_10 rfl rfl rfl ?_
      refine G_S (pc := 11) f_240_11 rfl rfl rfl ?_
      refine G_CV (pc := 12) f_240_12 rfl rfl (by decide) rfl rfl (by first | assumption | exact hK.1 _ _ rfl) (by decide) ⟨Nat.le_of_ble_eq_true rfl, Nat.le_of_ble_eq_true rfl⟩ ?_
      refine CG.go (n_isAboard W1 (by omega)) ?_
      first | refine G_bEq (pc := 15) f_240_15 rfl (fun b2 => ?_) (fun b2 => ?_) | refine G_zeqZ (pc := 15) f_240_15 rfl (by first | exact nI_toInt (by omega) | exact zI_toInt (by omega) (by omega) | rfl) (fun b2 => ?_) (fun b2 => ?_)
      · first | refine G_inc1 (pc := 41) f_240_41 rfl ?_ | refine G_S (pc := 41) f_240_41 rfl rfl rfl ?_
        refine G_S (pc := 44) f_240_44 rfl rfl rfl ?_
        first
          | (refine ih (by omega) M1 hF (nxt M1 (by omega) Fm.rf (fun _ _ _ => rfl) ?_)
             rw [q4, adB, if_neg b2])
          | (have hF3 : Fm [110] [] M1 _ := Fm.up (i := 110) (k := i) (x := zI (max ((0 : Nat) : Int) (min ((99 : Nat) : Int) ((b i : Int) + n)))) (by decide) (by decide)
             refine ih (by omega) _ (hF.tr hF3) (nxt _ (by omega) hF3 (fun r hr hne => (by (try dsimp only); exact up2_o (by omega) rfl)) ?_)
             rw [adB, if_pos b2, nI_zI, Int.toNat_of_nonneg (by omega)]
             exact (by (try dsimp only); exact up2_s))
      · refine G_S (pc := 18) f_240_18 rfl rfl rfl ?_
        refine G_gR (pc := 19) f_240_19 (by decide) rfl (by first | assumption | exact hK.1 _ _ rfl) (by first | assumption | exact hK.2 _ _ _ rfl | (try dsimp only) <;> (repeat (first | exact up2_s | refine up2_o (by first | decide | omega) ?_)) <;> first | assumption | exact hK.2 _ _ _ rfl) ?_
        refine G_S (pc := 22) f_240_22 rfl rfl rfl ?_
        refine G_ic (v := nI 0) (pc := 23) f_240_23 (by decide) ?_
        refine G_bi (v := nI 99) (pc := 24) f_240_24 (by decide) ?_
        refine G_S (pc := 26) f_240_26 rfl rfl rfl ?_
        refine G_gR (pc := 27) f_240_27 (by decide) rfl (by first | assumption | exact hK.1 _ _ rfl) (by first | assumption | exact hK.2 _ _ _ rfl | (try dsimp only) <;> (repeat (first | exact up2_s | refine up2_o (by first | decide | omega) ?_)) <;> first | assumption | exact hK.2 _ _ _ rfl) ?_
        refine G_S (pc := 30) f_240_30 rfl rfl rfl ?_
        refine G_iaN (pc := 31) f_240_31 (by first | assumption | exact hK.1 _ _ rfl) (by omega) (by omega) (by first | exact q4 | rfl) ?_
        refine G_S (pc := 32) f_240_32 rfl rfl rfl ?_
        first | refine G_addN (pc := 33) f_240_33 ?_ | refine G_addZ (pc := 33) f_240_33 (by first | rfl | exact nI_zI _) (by first | rfl | exact nI_zI _) ?_ | refine G_S (pc := 33) f_240_33 rfl rfl rfl ?_
        refine G_CS (pc := 34) f_240_34 rfl rfl (by decide) rfl rfl ⟨Nat.le_of_ble_eq_true rfl, Nat.le_of_ble_eq_true rfl⟩ ?_
        refine CG.go (m_lesserZ (nI_toInt (by omega)) (zI_toInt (by omega) (by omega))) ?_
        refine G_CS (pc := 37) f_240_37 rfl rfl (by decide) rfl rfl ⟨Nat.le_of_ble_eq_true rfl, Nat.le_of_ble_eq_true rfl⟩ ?_
        refine CG.go (m_greaterZ (nI_toInt (by omega)) (zI_toInt (by omega) (by omega))) ?_
        refine G_isN (pc := 40) f_240_40 (by first | assumption | exact hK.1 _ _ rfl) (by omega) (by omega) ?_
        first | refine G_inc1 (pc := 41) f_240_41 rfl ?_ | refine G_S (pc := 41) f_240_41 rfl rfl rfl ?_
        refine G_S (pc := 44) f_240_44 rfl rfl rfl ?_
        first
          | (refine ih (by omega) M1 hF (nxt M1 (by omega) Fm.rf (fun _ _ _ => rfl) ?_)
             rw [q4, adB, if_neg b2])
          | (have hF3 : Fm [110] [] M1 _ := Fm.up (i := 110) (k := i) (x := zI (max ((0 : Nat) : Int) (min ((99 : Nat) : Int) ((b i : Int) + n)))) (by decide) (by decide)
             refine ih (by omega) _ (hF.tr hF3) (nxt _ (by omega) hF3 (fun r hr hne => (by (try dsimp only); exact up2_o (by omega) rfl)) ?_)
             rw [adB, if_pos b2, nI_zI, Int.toNat_of_nonneg (by omega)]
             exact (by (try dsimp only); exact up2_s))
  have hK := W.1.1
  have hH := W.1.2
  obtain ⟨⟨a0, a1, a2, a3⟩, hl8, hD, ao⟩ := W.1.2
  have hn0 : _ ≤ 8 := hD.1
  have hn1 : _ ≤ 6 := hD.2.1.2
  have hn2 : _ ≤ 8 := hD.2.2.1
  obtain ⟨⟨s0, s1, s2, s3⟩, q1, q2, q3, hO⟩ := W.2
  obtain ⟨o0, o1, o2, o3, o4, o5, o6⟩ := hO
  refine CG_in (mL := 3) (hl := false) (lv := [some (.ref 98), some (.int (zI n)), none]) (ll := []) rfl rfl rfl ?_
  refine G_ic (v := nI 0) (pc := 0) f_240_0 (by decide) ?_
  refine G_S (pc := 1) f_240_1 rfl rfl rfl ?_
  exact loop 0 (Nat.zero_le _) M Fm.rf W
theorem n_pull (W : TM M l D k S b) : CG C 242 [.ref 98] M (fun w M' => w = some (.int (nI (ptN D S b (D 2)))) ∧ M' = M) := by
  have hK := W.1.1
  have hH := W.1.2
  obtain ⟨⟨a0, a1, a2, a3⟩, hl8, hD, ao⟩ := W.1.2
  have hn0 : _ ≤ 8 := hD.1
  have hn1 : _ ≤ 6 := hD.2.1.2
  have hn2 : _ ≤ 8 := hD.2.2.1
  obtain ⟨⟨s0, s1, s2, s3⟩, q1, q2, q3, hO⟩ := W.2
  obtain ⟨o0, o1, o2, o3, o4, o5, o6⟩ := hO
  have loop : ∀ i, i ≤ D 2 → G C 242 (4, [some (.ref 98), some (.int (nI (ptN D S b i))), some (.int (nI i))], [], [], M) (fun w M' => w = some (.int (nI (ptN D S b (D 2)))) ∧ M' = M) := by
    refine upto (fun i hi ih => ?_)
    have hbi : i < D 2 → b i ≤ 99 := fun q => (o5 i q).2
    refine G_S (pc := 4) f_242_4 rfl rfl rfl ?_
    refine G_S (pc := 5) f_242_5 rfl rfl rfl ?_
    refine G_gIv (pc := 6) f_242_6 (by decide) rfl (by decide) (by first | assumption | exact hK.1 _ _ rfl) (by first | assumption | exact mI_s | ((refine mI_o (by first | decide | omega) ?_); (repeat (refine mI_o (by first | decide | omega) ?_)); first | exact mI_s | assumption) | rfl) ?_
    refine G_jgeZ (pc := 9) f_242_9 rfl (by first | exact nI_toInt (by omega) | exact zI_toInt (by omega) (by omega) | rfl) (by first | exact nI_toInt (by omega) | exact zI_toInt (by omega) (by omega) | rfl) (fun b1 => ?_) (fun b1 => ?_)
    · refine G_S (pc := 44) f_242_44 rfl rfl rfl ?_
      refine G_ri (pc := 45) f_242_45 ?_
      rw [show i = D 2 by omega]
      exact ⟨rfl, rfl⟩
    · have hbi := hbi (by omega)
      refine G_S (pc := 12) f_242_12 rfl rfl rfl ?_
      refine G_S (pc := 13) f_242_13 rfl rfl rfl ?_
      refine G_S (pc := 14) f_242_14 rfl rfl rfl ?_
      refine G_CV (pc := 15) f_242_15 rfl rfl (by decide) rfl rfl (by first | assumption | exact hK.1 _ _ rfl) (by decide) ⟨Nat.le_of_ble_eq_true rfl, Nat.le_of_ble_eq_true rfl⟩ ?_
      refine CG.go (n_isAboard W (by omega)) ?_
      first | refine G_bEq (pc := 18) f_242_18 rfl (fun b2 => ?_) (fun b2 => ?_) | refine G_zeqZ (pc := 18) f_242_18 rfl (by first | exact nI_toInt (by omega) | exact zI_toInt (by omega) (by omega) | rfl) (fun b2 => ?_) (fun b2 => ?_)
      · refine G_ic (v := nI 0) (pc := 35) f_242_35 (by decide) ?_
        first | refine G_addN (pc := 36) f_242_36 ?_ | refine G_addZ (pc := 36) f_242_36 (by first | rfl | exact nI_zI _) (by first | rfl | exact nI_zI _) ?_ | refine G_S (pc := 36) f_242_36 rfl rfl rfl ?_
        refine G_S (pc := 37) f_242_37 rfl rfl rfl ?_
        first | refine G_inc1 (pc := 38) f_242_38 rfl ?_ | refine G_S (pc := 38) f_242_38 rfl rfl rfl ?_
        refine G_S (pc := 41) f_242_41 rfl rfl rfl ?_
        have e := ih (by omega)
        first
          | (rw [ptN, if_pos b2] at e; exact e)
          | (rw [ptN, if_neg b2] at e; exact e)
      · refine G_S (pc := 21) f_242_21 rfl rfl rfl ?_
        refine G_S (pc := 22) f_242_22 rfl rfl rfl ?_
        refine G_S (pc := 23) f_242_23 rfl rfl rfl ?_
        refine G_gR (pc := 24) f_242_24 (by decide) rfl (by first | assumption | exact hK.1 _ _ rfl) (by first | assumption | exact hK.2 _ _ _ rfl | (try dsimp only) <;> (repeat (first | exact up2_s | refine up2_o (by first | decide | omega) ?_)) <;> first | assumption | exact hK.2 _ _ _ rfl) ?_
        refine G_S (pc := 27) f_242_27 rfl rfl rfl ?_
        refine G_iaN (pc := 28) f_242_28 (by first | assumption | exact hK.1 _ _ rfl) (by omega) (by omega) (by first | assumption | exact q1 _ (by omega) | exact q2 _ (by omega) | exact q3 _ (by omega) | exact q4 _ (by omega) | exact q5 _ (by omega) | exact vh _ (by omega) | exact (vr _ (by omega)).1 | exact (vr _ (by omega)).2 | exact vw _ (by omega) | exact vf _ (by omega) (by omega) | exact mI_s | ((refine mI_o (by first | decide | omega) ?_); (repeat (refine mI_o (by first | decide | omega) ?_)); first | exact mI_s | assumption | exact q1 _ (by omega) | exact q2 _ (by omega) | exact q3 _ (by omega) | exact q4 _ (by omega) | exact q5 _ (by omega) | exact vh _ (by omega) | exact (vr _ (by omega)).1 | exact (vr _ (by omega)).2 | exact vw _ (by omega) | exact vf _ (by omega) (by omega)) | rfl) ?_
        refine G_CV (pc := 29) f_242_29 rfl rfl (by decide) rfl rfl (by first | assumption | exact hK.1 _ _ rfl) (by decide) ⟨Nat.le_of_ble_eq_true rfl, Nat.le_of_ble_eq_true rfl⟩ ?_
        refine CG.go (m_pullD hK hH (by omega) (by omega)) ?_
        refine G_S (pc := 32) f_242_32 rfl rfl rfl ?_
        first | refine G_addN (pc := 36) f_242_36 ?_ | refine G_addZ (pc := 36) f_242_36 (by first | rfl | exact nI_zI _) (by first | rfl | exact nI_zI _) ?_ | refine G_S (pc := 36) f_242_36 rfl rfl rfl ?_
        refine G_S (pc := 37) f_242_37 rfl rfl rfl ?_
        first | refine G_inc1 (pc := 38) f_242_38 rfl ?_ | refine G_S (pc := 38) f_242_38 rfl rfl rfl ?_
        refine G_S (pc := 41) f_242_41 rfl rfl rfl ?_
        have e := ih (by omega)
        first
          | (rw [ptN, if_pos b2] at e; exact e)
          | (rw [ptN, if_neg b2] at e; exact e)
  refine CG_in (mL := 3) (hl := false) (lv := [some (.ref 98), none, none]) (ll := []) rfl rfl rfl ?_
  refine G_ic (v := nI 0) (pc := 0) f_242_0 (by decide) ?_
  refine G_S (pc := 1) f_242_1 rfl rfl rfl ?_
  refine G_ic (v := nI 0) (pc := 2) f_242_2 (by decide) ?_
  refine G_S (pc := 3) f_242_3 rfl rfl rfl ?_
  exact loop 0 (Nat.zero_le _)
theorem n_back (W : TM M l D k S b) : CG C 244 [.ref 98] M (fun w M' => w = some (.int (b2i (S 0 ≠ 0))) ∧ Fm TO TFs M M' ∧ TM M' l D k (if S 0 = 0 then S else bkS S) b) := by
  have hO := W.2.2.2.2.2
  have hK := W.1.1
  have hH := W.1.2
  obtain ⟨⟨a0, a1, a2, a3⟩, hl8, hD, ao⟩ := W.1.2
  have hn0 : _ ≤ 8 := hD.1
  have hn1 : _ ≤ 6 := hD.2.1.2
  have hn2 : _ ≤ 8 := hD.2.2.1
  obtain ⟨⟨s0, s1, s2, s3⟩, q1, q2, q3, hO⟩ := W.2
  obtain ⟨o0, o1, o2, o3, o4, o5, o6⟩ := hO
  refine CG_in (mL := 1) (hl := false) (lv := [some (.ref 98)]) (ll := []) rfl rfl rfl ?_
  refine G_S (pc := 0) f_244_0 rfl rfl rfl ?_
  refine G_gIv (pc := 1) f_244_1 (by decide) rfl (by decide) (by first | assumption | exact hK.1 _ _ rfl) (s0) ?_
  first | refine G_bNe (pc := 4) f_244_4 rfl (fun b1 => ?_) (fun b1 => ?_) | refine G_zneZ (pc := 4) f_244_4 rfl (by first | exact nI_toInt (by omega) | exact zI_toInt (by omega) (by omega) | rfl) (fun b1 => ?_) (fun b1 => ?_)
  · refine G_S (pc := 9) f_244_9 rfl rfl rfl ?_
    refine G_ic (v := nI 0) (pc := 10) f_244_10 (by decide) ?_
    refine G_pI (pc := 11) f_244_11 rfl (by first | assumption | exact hK.1 _ _ rfl) ?_
    refine G_ic (v := nI 1) (pc := 14) f_244_14 (by decide) ?_
    refine G_rz (pc := 15) f_244_15 (by first | exact Or.inl rfl | exact Or.inr rfl | exact b2i_01 _ | assumption) ?_
    first
      | (have hz : S 0 = 0 := by omega
         rw [if_pos hz, b2i_0 (by omega)]
         exact ⟨rfl, Fm.rf, W⟩)
      | (have hz : ¬ S 0 = 0 := by omega
         have hF3 : Fm [] TFs M _ := Fm.upf (k := 31) (x := nI 0) (by decide)
         rw [if_neg hz, b2i_1 hz]
         exact ⟨rfl, hF3.sub (by decide) (fun _ q => q), W.fd hF3 ⟨(by (try dsimp only); exact up2_s), (by (try dsimp only); exact up2_o (by omega) s1), (by (try dsimp only); exact up2_o (by omega) s2), (by (try dsimp only); exact up2_o (by omega) s3)⟩ (fun j hj => up1_o (by omega) rfl) hO.bk⟩)
  · refine G_ic (v := nI 0) (pc := 7) f_244_7 (by decide) ?_
    refine G_rz (pc := 8) f_244_8 (by first | exact Or.inl rfl | exact Or.inr rfl | exact b2i_01 _ | assumption) ?_
    first
      | (have hz : S 0 = 0 := by omega
         rw [if_pos hz, b2i_0 (by omega)]
         exact ⟨rfl, Fm.rf, W⟩)
      | (have hz : ¬ S 0 = 0 := by omega
         have hF3 : Fm [] TFs M _ := Fm.upf (k := 31) (x := nI 0) (by decide)
         rw [if_neg hz, b2i_1 hz]
         exact ⟨rfl, hF3.sub (by decide) (fun _ q => q), W.fd hF3 ⟨(by (try dsimp only); exact up2_s), (by (try dsimp only); exact up2_o (by omega) s1), (by (try dsimp only); exact up2_o (by omega) s2), (by (try dsimp only); exact up2_o (by omega) s3)⟩ (fun j hj => up1_o (by omega) rfl) hO.bk⟩)
theorem n_goes (W : TM M l D k S b) (hk : k ≤ 1000000) : CG C 243 [.ref 98] M (fun w M' => w = some (.int (b2i (S 0 < (D 0 : Int)))) ∧ Fm TO TFs M M' ∧ TM M' l D (k + 1) (goF D S b).1 (goF D S b).2) := by
  have hO := W.2.2.2.2.2
  have hbb := hO.2.2.2.2.2.1
  have ab : ∀ r, abd (clS S) r = abd S r := fun r => by
    unfold abd
    rw [show clS S (20 + r) = S (20 + r) from up1_o (by omega) (up1_o (by omega) rfl)]
  have loop : ∀ i, i ≤ D 2 → ∀ M1, Fm TO TFs M M1 → TM M1 l D (k + 1) (clS S) (mx i (wrT D S b) b) → G C 243 (86, [some (.ref 98), some (.int (nI i))], [], [], M1) (fun w M' => w = some (.int (nI 1)) ∧ Fm TO TFs M M' ∧ TM M' l D (k + 1) (clS S) (wrT D S b)) := by
    refine upto (fun i hi ih M1 hF W1 => ?_)
    have hK := W1.1.1
    have hH := W1.1.2
    obtain ⟨⟨a0, a1, a2, a3⟩, hl8, hD, ao⟩ := W1.1.2
    have hn0 : _ ≤ 8 := hD.1
    have hn1 : _ ≤ 6 := hD.2.1.2
    have hn2 : _ ≤ 8 := hD.2.2.1
    obtain ⟨⟨s0, s1, s2, s3⟩, q1, q2, q3, hO⟩ := W1.2
    obtain ⟨o0, o1, o2, o3, o4, o5, o6⟩ := hO
    have hbi : i < D 2 → b i ≤ 99 := fun q => (hbb i q).2
    have hwi : i < D 2 → D (27 + D (11 + i)) ≤ 9 := fun q => hD.2.2.2.2.2.2.1 _ (by have := hD.2.2.2.2.1 i (by omega); omega)
    have q4 : i < D 2 → M1.2.1 110 i = nI (b i) := fun q => by rw [q1 i q, mx, if_neg (by omega)]
    have nxt : ∀ v : Int32, i < D 2 → v = nI (wrT D S b i) → G C 243 (86, [some (.ref 98), some (.int (nI (i + 1)))], [], [], (M1.1, up2 M1.2.1 110 i v, M1.2.2.1, M1.2.2.2)) (fun w M' => w = some (.int (nI 1)) ∧ Fm TO TFs M M' ∧ TM M' l D (k + 1) (clS S) (wrT D S b)) := by
      intro v hi2 hv
      subst hv
      have hF3 : Fm [110] [] M1 (M1.1, up2 M1.2.1 110 i (nI (wrT D S b i)), M1.2.2.1, M1.2.2.2) := Fm.up (i := 110) (k := i) (x := nI (wrT D S b i)) (by decide) (by decide)
      refine ih hi2 _ (hF.tr (hF3.sub (by decide) (by decide))) (W1.oz hF3 (fun r hr => ?_) (fun r hr => ?_))
      · by_cases q : r = i
        · subst q
          rw [mx, if_pos (by omega)]
          exact (by (try dsimp only); exact up2_s)
        · have e : mx (i + 1) (wrT D S b) b r = mx i (wrT D S b) b r := by
            unfold mx
            by_cases q2 : r < i
            · rw [if_pos q2, if_pos (by omega)]
            · rw [if_neg q2, if_neg (by omega)]
          rw [e]
          exact (by (try dsimp only); exact up2_o (by omega) (q1 r hr))
      · have := (hbb r hr).2
        unfold mx wrT
        split
        · split <;> omega
        · omega
    refine G_S (pc := 86) f_243_86 rfl rfl rfl ?_
    refine G_S (pc := 87) f_243_87 rfl rfl rfl ?_
    refine G_gIv (pc := 88) f_243_88 (by decide) rfl (by decide) (by first | assumption | exact hK.1 _ _ rfl) (by first | assumption | exact mI_s | ((refine mI_o (by first | decide | omega) ?_); (repeat (refine mI_o (by first | decide | omega) ?_)); first | exact mI_s | assumption) | rfl) ?_
    refine G_jgeZ (pc := 91) f_243_91 rfl (by first | exact nI_toInt (by omega) | exact zI_toInt (by omega) (by omega) | rfl) (by first | exact nI_toInt (by omega) | exact zI_toInt (by omega) (by omega) | rfl) (fun b4 => ?_) (fun b4 => ?_)
    · refine G_ic (v := nI 1) (pc := 139) f_243_139 (by decide) ?_
      refine G_rz (pc := 140) f_243_140 (by first | exact Or.inl rfl | exact Or.inr rfl | exact b2i_01 _ | assumption) ?_
      refine ⟨rfl, hF, W1.oz Fm.rf (fun r hr => ?_) (wrT_le (fun r hr => (hbb r hr).2))⟩
      rw [q1 r hr, mx, if_pos (by omega)]
    · have hbi := hbi (by omega)
      have hwi := hwi (by omega)
      have q4 := q4 (by omega)
      refine G_S (pc := 94) f_243_94 rfl rfl rfl ?_
      refine G_gR (pc := 95) f_243_95 (by decide) rfl (by first | assumption | exact hK.1 _ _ rfl) (by first | assumption | exact hK.2 _ _ _ rfl | (try dsimp only) <;> (repeat (first | exact up2_s | refine up2_o (by first | decide | omega) ?_)) <;> first | assumption | exact hK.2 _ _ _ rfl) ?_
      refine G_S (pc := 98) f_243_98 rfl rfl rfl ?_
      refine G_S (pc := 99) f_243_99 rfl rfl rfl ?_
      refine G_S (pc := 100) f_243_100 rfl rfl rfl ?_
      refine G_CV (pc := 101) f_243_101 rfl rfl (by decide) rfl rfl (by first | assumption | exact hK.1 _ _ rfl) (by decide) ⟨Nat.le_of_ble_eq_true rfl, Nat.le_of_ble_eq_true rfl⟩ ?_
      refine CG.go (n_isAboard W1 (by omega)) ?_
      first | refine G_bEq (pc := 104) f_243_104 rfl (fun b5 => ?_) (fun b5 => ?_) | refine G_zeqZ (pc := 104) f_243_104 rfl (by first | exact nI_toInt (by omega) | exact zI_toInt (by omega) (by omega) | rfl) (fun b5 => ?_) (fun b5 => ?_)
      · refine G_S (pc := 126) f_243_126 rfl rfl rfl ?_
        refine G_gR (pc := 127) f_243_127 (by decide) rfl (by first | assumption | exact hK.1 _ _ rfl) (by first | assumption | exact hK.2 _ _ _ rfl | (try dsimp only) <;> (repeat (first | exact up2_s | refine up2_o (by first | decide | omega) ?_)) <;> first | assumption | exact hK.2 _ _ _ rfl) ?_
        refine G_S (pc := 130) f_243_130 rfl rfl rfl ?_
        refine G_iaN (pc := 131) f_243_131 (by first | assumption | exact hK.1 _ _ rfl) (by omega) (by omega) (by first | exact q4 | rfl) ?_
        refine G_isN (pc := 132) f_243_132 (by first | assumption | exact hK.1 _ _ rfl) (by omega) (by omega) ?_
        first | refine G_inc1 (pc := 133) f_243_133 rfl ?_ | refine G_S (pc := 133) f_243_133 rfl rfl rfl ?_
        refine G_S (pc := 136) f_243_136 rfl rfl rfl ?_
        first
          | (refine nxt _ (by omega) ?_
             rw [ab] at b5
             rw [wrT, if_neg b5])
          | (refine nxt _ (by omega) ?_
             rw [ab] at b5
             rw [wrT, if_pos b5]
             exact g_monus (by omega) (by omega))
      · refine G_ic (v := nI 0) (pc := 107) f_243_107 (by decide) ?_
        refine G_S (pc := 108) f_243_108 rfl rfl rfl ?_
        refine G_gR (pc := 109) f_243_109 (by decide) rfl (by first | assumption | exact hK.1 _ _ rfl) (by first | assumption | exact hK.2 _ _ _ rfl | (try dsimp only) <;> (repeat (first | exact up2_s | refine up2_o (by first | decide | omega) ?_)) <;> first | assumption | exact hK.2 _ _ _ rfl) ?_
        refine G_S (pc := 112) f_243_112 rfl rfl rfl ?_
        refine G_iaN (pc := 113) f_243_113 (by first | assumption | exact hK.1 _ _ rfl) (by omega) (by omega) (by first | exact q4 | rfl) ?_
        refine G_S (pc := 114) f_243_114 rfl rfl rfl ?_
        refine G_S (pc := 115) f_243_115 rfl rfl rfl ?_
        refine G_CV (pc := 116) f_243_116 rfl rfl (by decide) rfl rfl (by first | assumption | exact hK.1 _ _ rfl) (by decide) ⟨Nat.le_of_ble_eq_true rfl, Nat.le_of_ble_eq_true rfl⟩ ?_
        refine CG.go (m_wearD hK hH (by omega)) ?_
        refine G_S (pc := 119) f_243_119 rfl rfl rfl ?_
        refine G_CS (pc := 120) f_243_120 rfl rfl (by decide) rfl rfl ⟨Nat.le_of_ble_eq_true rfl, Nat.le_of_ble_eq_true rfl⟩ ?_
        refine CG.go (m_greater) ?_
        refine G_S (pc := 123) f_243_123 rfl rfl rfl ?_
        refine G_isN (pc := 132) f_243_132 (by first | assumption | exact hK.1 _ _ rfl) (by omega) (by omega) ?_
        first | refine G_inc1 (pc := 133) f_243_133 rfl ?_ | refine G_S (pc := 133) f_243_133 rfl rfl rfl ?_
        refine G_S (pc := 136) f_243_136 rfl rfl rfl ?_
        first
          | (refine nxt _ (by omega) ?_
             rw [ab] at b5
             rw [wrT, if_neg b5])
          | (refine nxt _ (by omega) ?_
             rw [ab] at b5
             rw [wrT, if_pos b5]
             exact g_monus (by omega) (by omega))
  have hK := W.1.1
  have hH := W.1.2
  obtain ⟨⟨a0, a1, a2, a3⟩, hl8, hD, ao⟩ := W.1.2
  have hn0 : _ ≤ 8 := hD.1
  have hn1 : _ ≤ 6 := hD.2.1.2
  have hn2 : _ ≤ 8 := hD.2.2.1
  obtain ⟨⟨s0, s1, s2, s3⟩, q1, q2, q3, hO⟩ := W.2
  obtain ⟨o0, o1, o2, o3, o4, o5, o6⟩ := hO
  have hpt := ptN_le (D := D) (S := S) (b := b) (D 2) (fun r hr => (o5 r hr).2)
  obtain ⟨c, hc⟩ : ∃ c : Nat, S 0 = (c : Int) := ⟨(S 0).toNat, by omega⟩
  have s0' : M.2.1 98 31 = nI c := by rw [s0, hc, nI_zI]
  have hh9 : c < D 0 → D (3 + c) ≤ 99 := fun q => hD.2.2.2.1 c (by omega)
  have hcx : (S 0).toNat = c := by omega
  have es1 : (zI (S 1)).toInt = S 1 := zI_toInt (by omega) (by omega)
  refine CG_in (mL := 2) (hl := false) (lv := [some (.ref 98), none]) (ll := []) rfl rfl rfl ?_
  refine G_S (pc := 0) f_243_0 rfl rfl rfl ?_
  refine G_gIv (pc := 1) f_243_1 (by decide) rfl (by decide) (by first | assumption | exact hK.1 _ _ rfl) (s0') ?_
  refine G_S (pc := 4) f_243_4 rfl rfl rfl ?_
  refine G_gIv (pc := 5) f_243_5 (by decide) rfl (by decide) (by first | assumption | exact hK.1 _ _ rfl) (by first | assumption | exact mI_s | ((refine mI_o (by first | decide | omega) ?_); (repeat (refine mI_o (by first | decide | omega) ?_)); first | exact mI_s | assumption) | rfl) ?_
  refine G_jltZ (pc := 8) f_243_8 rfl (by first | exact nI_toInt (by omega) | exact zI_toInt (by omega) (by omega) | rfl) (by first | exact nI_toInt (by omega) | exact zI_toInt (by omega) (by omega) | rfl) (fun b1 => ?_) (fun b1 => ?_)
  · have hh9 := hh9 (by omega)
    refine G_S (pc := 13) f_243_13 rfl rfl rfl ?_
    refine G_CV (pc := 14) f_243_14 rfl rfl (by decide) rfl rfl (by first | assumption | exact hK.1 _ _ rfl) (by decide) ⟨Nat.le_of_ble_eq_true rfl, Nat.le_of_ble_eq_true rfl⟩ ?_
    refine CG.go (n_pull W) ?_
    refine G_S (pc := 17) f_243_17 rfl rfl rfl ?_
    refine G_ic (v := nI 3) (pc := 18) f_243_18 (by decide) ?_
    refine G_S (pc := 19) f_243_19 rfl rfl rfl ?_
    refine G_gIv (pc := 20) f_243_20 (by decide) rfl (by decide) (by first | assumption | exact hK.1 _ _ rfl) (s0') ?_
    first | refine G_addN (pc := 23) f_243_23 ?_ | refine G_addZ (pc := 23) f_243_23 (by first | rfl | exact nI_zI _) (by first | rfl | exact nI_zI _) ?_ | refine G_S (pc := 23) f_243_23 rfl rfl rfl ?_
    refine G_CV (pc := 24) f_243_24 rfl rfl (by decide) rfl rfl (by first | assumption | exact hK.1 _ _ rfl) (by decide) ⟨Nat.le_of_ble_eq_true rfl, Nat.le_of_ble_eq_true rfl⟩ ?_
    refine CG.go (m_ofD hK hH (by omega)) ?_
    refine G_jgeZ (pc := 27) f_243_27 rfl (by first | exact nI_toInt (by omega) | exact zI_toInt (by omega) (by omega) | rfl) (by first | exact nI_toInt (by omega) | exact zI_toInt (by omega) (by omega) | rfl) (fun b2 => ?_) (fun b2 => ?_)
    · refine G_S (pc := 64) f_243_64 rfl rfl rfl ?_
      refine G_S (pc := 65) f_243_65 rfl rfl rfl ?_
      refine G_gIv (pc := 66) f_243_66 (by decide) rfl (by decide) (by first | assumption | exact hK.1 _ _ rfl) (s0) ?_
      refine G_ic (v := nI 1) (pc := 69) f_243_69 (by decide) ?_
      first | refine G_addN (pc := 70) f_243_70 ?_ | refine G_addZ (pc := 70) f_243_70 (by first | rfl | exact nI_zI _) (by first | rfl | exact nI_zI _) ?_ | refine G_S (pc := 70) f_243_70 rfl rfl rfl ?_
      refine G_pI (pc := 71) f_243_71 rfl (by first | assumption | exact hK.1 _ _ rfl) ?_
      refine G_S (pc := 74) f_243_74 rfl rfl rfl ?_
      refine G_S (pc := 75) f_243_75 rfl rfl rfl ?_
      refine G_gIv (pc := 76) f_243_76 (by decide) rfl (by decide) (by first | assumption | exact hK.1 _ _ rfl) ((mI_o (by omega) s3)) ?_
      refine G_ic (v := nI 1) (pc := 79) f_243_79 (by decide) ?_
      first | refine G_addN (pc := 80) f_243_80 ?_ | refine G_addZ (pc := 80) f_243_80 (by first | rfl | exact nI_zI _) (by first | rfl | exact nI_zI _) ?_ | refine G_S (pc := 80) f_243_80 rfl rfl rfl ?_
      refine G_pI (pc := 81) f_243_81 rfl (by first | assumption | exact hK.1 _ _ rfl) ?_
      refine G_ic (v := nI 0) (pc := 84) f_243_84 (by decide) ?_
      refine G_S (pc := 85) f_243_85 rfl rfl rfl ?_
      have hF3 : Fm [] TFs M _ := (Fm.upf (k := 31) (x := zI (S 0 + ((1 : Nat) : Int))) (by decide)).tr (Fm.upf (k := 34) (x := zI (S 3 + ((1 : Nat) : Int))) (by decide))
      have e0 : zI (S 0 + ((1 : Nat) : Int)) = zI (clS S 0) := by
        rw [show clS S 0 = S 0 + 1 from up1_o (by decide) up1_s]
        rfl
      have e3 : zI (S 3 + ((1 : Nat) : Int)) = zI (clS S 3) := by
        rw [show clS S 3 = S 3 + 1 from up1_s]
        rfl
      have e1 : clS S 1 = S 1 := up1_o (by decide) (up1_o (by decide) rfl)
      have e2 : clS S 2 = S 2 := up1_o (by decide) (up1_o (by decide) rfl)
      have em : mx 0 (wrT D S b) b = b := funext fun r => if_neg (by omega)
      have e : goF D S b = (clS S, wrT D S b) := by
        unfold goF
        rw [if_pos (by omega), hcx, if_pos (by omega)]
      have W2 : TM _ l D (k + 1) (clS S) b := W.fd hF3 ⟨Eq.trans ((by (try dsimp only); exact up2_o (by omega) (by (try dsimp only); exact up2_s))) e0, by rw [e1]; exact (by (try dsimp only); exact up2_o (by omega) (by (try dsimp only); exact up2_o (by omega) s1)), by rw [e2]; exact (by (try dsimp only); exact up2_o (by omega) (by (try dsimp only); exact up2_o (by omega) s2)), Eq.trans ((by (try dsimp only); exact up2_s)) e3⟩ (fun j hj => up1_o (by omega) (up1_o (by omega) rfl)) (hO.cl (by omega))
      rw [e, b2i_1 (by omega)]
      exact loop 0 (Nat.zero_le _) _ (hF3.sub (by decide) (fun _ q => q)) (by rw [em]; exact W2)
    · refine G_S (pc := 30) f_243_30 rfl rfl rfl ?_
      refine G_S (pc := 31) f_243_31 rfl rfl rfl ?_
      refine G_gIv (pc := 32) f_243_32 (by decide) rfl (by decide) (by first | assumption | exact hK.1 _ _ rfl) (s1) ?_
      first | refine G_bNe (pc := 35) f_243_35 rfl (fun b3 => ?_) (fun b3 => ?_) | refine G_zneZ (pc := 35) f_243_35 rfl (by first | exact nI_toInt (by omega) | exact zI_toInt (by omega) (by omega) | rfl) (fun b3 => ?_) (fun b3 => ?_)
      · refine G_S (pc := 45) f_243_45 rfl rfl rfl ?_
        refine G_gIv (pc := 46) f_243_46 (by decide) rfl (by decide) (by first | assumption | exact hK.1 _ _ rfl) (s2) ?_
        refine G_pI (pc := 49) f_243_49 rfl (by first | assumption | exact hK.1 _ _ rfl) ?_
        refine G_S (pc := 52) f_243_52 rfl rfl rfl ?_
        refine G_S (pc := 53) f_243_53 rfl rfl rfl ?_
        refine G_gIv (pc := 54) f_243_54 (by decide) rfl (by decide) (by first | assumption | exact hK.1 _ _ rfl) ((by first | exact mI_o (by omega) s1 | exact s1)) ?_
        refine G_ic (v := nI 1) (pc := 57) f_243_57 (by decide) ?_
        first | refine G_addN (pc := 58) f_243_58 ?_ | refine G_addZ (pc := 58) f_243_58 (by first | rfl | exact nI_zI _) (by first | rfl | exact nI_zI _) ?_ | refine G_S (pc := 58) f_243_58 rfl rfl rfl ?_
        refine G_pI (pc := 59) f_243_59 rfl (by first | assumption | exact hK.1 _ _ rfl) ?_
        refine G_ic (v := nI 1) (pc := 62) f_243_62 (by decide) ?_
        refine G_rz (pc := 63) f_243_63 (by first | exact Or.inl rfl | exact Or.inr rfl | exact b2i_01 _ | assumption) ?_
        first
          | (have e : goF D S b = (S, b) := if_neg (by omega)
             rw [e, b2i_0 (by omega)]
             exact ⟨rfl, Fm.rf, W.kk (by omega)⟩)
          | (have hs2 : ¬ S 2 = -1 := by omega
             have e : goF D S b = (slS S, b) := by
               unfold goF
               rw [if_pos (by omega), hcx, if_neg (by omega)]
             have es : slS S = up1 S 1 (S 1 + 1) := if_neg hs2
             have hO2 := hO.sl hn0
             rw [es] at hO2
             have e1 : zI (S 1 + ((1 : Nat) : Int)) = zI (S 1 + 1) := rfl
             have hF3 : Fm [] TFs M _ := (Fm.upf (k := 33) (x := zI (S 2)) (by decide)).tr (Fm.upf (k := 32) (x := zI (S 1 + ((1 : Nat) : Int))) (by decide))
             rw [e, b2i_1 (by omega), es]
             exact ⟨rfl, hF3.sub (by decide) (fun _ q => q), W.fd hF3 ⟨(by (try dsimp only); exact up2_o (by omega) (by (try dsimp only); exact up2_o (by omega) s0)), Eq.trans ((by (try dsimp only); exact up2_s)) e1, (by (try dsimp only); exact up2_o (by omega) (by (try dsimp only); exact up2_s)), (by (try dsimp only); exact up2_o (by omega) (by (try dsimp only); exact up2_o (by omega) s3))⟩ (fun j hj => up1_o (by omega) rfl) hO2⟩)
          | (have hs2 : S 2 = -1 := by omega
             have e : goF D S b = (slS S, b) := by
               unfold goF
               rw [if_pos (by omega), hcx, if_neg (by omega)]
             have es : slS S = up1 (up1 S 1 (S 1 + 1)) 2 (S 0) := if_pos hs2
             have hO2 := hO.sl hn0
             rw [es] at hO2
             have e1 : zI (S 1 + ((1 : Nat) : Int)) = zI (S 1 + 1) := rfl
             have hF3 : Fm [] TFs M _ := (Fm.upf (k := 33) (x := nI c) (by decide)).tr (Fm.upf (k := 32) (x := zI (S 1 + ((1 : Nat) : Int))) (by decide))
             rw [e, b2i_1 (by omega), es]
             refine ⟨rfl, hF3.sub (by decide) (fun _ q => q), W.fd hF3 ⟨(by (try dsimp only); exact up2_o (by omega) (by (try dsimp only); exact up2_o (by omega) s0)), Eq.trans ((by (try dsimp only); exact up2_s)) e1, ?_, (by (try dsimp only); exact up2_o (by omega) (by (try dsimp only); exact up2_o (by omega) s3))⟩ (fun j hj => up1_o (by omega) (up1_o (by omega) rfl)) hO2⟩
             dsimp only
             rw [up1_s, hc, ← nI_zI]
             exact (by (try dsimp only); exact up2_o (by omega) (by (try dsimp only); exact up2_s)))
      · refine G_S (pc := 38) f_243_38 rfl rfl rfl ?_
        refine G_gIv (pc := 39) f_243_39 (by decide) rfl (by decide) (by first | assumption | exact hK.1 _ _ rfl) (s0') ?_
        refine G_S (pc := 42) f_243_42 rfl rfl rfl ?_
        refine G_pI (pc := 49) f_243_49 rfl (by first | assumption | exact hK.1 _ _ rfl) ?_
        refine G_S (pc := 52) f_243_52 rfl rfl rfl ?_
        refine G_S (pc := 53) f_243_53 rfl rfl rfl ?_
        refine G_gIv (pc := 54) f_243_54 (by decide) rfl (by decide) (by first | assumption | exact hK.1 _ _ rfl) ((by first | exact mI_o (by omega) s1 | exact s1)) ?_
        refine G_ic (v := nI 1) (pc := 57) f_243_57 (by decide) ?_
        first | refine G_addN (pc := 58) f_243_58 ?_ | refine G_addZ (pc := 58) f_243_58 (by first | rfl | exact nI_zI _) (by first | rfl | exact nI_zI _) ?_ | refine G_S (pc := 58) f_243_58 rfl rfl rfl ?_
        refine G_pI (pc := 59) f_243_59 rfl (by first | assumption | exact hK.1 _ _ rfl) ?_
        refine G_ic (v := nI 1) (pc := 62) f_243_62 (by decide) ?_
        refine G_rz (pc := 63) f_243_63 (by first | exact Or.inl rfl | exact Or.inr rfl | exact b2i_01 _ | assumption) ?_
        first
          | (have e : goF D S b = (S, b) := if_neg (by omega)
             rw [e, b2i_0 (by omega)]
             exact ⟨rfl, Fm.rf, W.kk (by omega)⟩)
          | (have hs2 : ¬ S 2 = -1 := by omega
             have e : goF D S b = (slS S, b) := by
               unfold goF
               rw [if_pos (by omega), hcx, if_neg (by omega)]
             have es : slS S = up1 S 1 (S 1 + 1) := if_neg hs2
             have hO2 := hO.sl hn0
             rw [es] at hO2
             have e1 : zI (S 1 + ((1 : Nat) : Int)) = zI (S 1 + 1) := rfl
             have hF3 : Fm [] TFs M _ := (Fm.upf (k := 33) (x := zI (S 2)) (by decide)).tr (Fm.upf (k := 32) (x := zI (S 1 + ((1 : Nat) : Int))) (by decide))
             rw [e, b2i_1 (by omega), es]
             exact ⟨rfl, hF3.sub (by decide) (fun _ q => q), W.fd hF3 ⟨(by (try dsimp only); exact up2_o (by omega) (by (try dsimp only); exact up2_o (by omega) s0)), Eq.trans ((by (try dsimp only); exact up2_s)) e1, (by (try dsimp only); exact up2_o (by omega) (by (try dsimp only); exact up2_s)), (by (try dsimp only); exact up2_o (by omega) (by (try dsimp only); exact up2_o (by omega) s3))⟩ (fun j hj => up1_o (by omega) rfl) hO2⟩)
          | (have hs2 : S 2 = -1 := by omega
             have e : goF D S b = (slS S, b) := by
               unfold goF
               rw [if_pos (by omega), hcx, if_neg (by omega)]
             have es : slS S = up1 (up1 S 1 (S 1 + 1)) 2 (S 0) := if_pos hs2
             have hO2 := hO.sl hn0
             rw [es] at hO2
             have e1 : zI (S 1 + ((1 : Nat) : Int)) = zI (S 1 + 1) := rfl
             have hF3 : Fm [] TFs M _ := (Fm.upf (k := 33) (x := nI c) (by decide)).tr (Fm.upf (k := 32) (x := zI (S 1 + ((1 : Nat) : Int))) (by decide))
             rw [e, b2i_1 (by omega), es]
             refine ⟨rfl, hF3.sub (by decide) (fun _ q => q), W.fd hF3 ⟨(by (try dsimp only); exact up2_o (by omega) (by (try dsimp only); exact up2_o (by omega) s0)), Eq.trans ((by (try dsimp only); exact up2_s)) e1, ?_, (by (try dsimp only); exact up2_o (by omega) (by (try dsimp only); exact up2_o (by omega) s3))⟩ (fun j hj => up1_o (by omega) (up1_o (by omega) rfl)) hO2⟩
             dsimp only
             rw [up1_s, hc, ← nI_zI]
             exact (by (try dsimp only); exact up2_o (by omega) (by (try dsimp only); exact up2_s)))
  · refine G_ic (v := nI 0) (pc := 11) f_243_11 (by decide) ?_
    refine G_rz (pc := 12) f_243_12 (by first | exact Or.inl rfl | exact Or.inr rfl | exact b2i_01 _ | assumption) ?_
    first
      | (have e : goF D S b = (S, b) := if_neg (by omega)
         rw [e, b2i_0 (by omega)]
         exact ⟨rfl, Fm.rf, W.kk (by omega)⟩)
      | (have hs2 : ¬ S 2 = -1 := by omega
         have e : goF D S b = (slS S, b) := by
           unfold goF
           rw [if_pos (by omega), hcx, if_neg (by omega)]
         have es : slS S = up1 S 1 (S 1 + 1) := if_neg hs2
         have hO2 := hO.sl hn0
         rw [es] at hO2
         have e1 : zI (S 1 + ((1 : Nat) : Int)) = zI (S 1 + 1) := rfl
         have hF3 : Fm [] TFs M _ := (Fm.upf (k := 33) (x := zI (S 2)) (by decide)).tr (Fm.upf (k := 32) (x := zI (S 1 + ((1 : Nat) : Int))) (by decide))
         rw [e, b2i_1 (by omega), es]
         exact ⟨rfl, hF3.sub (by decide) (fun _ q => q), W.fd hF3 ⟨(by (try dsimp only); exact up2_o (by omega) (by (try dsimp only); exact up2_o (by omega) s0)), Eq.trans ((by (try dsimp only); exact up2_s)) e1, (by (try dsimp only); exact up2_o (by omega) (by (try dsimp only); exact up2_s)), (by (try dsimp only); exact up2_o (by omega) (by (try dsimp only); exact up2_o (by omega) s3))⟩ (fun j hj => up1_o (by omega) rfl) hO2⟩)
      | (have hs2 : S 2 = -1 := by omega
         have e : goF D S b = (slS S, b) := by
           unfold goF
           rw [if_pos (by omega), hcx, if_neg (by omega)]
         have es : slS S = up1 (up1 S 1 (S 1 + 1)) 2 (S 0) := if_pos hs2
         have hO2 := hO.sl hn0
         rw [es] at hO2
         have e1 : zI (S 1 + ((1 : Nat) : Int)) = zI (S 1 + 1) := rfl
         have hF3 : Fm [] TFs M _ := (Fm.upf (k := 33) (x := nI c) (by decide)).tr (Fm.upf (k := 32) (x := zI (S 1 + ((1 : Nat) : Int))) (by decide))
         rw [e, b2i_1 (by omega), es]
         refine ⟨rfl, hF3.sub (by decide) (fun _ q => q), W.fd hF3 ⟨(by (try dsimp only); exact up2_o (by omega) (by (try dsimp only); exact up2_o (by omega) s0)), Eq.trans ((by (try dsimp only); exact up2_s)) e1, ?_, (by (try dsimp only); exact up2_o (by omega) (by (try dsimp only); exact up2_o (by omega) s3))⟩ (fun j hj => up1_o (by omega) (up1_o (by omega) rfl)) hO2⟩
         dsimp only
         rw [up1_s, hc, ← nI_zI]
         exact (by (try dsimp only); exact up2_o (by omega) (by (try dsimp only); exact up2_s)))
end MTS
