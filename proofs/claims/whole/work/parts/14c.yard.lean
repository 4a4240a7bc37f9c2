/-! the class: worst hills, against, halves; what is asked of a yard -/
theorem band {a b : Bool} : (a && b) = true ↔ a = true ∧ b = true := by cases a <;> cases b <;> decide
theorem c_fill {M : Mm} {C : Ct} {a n : Nat} {x : Int32} (hT : M.1[a]? = some (50, n)) (hn : n < 2 ^ 31) : CG C 185 [.ref a, .int x] M (fun w M' => w = none ∧ M'.1 = M.1 ∧ M'.2.2.1 = M.2.2.1 ∧ M'.2.2.2 = M.2.2.2 ∧ (∀ i, i ≠ a → M'.2.1 i = M.2.1 i) ∧ ∀ k, k < n → M'.2.1 a k = x) := by
  have loop : ∀ i, i ≤ n → ∀ M1 : Mm, M1.1 = M.1 → M1.2.2.1 = M.2.2.1 → M1.2.2.2 = M.2.2.2 → (∀ i, i ≠ a → M1.2.1 i = M.2.1 i) → (∀ k, k < i → M1.2.1 a k = x) → G C 185 (2, [some (.ref a), some (.int x), some (.int (nI i))], [], [], M1) (fun w M' => w = none ∧ M'.1 = M.1 ∧ M'.2.2.1 = M.2.2.1 ∧ M'.2.2.2 = M.2.2.2 ∧ (∀ i, i ≠ a → M'.2.1 i = M.2.1 i) ∧ ∀ k, k < n → M'.2.1 a k = x) := by
    refine upto (fun i hi ih M1 e1 e2 e3 e4 e5 => ?_)
    have hT1 : M1.1[a]? = some (50, n) := by rw [e1]; exact hT
    refine G_S (pc := 2) f_185_2 rfl rfl rfl ?_
    refine G_S (pc := 3) f_185_3 rfl rfl rfl ?_
    refine G_len (pc := 4) f_185_4 (by first | assumption | exact hK.1 _ _ rfl) (by decide) ?_
    refine G_jgeZ (pc := 5) f_185_5 rfl (by first | exact nI_toInt (by omega) | exact zI_toInt (by omega) (by omega) | rfl) (by first | exact nI_toInt (by omega) | exact zI_toInt (by omega) (by omega) | rfl) (fun b1 => ?_) (fun b1 => ?_)
    · refine G_rv (pc := 18) f_185_18 ?_
      exact ⟨rfl, e1, e2, e3, e4, fun k hk => e5 k (by omega)⟩
    · refine G_S (pc := 8) f_185_8 rfl rfl rfl ?_
      refine G_S (pc := 9) f_185_9 rfl rfl rfl ?_
      refine G_S (pc := 10) f_185_10 rfl rfl rfl ?_
      refine G_isN (pc := 11) f_185_11 (by first | assumption | exact hK.1 _ _ rfl) (by omega) (by omega) ?_
      first | refine G_inc1 (pc := 12) f_185_12 rfl ?_ | refine G_S (pc := 12) f_185_12 rfl rfl rfl ?_
      refine G_S (pc := 15) f_185_15 rfl rfl rfl ?_
      refine ih (by omega) _ e1 e2 e3 (fun j hj => ?_) (fun k hk => ?_)
      · dsimp only
        rw [up2_ne hj]
        exact e4 j hj
      · by_cases q : k = i
        · subst q
          exact (by dsimp only; exact up2_s)
        · exact (by dsimp only; exact up2_o (by omega) (e5 k (by omega)))
  refine CG_in (mL := 3) (hl := false) (lv := [some (.ref a), some (.int x), none]) (ll := []) rfl rfl rfl ?_
  refine G_ic (v := nI 0) (pc := 0) f_185_0 (by decide) ?_
  refine G_S (pc := 1) f_185_1 rfl rfl rfl ?_
  exact loop 0 (Nat.zero_le _) M rfl rfl rfl (fun _ _ => rfl) (fun k hk => absurd hk (by omega))
theorem Fc.fl {M M' : Mm} {a : Nat} (e1 : M'.1 = M.1) (e2 : M'.2.2.1 = M.2.2.1) (e3 : M'.2.2.2 = M.2.2.2) (e4 : ∀ i, i ≠ a → M'.2.1 i = M.2.1 i) : Fc [a] M M' :=
  ⟨e1, fun i k _ => by rw [e3], fun i hi => ⟨e4 i (fun q => hi (by rw [q]; exact List.mem_singleton.mpr rfl)), by rw [e2]⟩⟩
theorem k_climb0 {C : Ct} {M : Mm} {h S : Nat} {D b : Nat → Nat} (W : CW M h D b) (hS : S < 256) : CG C 19 [.ref 82, .int (nI S), .int (nI 0)] M (fun w M' => w = some (.int (nI (cmF D S (D 0) 0 b).1)) ∧ Fc [83] M M' ∧ CW M' h D (cmF D S (D 0) 0 b).2) := k_climb (k := 0) W hS (Nat.zero_le _)
section CZ
variable {C : Ct} {M : Mm} {h S : Nat} {D : Nat → Nat}
theorem seaI {x : Nat} (hx : x < 2 ^ D 2) (hn : 2 ^ D 2 ≤ 256) : (sea D (nI x)).isSome = true ↔ pc8 x ≤ D 1 := by
  have e : isS D (nI x) = some x := by
    unfold isS
    rw [nI_toInt (by omega), if_pos (by omega), Int.toNat_natCast]
  unfold sea
  rw [e]
  dsimp only
  split
  · simp_all
  · simp_all
theorem y_stalled (W : YW M h D) : CG C 140 [.ref 85] M (fun w M' => w = none ∧ Fc [82, 83, 88] M M' ∧ YW M' h D ∧ ∀ k, k < D 0 → M'.2.1 88 k = nI (cntF (stopB D k) (2 ^ D 2))) := by
  have loop : ∀ i, i ≤ 2 ^ D 2 → ∀ M1 a, YW M1 h D → Fc [82, 83, 88] M M1 → (∀ k, k < D 0 → M1.2.1 88 k = nI (cntF (stopB D k) i)) → G C 140 (10, [some (.ref 85), some (.int (nI i)), a], [], [], M1) (fun w M' => w = none ∧ Fc [82, 83, 88] M M' ∧ YW M' h D ∧ ∀ k, k < D 0 → M'.2.1 88 k = nI (cntF (stopB D k) (2 ^ D 2))) := by
    refine upto (fun i hi ih M1 a W1 hF q2 => ?_)
    have W_ := W1.1
    have hK := W_.1
    obtain ⟨⟨t0, t1, t2, t3, t4, t5, t6⟩, r0, r3, r4, r6, r7, r8⟩ := W_.2.1
    obtain ⟨hD, ⟨v0, v1, v2⟩, vh, vr, vw, vf⟩ := W_.2.2.1
    have hs := W_.2.2.2.1
    have hh := W_.2.2.2.2
    have hn0 : _ ≤ 8 := hD.1
    have hn1 : _ ≤ 6 := hD.2.1.2
    have hn2 : _ ≤ 8 := hD.2.2.1
    obtain ⟨ry, va, q1⟩ := W1.2
    have hp := pw_le _ (Nat.lt_succ_of_le hn2)
    have hp1 := Nat.two_pow_pos (D 2)
    have hle := (cmF_le D i (D 0) 0 (layN D 0)).2.1
    have hc : ∀ k, cntF (stopB D k) i ≤ i := fun k => cntF_le i
    refine G_S (pc := 10) f_140_10 rfl rfl rfl ?_
    refine G_S (pc := 11) f_140_11 rfl rfl rfl ?_
    refine G_gIv (pc := 12) f_140_12 (by decide) rfl (by decide) (by first | assumption | exact hK.1 _ _ rfl) (by first | assumption | (try dsimp only) <;> (repeat (first | exact up2_s | refine up2_o (by first | decide | omega) ?_)) <;> first | assumption | rfl) ?_
    refine G_jgtZ (pc := 15) f_140_15 rfl (by first | exact nI_toInt (by omega) | exact zI_toInt (by omega) (by omega) | rfl) (by first | exact nI_toInt (by omega) | exact zI_toInt (by omega) (by omega) | rfl) (fun b1 => ?_) (fun b1 => ?_)
    · refine G_rv (pc := 81) f_140_81 ?_
      rw [show i = 2 ^ D 2 by omega] at q2
      exact ⟨rfl, hF, W1, q2⟩
    · refine G_S (pc := 18) f_140_18 rfl rfl rfl ?_
      refine G_gR (pc := 19) f_140_19 (by decide) rfl (by first | assumption | exact hK.1 _ _ rfl) (by first | assumption | exact hK.2 _ _ _ rfl | (try dsimp only) <;> (repeat (first | exact up2_s | refine up2_o (by first | decide | omega) ?_)) <;> first | assumption | exact hK.2 _ _ _ rfl) ?_
      refine G_S (pc := 22) f_140_22 rfl rfl rfl ?_
      refine G_CV (pc := 23) f_140_23 rfl rfl (by decide) rfl rfl (by first | assumption | exact hK.1 _ _ rfl) (by decide) ⟨Nat.le_of_ble_eq_true rfl, Nat.le_of_ble_eq_true rfl⟩ ?_
      refine CG.go (c_seatsAllN W1.1) ?_
      first | refine G_bEq (pc := 26) f_140_26 rfl (fun b2 => ?_) (fun b2 => ?_) | refine G_zeqZ (pc := 26) f_140_26 rfl (by first | exact nI_toInt (by omega) | exact zI_toInt (by omega) (by omega) | rfl) (fun b2 => ?_) (fun b2 => ?_)
      · first | refine G_inc1 (pc := 75) f_140_75 rfl ?_ | refine G_S (pc := 75) f_140_75 rfl rfl rfl ?_
        refine G_S (pc := 78) f_140_78 rfl rfl rfl ?_
        have e := ih (by omega)
        first
          | (refine e _ _ W1 hF (fun k hk => ?_)
             have hn : ¬ stopB D k i = true := fun q => b2 ((seaI (by omega) hp).mpr (of_decide_eq_true (band.mp q).1))
             rw [cntF, if_neg hn]
             exact q2 k hk)
          | (refine e _ _ Y3 hFz (fun k hk => ?_)
             have hn : ¬ stopB D k i = true := fun q => by have := of_decide_eq_true (band.mp q).2; omega
             rw [cntF, if_neg hn]
             exact q2' k hk)
          | (have hF4 : Fc [88] M3 _ := Fc.up (i := 88) (k := (cmF D i (D 0) 0 (layN D 0)).1) (x := nI (cntF (stopB D (cmF D i (D 0) 0 (layN D 0)).1) i + 1)) (by decide)
             refine e _ _ (Y3.fc hF4 (by decide) (by decide) (by decide)) (hFz.tr (hF4.sub (by decide))) (fun k hk => ?_)
             by_cases q : k = (cmF D i (D 0) 0 (layN D 0)).1
             · rw [cntF, if_pos (show stopB D k i = true by unfold stopB; rw [Bool.and_eq_true, decide_eq_true_eq, decide_eq_true_eq]; exact ⟨hse, q.symm⟩), q]
               exact (by dsimp only; exact up2_s)
             · have hn : ¬ stopB D k i = true := fun q3 => q (of_decide_eq_true (band.mp q3).2).symm
               rw [cntF, if_neg hn]
               exact (by dsimp only; exact up2_o (by omega) (q2' k hk)))
      · refine G_S (pc := 29) f_140_29 rfl rfl rfl ?_
        refine G_gR (pc := 30) f_140_30 (by decide) rfl (by first | assumption | exact hK.1 _ _ rfl) (by first | assumption | exact hK.2 _ _ _ rfl | (try dsimp only) <;> (repeat (first | exact up2_s | refine up2_o (by first | decide | omega) ?_)) <;> first | assumption | exact hK.2 _ _ _ rfl) ?_
        refine G_S (pc := 33) f_140_33 rfl rfl rfl ?_
        refine G_gR (pc := 34) f_140_34 (by decide) rfl (by first | assumption | exact hK.1 _ _ rfl) (by first | assumption | exact hK.2 _ _ _ rfl | (try dsimp only) <;> (repeat (first | exact up2_s | refine up2_o (by first | decide | omega) ?_)) <;> first | assumption | exact hK.2 _ _ _ rfl) ?_
        refine G_CV (pc := 37) f_140_37 rfl rfl (by decide) rfl rfl (by first | assumption | exact hK.1 _ _ rfl) (by decide) ⟨Nat.le_of_ble_eq_true rfl, Nat.le_of_ble_eq_true rfl⟩ ?_
        refine CG.mono (k_begin W1.1) ?_
        rintro _ M2 ⟨rfl, hF2, W2⟩
        have Y2 := W1.fc hF2 o8283 (by decide) (by decide)
        have W_ := Y2.1
        have hK := W_.1
        obtain ⟨⟨t0, t1, t2, t3, t4, t5, t6⟩, r0, r3, r4, r6, r7, r8⟩ := W_.2.1
        obtain ⟨hD, ⟨v0, v1, v2⟩, vh, vr, vw, vf⟩ := W_.2.2.1
        have hs := W_.2.2.2.1
        have hh := W_.2.2.2.2
        have hn0 : _ ≤ 8 := hD.1
        have hn1 : _ ≤ 6 := hD.2.1.2
        have hn2 : _ ≤ 8 := hD.2.2.1
        obtain ⟨ry, va, q1⟩ := Y2.2
        have hp := pw_le _ (Nat.lt_succ_of_le hn2)
        have hp1 := Nat.two_pow_pos (D 2)
        refine G_S (pc := 40) f_140_40 rfl rfl rfl ?_
        refine G_gR (pc := 41) f_140_41 (by decide) rfl (by first | assumption | exact hK.1 _ _ rfl) (by first | assumption | exact hK.2 _ _ _ rfl | (try dsimp only) <;> (repeat (first | exact up2_s | refine up2_o (by first | decide | omega) ?_)) <;> first | assumption | exact hK.2 _ _ _ rfl) ?_
        refine G_S (pc := 44) f_140_44 rfl rfl rfl ?_
        refine G_ic (v := nI 0) (pc := 45) f_140_45 (by decide) ?_
        refine G_CV (pc := 46) f_140_46 rfl rfl (by decide) rfl rfl (by first | assumption | exact hK.1 _ _ rfl) (by decide) ⟨Nat.le_of_ble_eq_true rfl, Nat.le_of_ble_eq_true rfl⟩ ?_
        refine CG.mono (k_climb0 W2 (by omega)) ?_
        rintro _ M3 ⟨rfl, hF3, W3⟩
        have Y3 := Y2.fc hF3 o83 (by decide) (by decide)
        have W_ := Y3.1
        have hK := W_.1
        obtain ⟨⟨t0, t1, t2, t3, t4, t5, t6⟩, r0, r3, r4, r6, r7, r8⟩ := W_.2.1
        obtain ⟨hD, ⟨v0, v1, v2⟩, vh, vr, vw, vf⟩ := W_.2.2.1
        have hs := W_.2.2.2.1
        have hh := W_.2.2.2.2
        have hn0 : _ ≤ 8 := hD.1
        have hn1 : _ ≤ 6 := hD.2.1.2
        have hn2 : _ ≤ 8 := hD.2.2.1
        obtain ⟨ry, va, q1⟩ := Y3.2
        have hp := pw_le _ (Nat.lt_succ_of_le hn2)
        have hp1 := Nat.two_pow_pos (D 2)
        have hFz := hF.tr ((hF2.sub (by decide)).tr (hF3.sub (by decide)))
        have hse := (seaI (by omega) hp).mp b2
        have q2' : ∀ k, k < D 0 → M3.2.1 88 k = nI (cntF (stopB D k) i) := fun k hk => by
          rw [(hF3.2.2 88 (by decide)).1, (hF2.2.2 88 (by decide)).1]
          exact q2 k hk
        have hcc := hc (cmF D i (D 0) 0 (layN D 0)).1
        refine G_S (pc := 49) f_140_49 rfl rfl rfl ?_
        refine G_S (pc := 50) f_140_50 rfl rfl rfl ?_
        refine G_zltZ (pc := 51) f_140_51 rfl (by first | exact nI_toInt (by omega) | exact zI_toInt (by omega) (by omega) | rfl) (fun b3 => ?_) (fun b3 => ?_)
        · exfalso; omega
        · refine G_S (pc := 54) f_140_54 rfl rfl rfl ?_
          refine G_S (pc := 55) f_140_55 rfl rfl rfl ?_
          refine G_gR (pc := 56) f_140_56 (by decide) rfl (by first | assumption | exact hK.1 _ _ rfl) (by first | assumption | exact hK.2 _ _ _ rfl | (try dsimp only) <;> (repeat (first | exact up2_s | refine up2_o (by first | decide | omega) ?_)) <;> first | assumption | exact hK.2 _ _ _ rfl) ?_
          refine G_gIv (pc := 59) f_140_59 (by decide) rfl (by decide) (by first | assumption | exact hK.1 _ _ rfl) (by first | assumption | (try dsimp only) <;> (repeat (first | exact up2_s | refine up2_o (by first | decide | omega) ?_)) <;> first | assumption | rfl) ?_
          refine G_jgeZ (pc := 62) f_140_62 rfl (by first | exact nI_toInt (by omega) | exact zI_toInt (by omega) (by omega) | rfl) (by first | exact nI_toInt (by omega) | exact zI_toInt (by omega) (by omega) | rfl) (fun b4 => ?_) (fun b4 => ?_)
          · first | refine G_inc1 (pc := 75) f_140_75 rfl ?_ | refine G_S (pc := 75) f_140_75 rfl rfl rfl ?_
            refine G_S (pc := 78) f_140_78 rfl rfl rfl ?_
            have e := ih (by omega)
            first
              | (refine e _ _ W1 hF (fun k hk => ?_)
                 have hn : ¬ stopB D k i = true := fun q => b2 ((seaI (by omega) hp).mpr (of_decide_eq_true (band.mp q).1))
                 rw [cntF, if_neg hn]
                 exact q2 k hk)
              | (refine e _ _ Y3 hFz (fun k hk => ?_)
                 have hn : ¬ stopB D k i = true := fun q => by have := of_decide_eq_true (band.mp q).2; omega
                 rw [cntF, if_neg hn]
                 exact q2' k hk)
              | (have hF4 : Fc [88] M3 _ := Fc.up (i := 88) (k := (cmF D i (D 0) 0 (layN D 0)).1) (x := nI (cntF (stopB D (cmF D i (D 0) 0 (layN D 0)).1) i + 1)) (by decide)
                 refine e _ _ (Y3.fc hF4 (by decide) (by decide) (by decide)) (hFz.tr (hF4.sub (by decide))) (fun k hk => ?_)
                 by_cases q : k = (cmF D i (D 0) 0 (layN D 0)).1
                 · rw [cntF, if_pos (show stopB D k i = true by unfold stopB; rw [Bool.and_eq_true, decide_eq_true_eq, decide_eq_true_eq]; exact ⟨hse, q.symm⟩), q]
                   exact (by dsimp only; exact up2_s)
                 · have hn : ¬ stopB D k i = true := fun q3 => q (of_decide_eq_true (band.mp q3).2).symm
                   rw [cntF, if_neg hn]
                   exact (by dsimp only; exact up2_o (by omega) (q2' k hk)))
          · refine G_S (pc := 65) f_140_65 rfl rfl rfl ?_
            refine G_gR (pc := 66) f_140_66 (by decide) rfl (by first | assumption | exact hK.1 _ _ rfl) (by first | assumption | exact hK.2 _ _ _ rfl | (try dsimp only) <;> (repeat (first | exact up2_s | refine up2_o (by first | decide | omega) ?_)) <;> first | assumption | exact hK.2 _ _ _ rfl) ?_
            refine G_S (pc := 69) f_140_69 rfl rfl rfl ?_
            refine G_S (pc := 70) f_140_70 rfl rfl rfl ?_
            refine G_iaN (pc := 71) f_140_71 (by first | assumption | exact hK.1 _ _ rfl) (by omega) (by omega) (by first | exact q2' _ (by omega) | rfl) ?_
            refine G_ic (v := nI 1) (pc := 72) f_140_72 (by decide) ?_
            first | refine G_addN (pc := 73) f_140_73 ?_ | refine G_addZ (pc := 73) f_140_73 (by first | rfl | exact nI_zI _) (by first | rfl | exact nI_zI _) ?_ | refine G_S (pc := 73) f_140_73 rfl rfl rfl ?_
            refine G_isN (pc := 74) f_140_74 (by first | assumption | exact hK.1 _ _ rfl) (by omega) (by omega) ?_
            first | refine G_inc1 (pc := 75) f_140_75 rfl ?_ | refine G_S (pc := 75) f_140_75 rfl rfl rfl ?_
            refine G_S (pc := 78) f_140_78 rfl rfl rfl ?_
            have e := ih (by omega)
            first
              | (refine e _ _ W1 hF (fun k hk => ?_)
                 have hn : ¬ stopB D k i = true := fun q => b2 ((seaI (by omega) hp).mpr (of_decide_eq_true (band.mp q).1))
                 rw [cntF, if_neg hn]
                 exact q2 k hk)
              | (refine e _ _ Y3 hFz (fun k hk => ?_)
                 have hn : ¬ stopB D k i = true := fun q => by have := of_decide_eq_true (band.mp q).2; omega
                 rw [cntF, if_neg hn]
                 exact q2' k hk)
              | (have hF4 : Fc [88] M3 _ := Fc.up (i := 88) (k := (cmF D i (D 0) 0 (layN D 0)).1) (x := nI (cntF (stopB D (cmF D i (D 0) 0 (layN D 0)).1) i + 1)) (by decide)
                 refine e _ _ (Y3.fc hF4 (by decide) (by decide) (by decide)) (hFz.tr (hF4.sub (by decide))) (fun k hk => ?_)
                 by_cases q : k = (cmF D i (D 0) 0 (layN D 0)).1
                 · rw [cntF, if_pos (show stopB D k i = true by unfold stopB; rw [Bool.and_eq_true, decide_eq_true_eq, decide_eq_true_eq]; exact ⟨hse, q.symm⟩), q]
                   exact (by dsimp only; exact up2_s)
                 · have hn : ¬ stopB D k i = true := fun q3 => q (of_decide_eq_true (band.mp q3).2).symm
                   rw [cntF, if_neg hn]
                   exact (by dsimp only; exact up2_o (by omega) (q2' k hk)))
  have W_ := W.1
  have hK := W_.1
  obtain ⟨⟨t0, t1, t2, t3, t4, t5, t6⟩, r0, r3, r4, r6, r7, r8⟩ := W_.2.1
  obtain ⟨hD, ⟨v0, v1, v2⟩, vh, vr, vw, vf⟩ := W_.2.2.1
  have hs := W_.2.2.2.1
  have hh := W_.2.2.2.2
  have hn0 : _ ≤ 8 := hD.1
  have hn1 : _ ≤ 6 := hD.2.1.2
  have hn2 : _ ≤ 8 := hD.2.2.1
  obtain ⟨ry, va, q1⟩ := W.2
  have hp := pw_le _ (Nat.lt_succ_of_le hn2)
  have hp1 := Nat.two_pow_pos (D 2)
  refine CG_in (mL := 3) (hl := false) (lv := [some (.ref 85), none, none]) (ll := []) rfl rfl rfl ?_
  refine G_S (pc := 0) f_140_0 rfl rfl rfl ?_
  refine G_gR (pc := 1) f_140_1 (by decide) rfl (by first | assumption | exact hK.1 _ _ rfl) (by first | assumption | exact hK.2 _ _ _ rfl | (try dsimp only) <;> (repeat (first | exact up2_s | refine up2_o (by first | decide | omega) ?_)) <;> first | assumption | exact hK.2 _ _ _ rfl) ?_
  refine G_ic (v := nI 0) (pc := 4) f_140_4 (by decide) ?_
  refine G_CS (pc := 5) f_140_5 rfl rfl (by decide) rfl rfl ⟨Nat.le_of_ble_eq_true rfl, Nat.le_of_ble_eq_true rfl⟩ ?_
  refine CG.mono (c_fill (n := 8) (hK.1 88 _ rfl) (by decide)) ?_
  rintro _ M1 ⟨rfl, e1, e2, e3, e4, e5⟩
  have hF := Fc.fl e1 e2 e3 e4
  refine G_ic (v := nI 0) (pc := 8) f_140_8 (by decide) ?_
  refine G_S (pc := 9) f_140_9 rfl rfl rfl ?_
  exact loop 0 (Nat.zero_le _) M1 _ (W.fc hF (by decide) (by decide) (by decide)) (hF.sub (by decide)) (fun k hk => e5 k (by omega))
theorem y_worst (W : YW M h D) : CG C 138 [.ref 85] M (fun w M' => w = some (.int (oI (bestF (wrP D) (wrL D) (D 0)))) ∧ Fc [82, 83, 88] M M' ∧ YW M' h D ∧ ∀ k, k < D 0 → M'.2.1 88 k = nI (cntF (stopB D k) (2 ^ D 2))) := by
  have loop : ∀ M1, YW M1 h D → (∀ k, k < D 0 → M1.2.1 88 k = nI (cntF (stopB D k) (2 ^ D 2))) → ∀ i, i ≤ D 0 → G C 138 (8, [some (.ref 85), some (.int ((oI (bestF (wrP D) (wrL D) i)))), some (.int (nI i))], [], [], M1) (fun w M' => w = some (.int (oI (bestF (wrP D) (wrL D) (D 0)))) ∧ M' = M1) := by
    intro M1 W1 q2
    have W_ := W1.1
    have hK := W_.1
    obtain ⟨⟨t0, t1, t2, t3, t4, t5, t6⟩, r0, r3, r4, r6, r7, r8⟩ := W_.2.1
    obtain ⟨hD, ⟨v0, v1, v2⟩, vh, vr, vw, vf⟩ := W_.2.2.1
    have hs := W_.2.2.2.1
    have hh := W_.2.2.2.2
    have hn0 : _ ≤ 8 := hD.1
    have hn1 : _ ≤ 6 := hD.2.1.2
    have hn2 : _ ≤ 8 := hD.2.2.1
    obtain ⟨ry, va, q1⟩ := W1.2
    have hp := pw_le _ (Nat.lt_succ_of_le hn2)
    have hp1 := Nat.two_pow_pos (D 2)
    refine upto (fun i hi ih => ?_)
    have q3 : ∀ c, bestF (wrP D) (wrL D) i = some c → c < i ∧ wrP D c = true := fun c hc => bestF_lt hc
    have hc : ∀ k, cntF (stopB D k) (2 ^ D 2) ≤ 256 := fun k => by have := cntF_le (U := stopB D k) (2 ^ D 2); omega
    have hc1 := hc i
    refine G_S (pc := 8) f_138_8 rfl rfl rfl ?_
    refine G_S (pc := 9) f_138_9 rfl rfl rfl ?_
    refine G_gR (pc := 10) f_138_10 (by decide) rfl (by first | assumption | exact hK.1 _ _ rfl) (by first | assumption | exact hK.2 _ _ _ rfl | (try dsimp only) <;> (repeat (first | exact up2_s | refine up2_o (by first | decide | omega) ?_)) <;> first | assumption | exact hK.2 _ _ _ rfl) ?_
    refine G_gIv (pc := 13) f_138_13 (by decide) rfl (by decide) (by first | assumption | exact hK.1 _ _ rfl) (by first | assumption | (try dsimp only) <;> (repeat (first | exact up2_s | refine up2_o (by first | decide | omega) ?_)) <;> first | assumption | rfl) ?_
    refine G_jgeZ (pc := 16) f_138_16 rfl (by first | exact nI_toInt (by omega) | exact zI_toInt (by omega) (by omega) | rfl) (by first | exact nI_toInt (by omega) | exact zI_toInt (by omega) (by omega) | rfl) (fun b1 => ?_) (fun b1 => ?_)
    · refine G_S (pc := 51) f_138_51 rfl rfl rfl ?_
      refine G_ri (pc := 52) f_138_52 ?_
      rw [show i = D 0 by omega]
      exact ⟨rfl, rfl⟩
    · refine G_S (pc := 19) f_138_19 rfl rfl rfl ?_
      refine G_gR (pc := 20) f_138_20 (by decide) rfl (by first | assumption | exact hK.1 _ _ rfl) (by first | assumption | exact hK.2 _ _ _ rfl | (try dsimp only) <;> (repeat (first | exact up2_s | refine up2_o (by first | decide | omega) ?_)) <;> first | assumption | exact hK.2 _ _ _ rfl) ?_
      refine G_S (pc := 23) f_138_23 rfl rfl rfl ?_
      refine G_iaN (pc := 24) f_138_24 (by first | assumption | exact hK.1 _ _ rfl) (by omega) (by omega) (by first | assumption | exact q1 _ (by omega) | exact q2 _ (by omega) | exact q3 _ (by omega) | exact q4 _ (by omega) | exact q5 _ (by omega) | exact vh _ (by omega) | exact (vr _ (by omega)).1 | exact (vr _ (by omega)).2 | exact vw _ (by omega) | exact vf _ (by omega) (by omega) | rfl) ?_
      refine G_S (pc := 25) f_138_25 rfl rfl rfl ?_
      refine G_ic (v := zI (-1)) (pc := 26) f_138_26 (by decide) ?_
      refine G_jneZ (pc := 27) f_138_27 rfl (by first | exact nI_toInt (by omega) | exact zI_toInt (by omega) (by omega) | rfl) (by first | exact nI_toInt (by omega) | exact zI_toInt (by omega) (by omega) | rfl) (fun b2 => ?_) (fun b2 => ?_)
      · obtain ⟨c, hb⟩ := oI_nn b2
        obtain ⟨hc2, hc3⟩ := q3 c hb
        have hc4 := hc c
        have hc5 := of_decide_eq_true hc3
        rw [hb, oI_some]
        refine G_S (pc := 34) f_138_34 rfl rfl rfl ?_
        refine G_gR (pc := 35) f_138_35 (by decide) rfl (by first | assumption | exact hK.1 _ _ rfl) (by first | assumption | exact hK.2 _ _ _ rfl | (try dsimp only) <;> (repeat (first | exact up2_s | refine up2_o (by first | decide | omega) ?_)) <;> first | assumption | exact hK.2 _ _ _ rfl) ?_
        refine G_S (pc := 38) f_138_38 rfl rfl rfl ?_
        refine G_iaN (pc := 39) f_138_39 (by first | assumption | exact hK.1 _ _ rfl) (by omega) (by omega) (by first | assumption | exact q1 _ (by omega) | exact q2 _ (by omega) | exact q3 _ (by omega) | exact q4 _ (by omega) | exact q5 _ (by omega) | exact vh _ (by omega) | exact (vr _ (by omega)).1 | exact (vr _ (by omega)).2 | exact vw _ (by omega) | exact vf _ (by omega) (by omega) | rfl) ?_
        refine G_jleZ (pc := 40) f_138_40 rfl (by first | exact nI_toInt (by omega) | exact zI_toInt (by omega) (by omega) | rfl) (by first | exact nI_toInt (by omega) | exact zI_toInt (by omega) (by omega) | rfl) (fun b3 => ?_) (fun b3 => ?_)
        · first | refine G_inc1 (pc := 45) f_138_45 rfl ?_ | refine G_S (pc := 45) f_138_45 rfl rfl rfl ?_
          refine G_S (pc := 48) f_138_48 rfl rfl rfl ?_
          have e := ih (by omega)
          first
            | (rw [bestF_first (decide_eq_true (by omega)) (oI_m1 (fun c hc => by have := (q3 c hc).1; omega) b2)] at e; exact e)
            | (rw [bestF_no (fun q => absurd (of_decide_eq_true q) (by omega))] at e; exact e)
            | (rw [bestF_new (decide_eq_true (by omega)) hb (decide_eq_true (by omega))] at e; exact e)
            | (rw [bestF_keep hb (fun q => absurd (of_decide_eq_true q) (by omega))] at e; exact e)
        · refine G_S (pc := 43) f_138_43 rfl rfl rfl ?_
          refine G_S (pc := 44) f_138_44 rfl rfl rfl ?_
          first | refine G_inc1 (pc := 45) f_138_45 rfl ?_ | refine G_S (pc := 45) f_138_45 rfl rfl rfl ?_
          refine G_S (pc := 48) f_138_48 rfl rfl rfl ?_
          have e := ih (by omega)
          first
            | (rw [bestF_first (decide_eq_true (by omega)) (oI_m1 (fun c hc => by have := (q3 c hc).1; omega) b2)] at e; exact e)
            | (rw [bestF_no (fun q => absurd (of_decide_eq_true q) (by omega))] at e; exact e)
            | (rw [bestF_new (decide_eq_true (by omega)) hb (decide_eq_true (by omega))] at e; exact e)
            | (rw [bestF_keep hb (fun q => absurd (of_decide_eq_true q) (by omega))] at e; exact e)
      · refine G_ic (v := nI 0) (pc := 30) f_138_30 (by decide) ?_
        refine G_S (pc := 31) f_138_31 rfl rfl rfl ?_
        refine G_jleZ (pc := 40) f_138_40 rfl (by first | exact nI_toInt (by omega) | exact zI_toInt (by omega) (by omega) | rfl) (by first | exact nI_toInt (by omega) | exact zI_toInt (by omega) (by omega) | rfl) (fun b3 => ?_) (fun b3 => ?_)
        · first | refine G_inc1 (pc := 45) f_138_45 rfl ?_ | refine G_S (pc := 45) f_138_45 rfl rfl rfl ?_
          refine G_S (pc := 48) f_138_48 rfl rfl rfl ?_
          have e := ih (by omega)
          first
            | (rw [bestF_first (decide_eq_true (by omega)) (oI_m1 (fun c hc => by have := (q3 c hc).1; omega) b2)] at e; exact e)
            | (rw [bestF_no (fun q => absurd (of_decide_eq_true q) (by omega))] at e; exact e)
            | (rw [bestF_new (decide_eq_true (by omega)) hb (decide_eq_true (by omega))] at e; exact e)
            | (rw [bestF_keep hb (fun q => absurd (of_decide_eq_true q) (by omega))] at e; exact e)
        · refine G_S (pc := 43) f_138_43 rfl rfl rfl ?_
          refine G_S (pc := 44) f_138_44 rfl rfl rfl ?_
          first | refine G_inc1 (pc := 45) f_138_45 rfl ?_ | refine G_S (pc := 45) f_138_45 rfl rfl rfl ?_
          refine G_S (pc := 48) f_138_48 rfl rfl rfl ?_
          have e := ih (by omega)
          first
            | (rw [bestF_first (decide_eq_true (by omega)) (oI_m1 (fun c hc => by have := (q3 c hc).1; omega) b2)] at e; exact e)
            | (rw [bestF_no (fun q => absurd (of_decide_eq_true q) (by omega))] at e; exact e)
            | (rw [bestF_new (decide_eq_true (by omega)) hb (decide_eq_true (by omega))] at e; exact e)
            | (rw [bestF_keep hb (fun q => absurd (of_decide_eq_true q) (by omega))] at e; exact e)
  have W_ := W.1
  have hK := W_.1
  obtain ⟨⟨t0, t1, t2, t3, t4, t5, t6⟩, r0, r3, r4, r6, r7, r8⟩ := W_.2.1
  obtain ⟨hD, ⟨v0, v1, v2⟩, vh, vr, vw, vf⟩ := W_.2.2.1
  have hs := W_.2.2.2.1
  have hh := W_.2.2.2.2
  have hn0 : _ ≤ 8 := hD.1
  have hn1 : _ ≤ 6 := hD.2.1.2
  have hn2 : _ ≤ 8 := hD.2.2.1
  obtain ⟨ry, va, q1⟩ := W.2
  have hp := pw_le _ (Nat.lt_succ_of_le hn2)
  have hp1 := Nat.two_pow_pos (D 2)
  refine CG_in (mL := 3) (hl := false) (lv := [some (.ref 85), none, none]) (ll := []) rfl rfl rfl ?_
  refine G_S (pc := 0) f_138_0 rfl rfl rfl ?_
  refine G_CV (pc := 1) f_138_1 rfl rfl (by decide) rfl rfl (by first | assumption | exact hK.1 _ _ rfl) (by decide) ⟨Nat.le_of_ble_eq_true rfl, Nat.le_of_ble_eq_true rfl⟩ ?_
  refine CG.mono (y_stalled W) ?_
  rintro _ M1 ⟨rfl, hF, W1, q2⟩
  refine G_ic (v := zI (-1)) (pc := 4) f_138_4 (by decide) ?_
  refine G_S (pc := 5) f_138_5 rfl rfl rfl ?_
  refine G_ic (v := nI 0) (pc := 6) f_138_6 (by decide) ?_
  refine G_S (pc := 7) f_138_7 rfl rfl rfl ?_
  refine G.mono (loop M1 W1 q2 0 (Nat.zero_le _)) ?_
  rintro w M9 ⟨g1, rfl⟩
  exact ⟨g1, hF, W1, q2⟩
def woI (D : Nat → Nat) : Option Nat → Int32
  | none => zI (-1)
  | some c => nI (cntF (stopB D c) (2 ^ D 2))
theorem y_atWorst (W : YW M h D) : CG C 139 [.ref 85] M (fun w M' => w = some (.int (woI D (bestF (wrP D) (wrL D) (D 0)))) ∧ Fc [82, 83, 88] M M') := by
  have W_ := W.1
  have hK := W_.1
  obtain ⟨⟨t0, t1, t2, t3, t4, t5, t6⟩, r0, r3, r4, r6, r7, r8⟩ := W_.2.1
  obtain ⟨hD, ⟨v0, v1, v2⟩, vh, vr, vw, vf⟩ := W_.2.2.1
  have hs := W_.2.2.2.1
  have hh := W_.2.2.2.2
  have hn0 : _ ≤ 8 := hD.1
  have hn1 : _ ≤ 6 := hD.2.1.2
  have hn2 : _ ≤ 8 := hD.2.2.1
  obtain ⟨ry, va, q1⟩ := W.2
  have hp := pw_le _ (Nat.lt_succ_of_le hn2)
  have hp1 := Nat.two_pow_pos (D 2)
  have q3 : ∀ c, bestF (wrP D) (wrL D) (D 0) = some c → c < D 0 ∧ wrP D c = true := fun c hc => bestF_lt hc
  refine CG_in (mL := 2) (hl := false) (lv := [some (.ref 85), none]) (ll := []) rfl rfl rfl ?_
  refine G_S (pc := 0) f_139_0 rfl rfl rfl ?_
  refine G_CV (pc := 1) f_139_1 rfl rfl (by decide) rfl rfl (by first | assumption | exact hK.1 _ _ rfl) (by decide) ⟨Nat.le_of_ble_eq_true rfl, Nat.le_of_ble_eq_true rfl⟩ ?_
  refine CG.mono (y_worst W) ?_
  rintro _ M1 ⟨rfl, hF, W1, q2⟩
  have hK := W1.1.1
  refine G_S (pc := 4) f_139_4 rfl rfl rfl ?_
  refine G_S (pc := 5) f_139_5 rfl rfl rfl ?_
  refine G_ic (v := zI (-1)) (pc := 6) f_139_6 (by decide) ?_
  refine G_jneZ (pc := 7) f_139_7 rfl (by first | exact nI_toInt (by omega) | exact zI_toInt (by omega) (by omega) | rfl) (by first | exact nI_toInt (by omega) | exact zI_toInt (by omega) (by omega) | rfl) (fun b1 => ?_) (fun b1 => ?_)
  · obtain ⟨c, hc⟩ := oI_nn b1
    have hc2 := (q3 c hc).1
    rw [hc, oI_some]
    refine G_S (pc := 14) f_139_14 rfl rfl rfl ?_
    refine G_gR (pc := 15) f_139_15 (by decide) rfl (by first | assumption | exact hK.1 _ _ rfl) (by first | assumption | exact hK.2 _ _ _ rfl | (try dsimp only) <;> (repeat (first | exact up2_s | refine up2_o (by first | decide | omega) ?_)) <;> first | assumption | exact hK.2 _ _ _ rfl) ?_
    refine G_S (pc := 18) f_139_18 rfl rfl rfl ?_
    refine G_iaN (pc := 19) f_139_19 (by first | assumption | exact hK.1 _ _ rfl) (by omega) (by omega) (by first | assumption | exact q1 _ (by omega) | exact q2 _ (by omega) | exact q3 _ (by omega) | exact q4 _ (by omega) | exact q5 _ (by omega) | exact vh _ (by omega) | exact (vr _ (by omega)).1 | exact (vr _ (by omega)).2 | exact vw _ (by omega) | exact vf _ (by omega) (by omega) | rfl) ?_
    refine G_ri (pc := 20) f_139_20 ?_
    first
      | exact ⟨rfl, hF⟩
      | (rw [oI_m1 (fun c hc => by have := (q3 c hc).1; omega) b1]; exact ⟨rfl, hF⟩)
  · refine G_ic (v := zI (-1)) (pc := 10) f_139_10 (by decide) ?_
    refine G_S (pc := 11) f_139_11 rfl rfl rfl ?_
    refine G_ri (pc := 20) f_139_20 ?_
    first
      | exact ⟨rfl, hF⟩
      | (rw [oI_m1 (fun c hc => by have := (q3 c hc).1; omega) b1]; exact ⟨rfl, hF⟩)
theorem y_against {x : Nat} (W : LW M h D) (hx : x < 256) : CG C 141 [.ref 85, .ref h, .int (nI x)] M (fun w M' => w = some (.int (oI (bestF (agP D x) fewL (2 ^ D 2)))) ∧ Fc [82, 83] M M') := by
  have loop : ∀ M1, CW M1 h D (layN D 0) → ∀ i, i ≤ 2 ^ D 2 → G C 141 (13, [some (.ref 85), some (.ref h), some (.int (nI x)), some (.int ((oI (bestF (agP D x) fewL i)))), some (.int (nI i))], [], [], M1) (fun w M' => w = some (.int (oI (bestF (agP D x) fewL (2 ^ D 2)))) ∧ M' = M1) := by
    intro M1 W1
    have W0 := W1.1
    have hK := W0.1
    obtain ⟨⟨t0, t1, t2, t3, t4, t5, t6⟩, r0, r3, r4, r6, r7, r8⟩ := W0.2.1
    obtain ⟨hD, ⟨v0, v1, v2⟩, vh, vr, vw, vf⟩ := W0.2.2.1
    have hs := W0.2.2.2.1
    have hh := W0.2.2.2.2
    have hn0 : _ ≤ 8 := hD.1
    have hn1 : _ ≤ 6 := hD.2.1.2
    have hn2 : _ ≤ 8 := hD.2.2.1
    have hp := pw_le _ (Nat.lt_succ_of_le hn2)
    refine upto (fun i hi ih => ?_)
    have q3 : ∀ c, bestF (agP D x) fewL i = some c → c < i ∧ agP D x c = true := fun c hc => bestF_lt hc
    have hpl := plS_le D (S := i) (n := D 2) (fun r hr => (W1.2.2 r hr).2)
    refine G_S (pc := 13) f_141_13 rfl rfl rfl ?_
    refine G_ic (v := nI 1) (pc := 15) f_141_15 (by decide) ?_
    refine G_S (pc := 16) f_141_16 rfl rfl rfl ?_
    refine G_gIv (pc := 17) f_141_17 (by decide) rfl (by decide) (by first | assumption | exact hK.1 _ _ rfl) (by first | assumption | (try dsimp only) <;> (repeat (first | exact up2_s | refine up2_o (by first | decide | omega) ?_)) <;> first | assumption | rfl) ?_
    first | refine G_shl1 (pc := 20) f_141_20 (by omega) ?_ | refine G_S (pc := 20) f_141_20 rfl rfl rfl ?_
    refine G_jgeZ (pc := 21) f_141_21 rfl (by first | exact nI_toInt (by omega) | exact zI_toInt (by omega) (by omega) | rfl) (by first | exact nI_toInt (by omega) | exact zI_toInt (by omega) (by omega) | rfl) (fun b1 => ?_) (fun b1 => ?_)
    · refine G_S (pc := 64) f_141_64 rfl rfl rfl ?_
      refine G_ri (pc := 65) f_141_65 ?_
      rw [show i = 2 ^ D 2 by omega]
      exact ⟨rfl, rfl⟩
    · refine G_S (pc := 24) f_141_24 rfl rfl rfl ?_
      refine G_S (pc := 25) f_141_25 rfl rfl rfl ?_
      refine G_CV (pc := 27) f_141_27 rfl rfl (by decide) rfl rfl (by first | assumption | exact hK.1 _ _ rfl) (by decide) ⟨Nat.le_of_ble_eq_true rfl, Nat.le_of_ble_eq_true rfl⟩ ?_
      refine CG.go (c_seatsAllN W0) ?_
      first | refine G_bEq (pc := 30) f_141_30 rfl (fun b2 => ?_) (fun b2 => ?_) | refine G_zeqZ (pc := 30) f_141_30 rfl (by first | exact nI_toInt (by omega) | exact zI_toInt (by omega) (by omega) | rfl) (fun b2 => ?_) (fun b2 => ?_)
      · first | refine G_inc1 (pc := 58) f_141_58 rfl ?_ | refine G_S (pc := 58) f_141_58 rfl rfl rfl ?_
        refine G_S (pc := 61) f_141_61 rfl rfl rfl ?_
        have e := ih (by omega)
        first
          | (rw [bestF_no (show ¬ agP D x i = true from fun q => b2 ((seaI (by omega) hp).mpr (of_decide_eq_true (band.mp q).1)))] at e; exact e)
          | (rw [bestF_no (show ¬ agP D x i = true from fun q => by have := of_decide_eq_true (band.mp q).2; omega)] at e; exact e)
          | (rw [bestF_k b4] at e; exact e)
          | (rw [bestF_b (show agP D x i = true by unfold agP; rw [Bool.and_eq_true, decide_eq_true_eq, decide_eq_true_eq]; exact ⟨(seaI (by omega) hp).mp b2, by omega⟩) b4] at e; exact e)
      · refine G_S (pc := 33) f_141_33 rfl rfl rfl ?_
        refine G_gR (pc := 34) f_141_34 (by decide) rfl (by first | assumption | exact hK.1 _ _ rfl) (by first | assumption | exact hK.2 _ _ _ rfl | (try dsimp only) <;> (repeat (first | exact up2_s | refine up2_o (by first | decide | omega) ?_)) <;> first | assumption | exact hK.2 _ _ _ rfl) ?_
        refine G_S (pc := 37) f_141_37 rfl rfl rfl ?_
        refine G_CV (pc := 39) f_141_39 rfl rfl (by decide) rfl rfl (by first | assumption | exact hK.1 _ _ rfl) (by decide) ⟨Nat.le_of_ble_eq_true rfl, Nat.le_of_ble_eq_true rfl⟩ ?_
        refine CG.go (k_pulls W1 (by omega)) ?_
        refine G_S (pc := 42) f_141_42 rfl rfl rfl ?_
        refine G_jltZ (pc := 43) f_141_43 rfl (by first | exact nI_toInt (by omega) | exact zI_toInt (by omega) (by omega) | rfl) (by first | exact nI_toInt (by omega) | exact zI_toInt (by omega) (by omega) | rfl) (fun b3 => ?_) (fun b3 => ?_)
        · first | refine G_inc1 (pc := 58) f_141_58 rfl ?_ | refine G_S (pc := 58) f_141_58 rfl rfl rfl ?_
          refine G_S (pc := 61) f_141_61 rfl rfl rfl ?_
          have e := ih (by omega)
          first
            | (rw [bestF_no (show ¬ agP D x i = true from fun q => b2 ((seaI (by omega) hp).mpr (of_decide_eq_true (band.mp q).1)))] at e; exact e)
            | (rw [bestF_no (show ¬ agP D x i = true from fun q => by have := of_decide_eq_true (band.mp q).2; omega)] at e; exact e)
            | (rw [bestF_k b4] at e; exact e)
            | (rw [bestF_b (show agP D x i = true by unfold agP; rw [Bool.and_eq_true, decide_eq_true_eq, decide_eq_true_eq]; exact ⟨(seaI (by omega) hp).mp b2, by omega⟩) b4] at e; exact e)
        · refine G_S (pc := 46) f_141_46 rfl rfl rfl ?_
          refine G_S (pc := 48) f_141_48 rfl rfl rfl ?_
          refine G_CS (pc := 49) f_141_49 rfl rfl (by decide) rfl rfl ⟨Nat.le_of_ble_eq_true rfl, Nat.le_of_ble_eq_true rfl⟩ ?_
          refine CG.go (c_fewer (by omega) (fun c hc => by have := (q3 c hc).1; omega)) ?_
          first | refine G_bEq (pc := 52) f_141_52 rfl (fun b4 => ?_) (fun b4 => ?_) | refine G_zeqZ (pc := 52) f_141_52 rfl (by first | exact nI_toInt (by omega) | exact zI_toInt (by omega) (by omega) | rfl) (fun b4 => ?_) (fun b4 => ?_)
          · first | refine G_inc1 (pc := 58) f_141_58 rfl ?_ | refine G_S (pc := 58) f_141_58 rfl rfl rfl ?_
            refine G_S (pc := 61) f_141_61 rfl rfl rfl ?_
            have e := ih (by omega)
            first
              | (rw [bestF_no (show ¬ agP D x i = true from fun q => b2 ((seaI (by omega) hp).mpr (of_decide_eq_true (band.mp q).1)))] at e; exact e)
              | (rw [bestF_no (show ¬ agP D x i = true from fun q => by have := of_decide_eq_true (band.mp q).2; omega)] at e; exact e)
              | (rw [bestF_k b4] at e; exact e)
              | (rw [bestF_b (show agP D x i = true by unfold agP; rw [Bool.and_eq_true, decide_eq_true_eq, decide_eq_true_eq]; exact ⟨(seaI (by omega) hp).mp b2, by omega⟩) b4] at e; exact e)
          · refine G_S (pc := 55) f_141_55 rfl rfl rfl ?_
            refine G_S (pc := 57) f_141_57 rfl rfl rfl ?_
            first | refine G_inc1 (pc := 58) f_141_58 rfl ?_ | refine G_S (pc := 58) f_141_58 rfl rfl rfl ?_
            refine G_S (pc := 61) f_141_61 rfl rfl rfl ?_
            have e := ih (by omega)
            first
              | (rw [bestF_no (show ¬ agP D x i = true from fun q => b2 ((seaI (by omega) hp).mpr (of_decide_eq_true (band.mp q).1)))] at e; exact e)
              | (rw [bestF_no (show ¬ agP D x i = true from fun q => by have := of_decide_eq_true (band.mp q).2; omega)] at e; exact e)
              | (rw [bestF_k b4] at e; exact e)
              | (rw [bestF_b (show agP D x i = true by unfold agP; rw [Bool.and_eq_true, decide_eq_true_eq, decide_eq_true_eq]; exact ⟨(seaI (by omega) hp).mp b2, by omega⟩) b4] at e; exact e)
  have hK := W.1
  obtain ⟨⟨t0, t1, t2, t3, t4, t5, t6⟩, r0, r3, r4, r6, r7, r8⟩ := W.2.1
  obtain ⟨hD, ⟨v0, v1, v2⟩, vh, vr, vw, vf⟩ := W.2.2.1
  have hs := W.2.2.2.1
  have hh := W.2.2.2.2
  have hn0 : _ ≤ 8 := hD.1
  have hn1 : _ ≤ 6 := hD.2.1.2
  have hn2 : _ ≤ 8 := hD.2.2.1
  refine CG_in (mL := 5) (hl := false) (lv := [some (.ref 85), some (.ref h), some (.int (nI x)), none, none]) (ll := []) rfl rfl rfl ?_
  refine G_ic (v := zI (-1)) (pc := 0) f_141_0 (by decide) ?_
  refine G_S (pc := 1) f_141_1 rfl rfl rfl ?_
  refine G_S (pc := 2) f_141_2 rfl rfl rfl ?_
  refine G_gR (pc := 3) f_141_3 (by decide) rfl (by first | assumption | exact hK.1 _ _ rfl) (by first | assumption | exact hK.2 _ _ _ rfl | (try dsimp only) <;> (repeat (first | exact up2_s | refine up2_o (by first | decide | omega) ?_)) <;> first | assumption | exact hK.2 _ _ _ rfl) ?_
  refine G_S (pc := 6) f_141_6 rfl rfl rfl ?_
  refine G_CV (pc := 7) f_141_7 rfl rfl (by decide) rfl rfl (by first | assumption | exact hK.1 _ _ rfl) (by decide) ⟨Nat.le_of_ble_eq_true rfl, Nat.le_of_ble_eq_true rfl⟩ ?_
  refine CG.mono (k_begin W) ?_
  rintro _ M1 ⟨rfl, hF, W1⟩
  refine G_ic (v := nI 0) (pc := 10) f_141_10 (by decide) ?_
  refine G_S (pc := 11) f_141_11 rfl rfl rfl ?_
  refine G.mono (loop M1 W1 0 (Nat.zero_le _)) ?_
  rintro w M9 ⟨g1, rfl⟩
  exact ⟨g1, hF⟩
theorem y_diff (W : YW M h D) (hS : S < 2 ^ D 2) : CG C 143 [.ref 85, .int (nI S)] M (fun w M' => w = some (.int (nI (difF D S))) ∧ M' = M) := by
  have W_ := W.1
  have hK := W_.1
  obtain ⟨⟨t0, t1, t2, t3, t4, t5, t6⟩, r0, r3, r4, r6, r7, r8⟩ := W_.2.1
  obtain ⟨hD, ⟨v0, v1, v2⟩, vh, vr, vw, vf⟩ := W_.2.2.1
  have hs := W_.2.2.2.1
  have hh := W_.2.2.2.2
  have hn0 : _ ≤ 8 := hD.1
  have hn1 : _ ≤ 6 := hD.2.1.2
  have hn2 : _ ≤ 8 := hD.2.2.1
  obtain ⟨ry, va, q1⟩ := W.2
  have hp := pw_le _ (Nat.lt_succ_of_le hn2)
  have hp1 := Nat.two_pow_pos (D 2)
  have hx := (xor_all (D 2) (by omega) S hS).1
  have h1 := ozS_le hD (S := S)
  have h2 := ozS_le hD (S := (2 ^ D 2 - 1) ^^^ S)
  refine CG_in (mL := 2) (hl := false) (lv := [some (.ref 85), some (.int (nI S))]) (ll := []) rfl rfl rfl ?_
  refine G_S (pc := 0) f_143_0 rfl rfl rfl ?_
  refine G_gR (pc := 1) f_143_1 (by decide) rfl (by first | assumption | exact hK.1 _ _ rfl) (by first | assumption | exact hK.2 _ _ _ rfl | (try dsimp only) <;> (repeat (first | exact up2_s | refine up2_o (by first | decide | omega) ?_)) <;> first | assumption | exact hK.2 _ _ _ rfl) ?_
  refine G_S (pc := 4) f_143_4 rfl rfl rfl ?_
  refine G_CV (pc := 5) f_143_5 rfl rfl (by decide) rfl rfl (by first | assumption | exact hK.1 _ _ rfl) (by decide) ⟨Nat.le_of_ble_eq_true rfl, Nat.le_of_ble_eq_true rfl⟩ ?_
  refine CG.go (c_ounces W_ (by omega)) ?_
  refine G_S (pc := 8) f_143_8 rfl rfl rfl ?_
  refine G_gR (pc := 9) f_143_9 (by decide) rfl (by first | assumption | exact hK.1 _ _ rfl) (by first | assumption | exact hK.2 _ _ _ rfl | (try dsimp only) <;> (repeat (first | exact up2_s | refine up2_o (by first | decide | omega) ?_)) <;> first | assumption | exact hK.2 _ _ _ rfl) ?_
  refine G_S (pc := 12) f_143_12 rfl rfl rfl ?_
  refine G_gIv (pc := 13) f_143_13 (by decide) rfl (by decide) (by first | assumption | exact hK.1 _ _ rfl) (by first | assumption | (try dsimp only) <;> (repeat (first | exact up2_s | refine up2_o (by first | decide | omega) ?_)) <;> first | assumption | rfl) ?_
  refine G_S (pc := 16) f_143_16 rfl rfl rfl ?_
  first | refine G_xorN (pc := 17) f_143_17 ?_ | refine G_S (pc := 17) f_143_17 rfl rfl rfl ?_
  refine G_CV (pc := 18) f_143_18 rfl rfl (by decide) rfl rfl (by first | assumption | exact hK.1 _ _ rfl) (by decide) ⟨Nat.le_of_ble_eq_true rfl, Nat.le_of_ble_eq_true rfl⟩ ?_
  refine CG.go (c_ounces W_ (by omega)) ?_
  first | refine G_subN (pc := 21) f_143_21 (by omega) ?_ | refine G_subZ (pc := 21) f_143_21 (by first | rfl | exact nI_zI _) (by first | rfl | exact nI_zI _) ?_ | refine G_S (pc := 21) f_143_21 rfl rfl rfl ?_
  refine G_absZ (pc := 22) f_143_22 rfl rfl (by first | rfl | exact nI_zI _) (by omega) (by omega) ?_
  refine G_ri (pc := 25) f_143_25 ?_
  exact ⟨rfl, rfl⟩
theorem difF_le (hD : DOK D) : difF D S ≤ 480 := by
  have h1 := ozS_le hD (S := S)
  have h2 := ozS_le hD (S := (2 ^ D 2 - 1) ^^^ S)
  unfold difF
  omega
theorem hI_nn {o : Option Nat} (h : (hI o).toInt ≠ -1) : ∃ c, o = some c := by
  cases o with
  | none => exact absurd rfl h
  | some c => exact ⟨c, rfl⟩
theorem hI_m1 {o : Option Nat} (hb : ∀ c, o = some c → c < 2 ^ 16) (h : (hI o).toInt = -1) : o = none := by
  cases o with
  | none => rfl
  | some c =>
    have := hb c rfl
    rw [show hI (some c) = nI (2 * c + 1) from rfl, nI_toInt (by omega)] at h
    omega
theorem y_half (W : YW M h D) : CG C 142 [.ref 85] M (fun w M' => w = some (.int (hI (bestF (haP D) (haL D) ((2 ^ D 2 - 1) / 2)))) ∧ M' = M) := by
  have W_ := W.1
  have hK := W_.1
  obtain ⟨⟨t0, t1, t2, t3, t4, t5, t6⟩, r0, r3, r4, r6, r7, r8⟩ := W_.2.1
  obtain ⟨hD, ⟨v0, v1, v2⟩, vh, vr, vw, vf⟩ := W_.2.2.1
  have hs := W_.2.2.2.1
  have hh := W_.2.2.2.2
  have hn0 : _ ≤ 8 := hD.1
  have hn1 : _ ≤ 6 := hD.2.1.2
  have hn2 : _ ≤ 8 := hD.2.2.1
  obtain ⟨ry, va, q1⟩ := W.2
  have hp := pw_le _ (Nat.lt_succ_of_le hn2)
  have hp1 := Nat.two_pow_pos (D 2)
  have hod := odd_all (D 2) (by omega)
  have loop : ∀ i, i ≤ (2 ^ D 2 - 1) / 2 → G C 142 (4, [some (.ref 85), some (.int ((hI (bestF (haP D) (haL D) i)))), some (.int (nI (2 * i + 1)))], [], [], M) (fun w M' => w = some (.int (hI (bestF (haP D) (haL D) ((2 ^ D 2 - 1) / 2)))) ∧ M' = M) := by
    refine upto (fun i hi ih => ?_)
    have q3 : ∀ c, bestF (haP D) (haL D) i = some c → c < i ∧ haP D c = true := fun c hc => bestF_lt hc
    have hd1 := difF_le hD (S := 2 * i + 1)
    have hx : 2 * i + 1 < 2 ^ D 2 → (2 ^ D 2 - 1) ^^^ (2 * i + 1) < 2 ^ D 2 := fun q => (xor_all (D 2) (by omega) _ q).1
    refine G_S (pc := 4) f_142_4 rfl rfl rfl ?_
    refine G_S (pc := 5) f_142_5 rfl rfl rfl ?_
    refine G_gIv (pc := 6) f_142_6 (by decide) rfl (by decide) (by first | assumption | exact hK.1 _ _ rfl) (by first | assumption | (try dsimp only) <;> (repeat (first | exact up2_s | refine up2_o (by first | decide | omega) ?_)) <;> first | assumption | rfl) ?_
    refine G_jgeZ (pc := 9) f_142_9 rfl (by first | exact nI_toInt (by omega) | exact zI_toInt (by omega) (by omega) | rfl) (by first | exact nI_toInt (by omega) | exact zI_toInt (by omega) (by omega) | rfl) (fun b1 => ?_) (fun b1 => ?_)
    · refine G_S (pc := 61) f_142_61 rfl rfl rfl ?_
      refine G_ri (pc := 62) f_142_62 ?_
      rw [show i = (2 ^ D 2 - 1) / 2 by omega]
      exact ⟨rfl, rfl⟩
    · refine G_S (pc := 12) f_142_12 rfl rfl rfl ?_
      refine G_gR (pc := 13) f_142_13 (by decide) rfl (by first | assumption | exact hK.1 _ _ rfl) (by first | assumption | exact hK.2 _ _ _ rfl | (try dsimp only) <;> (repeat (first | exact up2_s | refine up2_o (by first | decide | omega) ?_)) <;> first | assumption | exact hK.2 _ _ _ rfl) ?_
      refine G_S (pc := 16) f_142_16 rfl rfl rfl ?_
      refine G_baN (pc := 17) f_142_17 (by first | assumption | exact hK.1 _ _ rfl) (by decide) (by omega) (by omega) (by first | assumption | exact q1 _ (by omega) | exact q2 _ (by omega) | exact q3 _ (by omega) | exact q4 _ (by omega) | exact q5 _ (by omega) | exact vh _ (by omega) | exact (vr _ (by omega)).1 | exact (vr _ (by omega)).2 | exact vw _ (by omega) | exact vf _ (by omega) (by omega) | rfl) ?_
      first | refine G_bEq (pc := 18) f_142_18 rfl (fun b2 => ?_) (fun b2 => ?_) | refine G_zeqZ (pc := 18) f_142_18 rfl (by first | exact nI_toInt (by omega) | exact zI_toInt (by omega) (by omega) | rfl) (fun b2 => ?_) (fun b2 => ?_)
      · first | refine G_incN (pc := 55) f_142_55 rfl (by decide) ?_ | refine G_incZ (pc := 55) f_142_55 rfl (by first | rfl | exact nI_zI _) ?_ | refine G_S (pc := 55) f_142_55 rfl rfl rfl ?_
        refine G_S (pc := 58) f_142_58 rfl rfl rfl ?_
        have e := ih (by omega)
        rw [show 2 * (i + 1) + 1 = 2 * i + 1 + Int.toNat 2 by omega] at e
        first
          | (rw [bestF_no (show ¬ haP D i = true from fun q => b2 (band.mp q).1)] at e; exact e)
          | (rw [bestF_no (show ¬ haP D i = true from fun q => b3 (band.mp q).2)] at e; exact e)
          | (rw [bestF_first (show haP D i = true from band.mpr ⟨b2, b3⟩) (hI_m1 (fun c hc => by have := (q3 c hc).1; omega) b4)] at e; exact e)
          | (rw [bestF_new (show haP D i = true from band.mpr ⟨b2, b3⟩) hc (decide_eq_true (by omega))] at e; exact e)
          | (rw [bestF_keep hc (fun q => absurd (of_decide_eq_true q) (by omega))] at e; exact e)
      · refine G_S (pc := 21) f_142_21 rfl rfl rfl ?_
        refine G_gR (pc := 22) f_142_22 (by decide) rfl (by first | assumption | exact hK.1 _ _ rfl) (by first | assumption | exact hK.2 _ _ _ rfl | (try dsimp only) <;> (repeat (first | exact up2_s | refine up2_o (by first | decide | omega) ?_)) <;> first | assumption | exact hK.2 _ _ _ rfl) ?_
        refine G_S (pc := 25) f_142_25 rfl rfl rfl ?_
        refine G_gIv (pc := 26) f_142_26 (by decide) rfl (by decide) (by first | assumption | exact hK.1 _ _ rfl) (by first | assumption | (try dsimp only) <;> (repeat (first | exact up2_s | refine up2_o (by first | decide | omega) ?_)) <;> first | assumption | rfl) ?_
        refine G_S (pc := 29) f_142_29 rfl rfl rfl ?_
        first | refine G_xorN (pc := 30) f_142_30 ?_ | refine G_S (pc := 30) f_142_30 rfl rfl rfl ?_
        refine G_baN (pc := 31) f_142_31 (by first | assumption | exact hK.1 _ _ rfl) (by decide) (by have := hx (by omega); omega) (by omega) (by first | exact q1 _ (hx (by omega)) | rfl) ?_
        first | refine G_bEq (pc := 32) f_142_32 rfl (fun b3 => ?_) (fun b3 => ?_) | refine G_zeqZ (pc := 32) f_142_32 rfl (by first | exact nI_toInt (by omega) | exact zI_toInt (by omega) (by omega) | rfl) (fun b3 => ?_) (fun b3 => ?_)
        · first | refine G_incN (pc := 55) f_142_55 rfl (by decide) ?_ | refine G_incZ (pc := 55) f_142_55 rfl (by first | rfl | exact nI_zI _) ?_ | refine G_S (pc := 55) f_142_55 rfl rfl rfl ?_
          refine G_S (pc := 58) f_142_58 rfl rfl rfl ?_
          have e := ih (by omega)
          rw [show 2 * (i + 1) + 1 = 2 * i + 1 + Int.toNat 2 by omega] at e
          first
            | (rw [bestF_no (show ¬ haP D i = true from fun q => b2 (band.mp q).1)] at e; exact e)
            | (rw [bestF_no (show ¬ haP D i = true from fun q => b3 (band.mp q).2)] at e; exact e)
            | (rw [bestF_first (show haP D i = true from band.mpr ⟨b2, b3⟩) (hI_m1 (fun c hc => by have := (q3 c hc).1; omega) b4)] at e; exact e)
            | (rw [bestF_new (show haP D i = true from band.mpr ⟨b2, b3⟩) hc (decide_eq_true (by omega))] at e; exact e)
            | (rw [bestF_keep hc (fun q => absurd (of_decide_eq_true q) (by omega))] at e; exact e)
        · refine G_S (pc := 35) f_142_35 rfl rfl rfl ?_
          refine G_ic (v := zI (-1)) (pc := 36) f_142_36 (by decide) ?_
          refine G_jeqZ (pc := 37) f_142_37 rfl (by first | exact nI_toInt (by omega) | exact zI_toInt (by omega) (by omega) | rfl) (by first | exact nI_toInt (by omega) | exact zI_toInt (by omega) (by omega) | rfl) (fun b4 => ?_) (fun b4 => ?_)
          · refine G_S (pc := 53) f_142_53 rfl rfl rfl ?_
            refine G_S (pc := 54) f_142_54 rfl rfl rfl ?_
            first | refine G_incN (pc := 55) f_142_55 rfl (by decide) ?_ | refine G_incZ (pc := 55) f_142_55 rfl (by first | rfl | exact nI_zI _) ?_ | refine G_S (pc := 55) f_142_55 rfl rfl rfl ?_
            refine G_S (pc := 58) f_142_58 rfl rfl rfl ?_
            have e := ih (by omega)
            rw [show 2 * (i + 1) + 1 = 2 * i + 1 + Int.toNat 2 by omega] at e
            first
              | (rw [bestF_no (show ¬ haP D i = true from fun q => b2 (band.mp q).1)] at e; exact e)
              | (rw [bestF_no (show ¬ haP D i = true from fun q => b3 (band.mp q).2)] at e; exact e)
              | (rw [bestF_first (show haP D i = true from band.mpr ⟨b2, b3⟩) (hI_m1 (fun c hc => by have := (q3 c hc).1; omega) b4)] at e; exact e)
              | (rw [bestF_new (show haP D i = true from band.mpr ⟨b2, b3⟩) hc (decide_eq_true (by omega))] at e; exact e)
              | (rw [bestF_keep hc (fun q => absurd (of_decide_eq_true q) (by omega))] at e; exact e)
          · obtain ⟨c, hc⟩ := hI_nn b4
            have hc2 := (q3 c hc).1
            have hd2 := difF_le hD (S := 2 * c + 1)
            rw [hc, show hI (some c) = nI (2 * c + 1) from rfl]
            refine G_S (pc := 40) f_142_40 rfl rfl rfl ?_
            refine G_S (pc := 41) f_142_41 rfl rfl rfl ?_
            refine G_CV (pc := 42) f_142_42 rfl rfl (by decide) rfl rfl (by first | assumption | exact hK.1 _ _ rfl) (by decide) ⟨Nat.le_of_ble_eq_true rfl, Nat.le_of_ble_eq_true rfl⟩ ?_
            refine CG.go (y_diff W (by omega)) ?_
            refine G_S (pc := 45) f_142_45 rfl rfl rfl ?_
            refine G_S (pc := 46) f_142_46 rfl rfl rfl ?_
            refine G_CV (pc := 47) f_142_47 rfl rfl (by decide) rfl rfl (by first | assumption | exact hK.1 _ _ rfl) (by decide) ⟨Nat.le_of_ble_eq_true rfl, Nat.le_of_ble_eq_true rfl⟩ ?_
            refine CG.go (y_diff W (by omega)) ?_
            refine G_jgeZ (pc := 50) f_142_50 rfl (by first | exact nI_toInt (by omega) | exact zI_toInt (by omega) (by omega) | rfl) (by first | exact nI_toInt (by omega) | exact zI_toInt (by omega) (by omega) | rfl) (fun b5 => ?_) (fun b5 => ?_)
            · first | refine G_incN (pc := 55) f_142_55 rfl (by decide) ?_ | refine G_incZ (pc := 55) f_142_55 rfl (by first | rfl | exact nI_zI _) ?_ | refine G_S (pc := 55) f_142_55 rfl rfl rfl ?_
              refine G_S (pc := 58) f_142_58 rfl rfl rfl ?_
              have e := ih (by omega)
              rw [show 2 * (i + 1) + 1 = 2 * i + 1 + Int.toNat 2 by omega] at e
              first
                | (rw [bestF_no (show ¬ haP D i = true from fun q => b2 (band.mp q).1)] at e; exact e)
                | (rw [bestF_no (show ¬ haP D i = true from fun q => b3 (band.mp q).2)] at e; exact e)
                | (rw [bestF_first (show haP D i = true from band.mpr ⟨b2, b3⟩) (hI_m1 (fun c hc => by have := (q3 c hc).1; omega) b4)] at e; exact e)
                | (rw [bestF_new (show haP D i = true from band.mpr ⟨b2, b3⟩) hc (decide_eq_true (by omega))] at e; exact e)
                | (rw [bestF_keep hc (fun q => absurd (of_decide_eq_true q) (by omega))] at e; exact e)
            · refine G_S (pc := 53) f_142_53 rfl rfl rfl ?_
              refine G_S (pc := 54) f_142_54 rfl rfl rfl ?_
              first | refine G_incN (pc := 55) f_142_55 rfl (by decide) ?_ | refine G_incZ (pc := 55) f_142_55 rfl (by first | rfl | exact nI_zI _) ?_ | refine G_S (pc := 55) f_142_55 rfl rfl rfl ?_
              refine G_S (pc := 58) f_142_58 rfl rfl rfl ?_
              have e := ih (by omega)
              rw [show 2 * (i + 1) + 1 = 2 * i + 1 + Int.toNat 2 by omega] at e
              first
                | (rw [bestF_no (show ¬ haP D i = true from fun q => b2 (band.mp q).1)] at e; exact e)
                | (rw [bestF_no (show ¬ haP D i = true from fun q => b3 (band.mp q).2)] at e; exact e)
                | (rw [bestF_first (show haP D i = true from band.mpr ⟨b2, b3⟩) (hI_m1 (fun c hc => by have := (q3 c hc).1; omega) b4)] at e; exact e)
                | (rw [bestF_new (show haP D i = true from band.mpr ⟨b2, b3⟩) hc (decide_eq_true (by omega))] at e; exact e)
                | (rw [bestF_keep hc (fun q => absurd (of_decide_eq_true q) (by omega))] at e; exact e)
  refine CG_in (mL := 3) (hl := false) (lv := [some (.ref 85), none, none]) (ll := []) rfl rfl rfl ?_
  refine G_ic (v := zI (-1)) (pc := 0) f_142_0 (by decide) ?_
  refine G_S (pc := 1) f_142_1 rfl rfl rfl ?_
  refine G_ic (v := nI 1) (pc := 2) f_142_2 (by decide) ?_
  refine G_S (pc := 3) f_142_3 rfl rfl rfl ?_
  exact loop 0 (Nat.zero_le _)
end CZ
