/-! what is asked of rides and days: the class's answers -/
section CRU
variable {C : Ct} {M : Mm} {n m : Nat} {L : Nat → Nat → Nat} {P : Nat → Nat → Int} {k i x y s : Int32} {D : Nat → Nat} {R : Nat → Int}
theorem c_deed (W : CRs M n P) : CG C 153 [.ref 0, .int k, .int y, .int x] M (fun w M' => w = some (.int (aRid (rid n P k) (zI (-2)) (fun R => deF R y x))) ∧ Fc CS M M') := by
  have hK := W.1
  cases hl : rid n P k with
  | none =>
    refine CG_in (mL := 5) (hl := false) (lv := [some (.ref 0), some (.int k), some (.int y), some (.int x), none]) (ll := []) rfl rfl rfl ?_
    refine G_S (pc := 0) f_153_0 rfl rfl rfl ?_
    refine G_S (pc := 1) f_153_1 rfl rfl rfl ?_
    refine G_CV (pc := 2) f_153_2 rfl rfl (by decide) rfl rfl (by first | assumption | exact hK.1 _ _ rfl) (by decide) ⟨Nat.le_of_ble_eq_true rfl, Nat.le_of_ble_eq_true rfl⟩ ?_
    refine CG.go (c_rideAtN W hl) ?_
    refine G_S (pc := 5) f_153_5 rfl rfl rfl ?_
    refine G_S (pc := 7) f_153_7 rfl rfl rfl ?_
    refine G_S (pc := 9) f_153_9 rfl rfl rfl ?_
    refine G_bi (v := zI (-2)) (pc := 12) f_153_12 (by decide) ?_
    refine G_S (pc := 14) f_153_14 rfl rfl rfl ?_
    refine G_ri (pc := 24) f_153_24 ?_
    exact ⟨rfl, Fc.rf⟩
  | some R =>
    obtain ⟨l, h1, rfl, rfl⟩ := rid_some hl
    have V := W.2.2.2 l h1
    have hn2 := W.2.2.1
    have hv6 : 15 + 22 * l < 1000000 := by omega
    have t0 := V.2.1.1.1
    refine CG_in (mL := 5) (hl := false) (lv := [some (.ref 0), some (.int (nI l)), some (.int y), some (.int x), none]) (ll := []) rfl rfl rfl ?_
    refine G_S (pc := 0) f_153_0 rfl rfl rfl ?_
    refine G_S (pc := 1) f_153_1 rfl rfl rfl ?_
    refine G_CV (pc := 2) f_153_2 rfl rfl (by decide) rfl rfl (by first | assumption | exact hK.1 _ _ rfl) (by decide) ⟨Nat.le_of_ble_eq_true rfl, Nat.le_of_ble_eq_true rfl⟩ ?_
    refine CG.go (c_rideAtL W h1) ?_
    refine G_S (pc := 5) f_153_5 rfl rfl rfl ?_
    refine G_S (pc := 7) f_153_7 rfl rfl rfl ?_
    refine G_S (pc := 9) f_153_9 rfl rfl (if_pos (by first | assumption | omega)) ?_
    refine G_S (pc := 17) f_153_17 rfl rfl rfl ?_
    refine G_S (pc := 19) f_153_19 rfl rfl rfl ?_
    refine G_S (pc := 20) f_153_20 rfl rfl rfl ?_
    refine G_CV (pc := 21) f_153_21 rfl rfl (by decide) rfl rfl (by first | assumption | exact hK.1 _ _ rfl) (by decide) ⟨Nat.le_of_ble_eq_true rfl, Nat.le_of_ble_eq_true rfl⟩ ?_
    refine CG.go (r_answer V) ?_
    refine G_ri (pc := 24) f_153_24 ?_
    exact ⟨rfl, Fc.rf⟩
theorem c_stop (W : CLs M n L) (Wr : CRs M m P) : CG C 154 [.ref 0, .int k, .int i] M (fun w M' => w = some (.int (aStop (lin n L k) (rid m P i))) ∧ Fc CS M M') := by
  have hK := W.1
  cases hl : lin n L k with
  | none =>
    cases hr : rid m P i with
    | none =>
      refine CG_in (mL := 5) (hl := false) (lv := [some (.ref 0), some (.int k), some (.int i), none, none]) (ll := []) rfl rfl rfl ?_
      refine G_S (pc := 0) f_154_0 rfl rfl rfl ?_
      refine G_S (pc := 1) f_154_1 rfl rfl rfl ?_
      refine G_CV (pc := 2) f_154_2 rfl rfl (by decide) rfl rfl (by first | assumption | exact hK.1 _ _ rfl) (by decide) ⟨Nat.le_of_ble_eq_true rfl, Nat.le_of_ble_eq_true rfl⟩ ?_
      refine CG.go (c_lineAtN W hl) ?_
      refine G_S (pc := 5) f_154_5 rfl rfl rfl ?_
      refine G_S (pc := 6) f_154_6 rfl rfl rfl ?_
      refine G_S (pc := 7) f_154_7 rfl rfl rfl ?_
      refine G_CV (pc := 8) f_154_8 rfl rfl (by decide) rfl rfl (by first | assumption | exact hK.1 _ _ rfl) (by decide) ⟨Nat.le_of_ble_eq_true rfl, Nat.le_of_ble_eq_true rfl⟩ ?_
      refine CG.go (c_rideAtN Wr hr) ?_
      refine G_S (pc := 11) f_154_11 rfl rfl rfl ?_
      refine G_S (pc := 13) f_154_13 rfl rfl rfl ?_
      refine G_S (pc := 14) f_154_14 rfl rfl rfl ?_
      refine G_ic (v := zI (-1)) (pc := 22) f_154_22 (by decide) ?_
      refine G_ri (pc := 23) f_154_23 ?_
      exact ⟨rfl, Fc.rf⟩
    | some R =>
      obtain ⟨l, h1, rfl, rfl⟩ := rid_some hr
      refine CG_in (mL := 5) (hl := false) (lv := [some (.ref 0), some (.int k), some (.int (nI l)), none, none]) (ll := []) rfl rfl rfl ?_
      refine G_S (pc := 0) f_154_0 rfl rfl rfl ?_
      refine G_S (pc := 1) f_154_1 rfl rfl rfl ?_
      refine G_CV (pc := 2) f_154_2 rfl rfl (by decide) rfl rfl (by first | assumption | exact hK.1 _ _ rfl) (by decide) ⟨Nat.le_of_ble_eq_true rfl, Nat.le_of_ble_eq_true rfl⟩ ?_
      refine CG.go (c_lineAtN W hl) ?_
      refine G_S (pc := 5) f_154_5 rfl rfl rfl ?_
      refine G_S (pc := 6) f_154_6 rfl rfl rfl ?_
      refine G_S (pc := 7) f_154_7 rfl rfl rfl ?_
      refine G_CV (pc := 8) f_154_8 rfl rfl (by decide) rfl rfl (by first | assumption | exact hK.1 _ _ rfl) (by decide) ⟨Nat.le_of_ble_eq_true rfl, Nat.le_of_ble_eq_true rfl⟩ ?_
      refine CG.go (c_rideAtL Wr h1) ?_
      refine G_S (pc := 11) f_154_11 rfl rfl rfl ?_
      refine G_S (pc := 13) f_154_13 rfl rfl rfl ?_
      refine G_S (pc := 14) f_154_14 rfl rfl rfl ?_
      refine G_ic (v := zI (-1)) (pc := 22) f_154_22 (by decide) ?_
      refine G_ri (pc := 23) f_154_23 ?_
      exact ⟨rfl, Fc.rf⟩
  | some D =>
    cases hr : rid m P i with
    | none =>
      refine CG_in (mL := 5) (hl := false) (lv := [some (.ref 0), some (.int k), some (.int i), none, none]) (ll := []) rfl rfl rfl ?_
      refine G_S (pc := 0) f_154_0 rfl rfl rfl ?_
      refine G_S (pc := 1) f_154_1 rfl rfl rfl ?_
      refine G_CV (pc := 2) f_154_2 rfl rfl (by decide) rfl rfl (by first | assumption | exact hK.1 _ _ rfl) (by decide) ⟨Nat.le_of_ble_eq_true rfl, Nat.le_of_ble_eq_true rfl⟩ ?_
      refine CG.mono (c_lineAtS W hl) ?_
      rintro _ M1 ⟨⟨h, rfl, W1⟩, rfl⟩
      have hK := W1.1
      obtain ⟨⟨t0, t1, t2, t3, t4, t5, t6⟩, r0, r3, r4, r6, r7, r8⟩ := W1.2.1
      obtain ⟨hD, ⟨v0, v1, v2⟩, vh, vr, vw, vf⟩ := W1.2.2.1
      have hs := W1.2.2.2.1
      have hh := W1.2.2.2.2
      have hn0 : _ ≤ 8 := hD.1
      have hn1 : _ ≤ 6 := hD.2.1.2
      have hn2 : _ ≤ 8 := hD.2.2.1
      refine G_S (pc := 5) f_154_5 rfl rfl rfl ?_
      refine G_S (pc := 6) f_154_6 rfl rfl rfl ?_
      refine G_S (pc := 7) f_154_7 rfl rfl rfl ?_
      refine G_CV (pc := 8) f_154_8 rfl rfl (by decide) rfl rfl (by first | assumption | exact hK.1 _ _ rfl) (by decide) ⟨Nat.le_of_ble_eq_true rfl, Nat.le_of_ble_eq_true rfl⟩ ?_
      refine CG.go (c_rideAtN Wr hr) ?_
      refine G_S (pc := 11) f_154_11 rfl rfl rfl ?_
      refine G_S (pc := 13) f_154_13 rfl rfl rfl ?_
      refine G_S (pc := 14) f_154_14 rfl rfl (if_pos (by first | assumption | omega)) ?_
      refine G_S (pc := 17) f_154_17 rfl rfl rfl ?_
      refine G_S (pc := 19) f_154_19 rfl rfl rfl ?_
      refine G_ic (v := zI (-1)) (pc := 22) f_154_22 (by decide) ?_
      refine G_ri (pc := 23) f_154_23 ?_
      exact ⟨rfl, Fc.rf⟩
    | some R =>
      obtain ⟨l, h1, rfl, rfl⟩ := rid_some hr
      have V := Wr.2.2.2 l h1
      have hm2 := Wr.2.2.1
      have hv6 : 15 + 22 * l < 1000000 := by omega
      have hR0 := V.2.2.1.1.1
      obtain ⟨c, hc⟩ : ∃ c : Nat, P l 0 = (c : Int) := ⟨(P l 0).toNat, by omega⟩
      have hcc : (P l 0).toNat = c := by omega
      refine CG_in (mL := 5) (hl := false) (lv := [some (.ref 0), some (.int k), some (.int (nI l)), none, none]) (ll := []) rfl rfl rfl ?_
      refine G_S (pc := 0) f_154_0 rfl rfl rfl ?_
      refine G_S (pc := 1) f_154_1 rfl rfl rfl ?_
      refine G_CV (pc := 2) f_154_2 rfl rfl (by decide) rfl rfl (by first | assumption | exact hK.1 _ _ rfl) (by decide) ⟨Nat.le_of_ble_eq_true rfl, Nat.le_of_ble_eq_true rfl⟩ ?_
      refine CG.mono (c_lineAtS W hl) ?_
      rintro _ M1 ⟨⟨h, rfl, W1⟩, rfl⟩
      have hK := W1.1
      obtain ⟨⟨t0, t1, t2, t3, t4, t5, t6⟩, r0, r3, r4, r6, r7, r8⟩ := W1.2.1
      obtain ⟨hD, ⟨v0, v1, v2⟩, vh, vr, vw, vf⟩ := W1.2.2.1
      have hs := W1.2.2.2.1
      have hh := W1.2.2.2.2
      have hn0 : _ ≤ 8 := hD.1
      have hn1 : _ ≤ 6 := hD.2.1.2
      have hn2 : _ ≤ 8 := hD.2.2.1
      refine G_S (pc := 5) f_154_5 rfl rfl rfl ?_
      refine G_S (pc := 6) f_154_6 rfl rfl rfl ?_
      refine G_S (pc := 7) f_154_7 rfl rfl rfl ?_
      refine G_CV (pc := 8) f_154_8 rfl rfl (by decide) rfl rfl (by first | assumption | exact hK.1 _ _ rfl) (by decide) ⟨Nat.le_of_ble_eq_true rfl, Nat.le_of_ble_eq_true rfl⟩ ?_
      refine CG.go (c_rideAtL Wr h1) ?_
      refine G_S (pc := 11) f_154_11 rfl rfl rfl ?_
      refine G_S (pc := 13) f_154_13 rfl rfl rfl ?_
      refine G_S (pc := 14) f_154_14 rfl rfl (if_pos (by first | assumption | omega)) ?_
      refine G_S (pc := 17) f_154_17 rfl rfl rfl ?_
      refine G_S (pc := 19) f_154_19 rfl rfl (if_pos (by first | assumption | omega)) ?_
      refine G_S (pc := 24) f_154_24 rfl rfl rfl ?_
      refine G_gR (pc := 25) f_154_25 (by decide) rfl (by first | assumption | exact hK.1 _ _ rfl) (by first | assumption | exact hK.2 _ _ _ rfl | (try dsimp only) <;> (repeat (first | exact up2_s | refine up2_o (by first | decide | omega) ?_)) <;> first | assumption | exact hK.2 _ _ _ rfl) ?_
      refine G_S (pc := 28) f_154_28 rfl rfl rfl ?_
      refine G_CV (pc := 29) f_154_29 rfl rfl (by decide) rfl rfl (by first | assumption | exact hK.1 _ _ rfl) (by decide) ⟨Nat.le_of_ble_eq_true rfl, Nat.le_of_ble_eq_true rfl⟩ ?_
      refine CG.mono (t_begin W1) ?_
      rintro _ M2 ⟨rfl, hF, W2⟩
      have V2 := V.fc hF (fun j hj => (TFo j hj).1)
      have hK := W2.1.1
      have t0' := V2.2.1.1.1
      have e' : M2.2.1 (15 + 22 * l) 3 = nI c := by rw [V2.2.2.1.2.1, hc, nI_zI]
      refine G_S (pc := 32) f_154_32 rfl rfl rfl ?_
      refine G_gR (pc := 33) f_154_33 (by decide) rfl (by first | assumption | exact hK.1 _ _ rfl) (by first | assumption | exact hK.2 _ _ _ rfl | (try dsimp only) <;> (repeat (first | exact up2_s | refine up2_o (by first | decide | omega) ?_)) <;> first | assumption | exact hK.2 _ _ _ rfl) ?_
      refine G_S (pc := 36) f_154_36 rfl rfl rfl ?_
      refine G_S (pc := 38) f_154_38 rfl rfl rfl ?_
      refine G_gIv (pc := 40) f_154_40 (by decide) rfl (by decide) (by first | assumption | exact hK.1 _ _ rfl) (e') ?_
      refine G_CV (pc := 43) f_154_43 rfl rfl (by decide) rfl rfl (by first | assumption | exact hK.1 _ _ rfl) (by decide) ⟨Nat.le_of_ble_eq_true rfl, Nat.le_of_ble_eq_true rfl⟩ ?_
      refine CG.mono (t_follow W2 V2 (by omega)) ?_
      rintro _ M3 ⟨rfl, hF3, _⟩
      refine G_ri (pc := 46) f_154_46 ?_
      refine ⟨?_, (hF.tr hF3).sub (by decide)⟩
      show _ = some (Value.int (nI (rnF D (P l) (P l 0).toNat 0 S0 (fun r => D (19 + r))).1))
      rw [hcc]
theorem c_state (W : CLs M n L) (Wr : CRs M m P) : CG C 155 [.ref 0, .int k, .int i, .int y, .int x] M (fun w M' => w = some (.int (aState (lin n L k) (rid m P i) y x)) ∧ Fc CS M M') := by
  have hK := W.1
  cases hl : lin n L k with
  | none =>
    cases hr : rid m P i with
    | none =>
      refine CG_in (mL := 7) (hl := false) (lv := [some (.ref 0), some (.int k), some (.int i), some (.int y), some (.int x), none, none]) (ll := []) rfl rfl rfl ?_
      refine G_S (pc := 0) f_155_0 rfl rfl rfl ?_
      refine G_S (pc := 1) f_155_1 rfl rfl rfl ?_
      refine G_CV (pc := 2) f_155_2 rfl rfl (by decide) rfl rfl (by first | assumption | exact hK.1 _ _ rfl) (by decide) ⟨Nat.le_of_ble_eq_true rfl, Nat.le_of_ble_eq_true rfl⟩ ?_
      refine CG.go (c_lineAtN W hl) ?_
      refine G_S (pc := 5) f_155_5 rfl rfl rfl ?_
      refine G_S (pc := 7) f_155_7 rfl rfl rfl ?_
      refine G_S (pc := 8) f_155_8 rfl rfl rfl ?_
      refine G_CV (pc := 9) f_155_9 rfl rfl (by decide) rfl rfl (by first | assumption | exact hK.1 _ _ rfl) (by decide) ⟨Nat.le_of_ble_eq_true rfl, Nat.le_of_ble_eq_true rfl⟩ ?_
      refine CG.go (c_rideAtN Wr hr) ?_
      refine G_S (pc := 12) f_155_12 rfl rfl rfl ?_
      refine G_S (pc := 14) f_155_14 rfl rfl rfl ?_
      refine G_S (pc := 16) f_155_16 rfl rfl rfl ?_
      refine G_bi (v := zI (-2)) (pc := 37) f_155_37 (by decide) ?_
      refine G_ri (pc := 39) f_155_39 ?_
      exact ⟨rfl, Fc.rf⟩
    | some R =>
      obtain ⟨l, h1, rfl, rfl⟩ := rid_some hr
      refine CG_in (mL := 7) (hl := false) (lv := [some (.ref 0), some (.int k), some (.int (nI l)), some (.int y), some (.int x), none, none]) (ll := []) rfl rfl rfl ?_
      refine G_S (pc := 0) f_155_0 rfl rfl rfl ?_
      refine G_S (pc := 1) f_155_1 rfl rfl rfl ?_
      refine G_CV (pc := 2) f_155_2 rfl rfl (by decide) rfl rfl (by first | assumption | exact hK.1 _ _ rfl) (by decide) ⟨Nat.le_of_ble_eq_true rfl, Nat.le_of_ble_eq_true rfl⟩ ?_
      refine CG.go (c_lineAtN W hl) ?_
      refine G_S (pc := 5) f_155_5 rfl rfl rfl ?_
      refine G_S (pc := 7) f_155_7 rfl rfl rfl ?_
      refine G_S (pc := 8) f_155_8 rfl rfl rfl ?_
      refine G_CV (pc := 9) f_155_9 rfl rfl (by decide) rfl rfl (by first | assumption | exact hK.1 _ _ rfl) (by decide) ⟨Nat.le_of_ble_eq_true rfl, Nat.le_of_ble_eq_true rfl⟩ ?_
      refine CG.go (c_rideAtL Wr h1) ?_
      refine G_S (pc := 12) f_155_12 rfl rfl rfl ?_
      refine G_S (pc := 14) f_155_14 rfl rfl rfl ?_
      refine G_S (pc := 16) f_155_16 rfl rfl rfl ?_
      refine G_bi (v := zI (-2)) (pc := 37) f_155_37 (by decide) ?_
      refine G_ri (pc := 39) f_155_39 ?_
      exact ⟨rfl, Fc.rf⟩
  | some D =>
    cases hr : rid m P i with
    | none =>
      refine CG_in (mL := 7) (hl := false) (lv := [some (.ref 0), some (.int k), some (.int i), some (.int y), some (.int x), none, none]) (ll := []) rfl rfl rfl ?_
      refine G_S (pc := 0) f_155_0 rfl rfl rfl ?_
      refine G_S (pc := 1) f_155_1 rfl rfl rfl ?_
      refine G_CV (pc := 2) f_155_2 rfl rfl (by decide) rfl rfl (by first | assumption | exact hK.1 _ _ rfl) (by decide) ⟨Nat.le_of_ble_eq_true rfl, Nat.le_of_ble_eq_true rfl⟩ ?_
      refine CG.mono (c_lineAtS W hl) ?_
      rintro _ M1 ⟨⟨h, rfl, W1⟩, rfl⟩
      have hK := W1.1
      obtain ⟨⟨t0, t1, t2, t3, t4, t5, t6⟩, r0, r3, r4, r6, r7, r8⟩ := W1.2.1
      obtain ⟨hD, ⟨v0, v1, v2⟩, vh, vr, vw, vf⟩ := W1.2.2.1
      have hs := W1.2.2.2.1
      have hh := W1.2.2.2.2
      have hn0 : _ ≤ 8 := hD.1
      have hn1 : _ ≤ 6 := hD.2.1.2
      have hn2 : _ ≤ 8 := hD.2.2.1
      refine G_S (pc := 5) f_155_5 rfl rfl rfl ?_
      refine G_S (pc := 7) f_155_7 rfl rfl rfl ?_
      refine G_S (pc := 8) f_155_8 rfl rfl rfl ?_
      refine G_CV (pc := 9) f_155_9 rfl rfl (by decide) rfl rfl (by first | assumption | exact hK.1 _ _ rfl) (by decide) ⟨Nat.le_of_ble_eq_true rfl, Nat.le_of_ble_eq_true rfl⟩ ?_
      refine CG.go (c_rideAtN Wr hr) ?_
      refine G_S (pc := 12) f_155_12 rfl rfl rfl ?_
      refine G_S (pc := 14) f_155_14 rfl rfl rfl ?_
      refine G_S (pc := 16) f_155_16 rfl rfl (if_pos (by first | assumption | omega)) ?_
      refine G_S (pc := 19) f_155_19 rfl rfl rfl ?_
      refine G_S (pc := 21) f_155_21 rfl rfl rfl ?_
      refine G_bi (v := zI (-2)) (pc := 37) f_155_37 (by decide) ?_
      refine G_ri (pc := 39) f_155_39 ?_
      exact ⟨rfl, Fc.rf⟩
    | some R =>
      obtain ⟨l, h1, rfl, rfl⟩ := rid_some hr
      have V := Wr.2.2.2 l h1
      have hm2 := Wr.2.2.1
      have hv6 : 15 + 22 * l < 1000000 := by omega
      have hR0 := V.2.2.1.1.1
      have e0 := V.2.2.1.2.1
      have t0v := V.2.1.1.1
      show CG C 155 [.ref 0, .int k, .int (nI l), .int y, .int x] M (fun w M' => w = some (.int (stF D (P l) y x)) ∧ Fc CS M M')
      by_cases hy : 0 ≤ y.toInt ∧ y.toInt ≤ P l 0
      · obtain ⟨c, hc, rfl⟩ := i_nat (x := y) (n := 41) hy.1 (by omega)
        rw [nI_toInt (by omega)] at hy
        have hle := rnF_le D (P l) c 0 S0 (fun r => D (19 + r))
        refine CG_in (mL := 7) (hl := false) (lv := [some (.ref 0), some (.int k), some (.int (nI l)), some (.int (nI c)), some (.int x), none, none]) (ll := []) rfl rfl rfl ?_
        refine G_S (pc := 0) f_155_0 rfl rfl rfl ?_
        refine G_S (pc := 1) f_155_1 rfl rfl rfl ?_
        refine G_CV (pc := 2) f_155_2 rfl rfl (by decide) rfl rfl (by first | assumption | exact hK.1 _ _ rfl) (by decide) ⟨Nat.le_of_ble_eq_true rfl, Nat.le_of_ble_eq_true rfl⟩ ?_
        refine CG.mono (c_lineAtS W hl) ?_
        rintro _ M1 ⟨⟨h, rfl, W1⟩, rfl⟩
        have hK := W1.1
        obtain ⟨⟨t0, t1, t2, t3, t4, t5, t6⟩, r0, r3, r4, r6, r7, r8⟩ := W1.2.1
        obtain ⟨hD, ⟨v0, v1, v2⟩, vh, vr, vw, vf⟩ := W1.2.2.1
        have hs := W1.2.2.2.1
        have hh := W1.2.2.2.2
        have hn0 : _ ≤ 8 := hD.1
        have hn1 : _ ≤ 6 := hD.2.1.2
        have hn2 : _ ≤ 8 := hD.2.2.1
        refine G_S (pc := 5) f_155_5 rfl rfl rfl ?_
        refine G_S (pc := 7) f_155_7 rfl rfl rfl ?_
        refine G_S (pc := 8) f_155_8 rfl rfl rfl ?_
        refine G_CV (pc := 9) f_155_9 rfl rfl (by decide) rfl rfl (by first | assumption | exact hK.1 _ _ rfl) (by decide) ⟨Nat.le_of_ble_eq_true rfl, Nat.le_of_ble_eq_true rfl⟩ ?_
        refine CG.go (c_rideAtL Wr h1) ?_
        refine G_S (pc := 12) f_155_12 rfl rfl rfl ?_
        refine G_S (pc := 14) f_155_14 rfl rfl rfl ?_
        refine G_S (pc := 16) f_155_16 rfl rfl (if_pos (by first | assumption | omega)) ?_
        refine G_S (pc := 19) f_155_19 rfl rfl rfl ?_
        refine G_S (pc := 21) f_155_21 rfl rfl (if_pos (by first | assumption | omega)) ?_
        refine G_S (pc := 24) f_155_24 rfl rfl rfl ?_
        refine G_zltZ (pc := 25) f_155_25 rfl (by first | exact nI_toInt (by omega) | exact zI_toInt (by omega) (by omega) | rfl) (fun b3 => ?_) (fun b3 => ?_)
        · exfalso; omega
        · refine G_S (pc := 28) f_155_28 rfl rfl rfl ?_
          refine G_S (pc := 29) f_155_29 rfl rfl rfl ?_
          refine G_gIv (pc := 31) f_155_31 (by decide) rfl (by decide) (by first | assumption | exact hK.1 _ _ rfl) (by first | assumption | exact mI_s | ((refine mI_o (by first | decide | omega) ?_); (repeat (refine mI_o (by first | decide | omega) ?_)); first | exact mI_s | assumption) | rfl) ?_
          refine G_jleZ (pc := 34) f_155_34 rfl (by first | exact nI_toInt (by omega) | exact zI_toInt (by omega) (by omega) | rfl) (by first | exact nI_toInt (by omega) | exact zI_toInt (by omega) (by omega) | rfl) (fun b4 => ?_) (fun b4 => ?_)
          · refine G_S (pc := 40) f_155_40 rfl rfl rfl ?_
            refine G_gR (pc := 41) f_155_41 (by decide) rfl (by first | assumption | exact hK.1 _ _ rfl) (by first | assumption | exact hK.2 _ _ _ rfl | (try dsimp only) <;> (repeat (first | exact up2_s | refine up2_o (by first | decide | omega) ?_)) <;> first | assumption | exact hK.2 _ _ _ rfl) ?_
            refine G_S (pc := 44) f_155_44 rfl rfl rfl ?_
            refine G_CV (pc := 46) f_155_46 rfl rfl (by decide) rfl rfl (by first | assumption | exact hK.1 _ _ rfl) (by decide) ⟨Nat.le_of_ble_eq_true rfl, Nat.le_of_ble_eq_true rfl⟩ ?_
            refine CG.mono (t_begin W1) ?_
            rintro _ M2 ⟨rfl, hF, W2⟩
            have V2 := V.fc hF (fun j hj => (TFo j hj).1)
            have hK := W2.1.1
            refine G_S (pc := 49) f_155_49 rfl rfl rfl ?_
            refine G_gR (pc := 50) f_155_50 (by decide) rfl (by first | assumption | exact hK.1 _ _ rfl) (by first | assumption | exact hK.2 _ _ _ rfl | (try dsimp only) <;> (repeat (first | exact up2_s | refine up2_o (by first | decide | omega) ?_)) <;> first | assumption | exact hK.2 _ _ _ rfl) ?_
            refine G_S (pc := 53) f_155_53 rfl rfl rfl ?_
            refine G_S (pc := 55) f_155_55 rfl rfl rfl ?_
            refine G_CV (pc := 56) f_155_56 rfl rfl (by decide) rfl rfl (by first | assumption | exact hK.1 _ _ rfl) (by decide) ⟨Nat.le_of_ble_eq_true rfl, Nat.le_of_ble_eq_true rfl⟩ ?_
            refine CG.mono (t_follow W2 V2 hy.2) ?_
            rintro _ M3 ⟨rfl, hF3, W3⟩
            have hK := hF3.K hK
            refine G_S (pc := 59) f_155_59 rfl rfl rfl ?_
            refine G_jgeZ (pc := 60) f_155_60 rfl (by first | exact nI_toInt (by omega) | exact zI_toInt (by omega) (by omega) | rfl) (by first | exact nI_toInt (by omega) | exact zI_toInt (by omega) (by omega) | rfl) (fun b5 => ?_) (fun b5 => ?_)
            · have W3 := W3 (by omega)
              refine G_S (pc := 68) f_155_68 rfl rfl rfl ?_
              refine G_gR (pc := 69) f_155_69 (by decide) rfl (by first | assumption | exact hK.1 _ _ rfl) (by first | assumption | exact hK.2 _ _ _ rfl | (try dsimp only) <;> (repeat (first | exact up2_s | refine up2_o (by first | decide | omega) ?_)) <;> first | assumption | exact hK.2 _ _ _ rfl) ?_
              refine G_S (pc := 72) f_155_72 rfl rfl rfl ?_
              refine G_CV (pc := 74) f_155_74 rfl rfl (by decide) rfl rfl (by first | assumption | exact hK.1 _ _ rfl) (by decide) ⟨Nat.le_of_ble_eq_true rfl, Nat.le_of_ble_eq_true rfl⟩ ?_
              refine CG.go (t_answer W3) ?_
              refine G_ri (pc := 77) f_155_77 ?_
              refine ⟨?_, (hF.tr hF3).sub (by decide)⟩
              unfold stF
              rw [nI_toInt (by omega), Int.toNat_natCast, if_pos hy]
              first
                | rw [if_pos (by omega)]
                | rw [if_neg (by omega)]
            · refine G_bi (v := zI (-2)) (pc := 63) f_155_63 (by decide) ?_
              refine G_S (pc := 65) f_155_65 rfl rfl rfl ?_
              refine G_ri (pc := 77) f_155_77 ?_
              refine ⟨?_, (hF.tr hF3).sub (by decide)⟩
              unfold stF
              rw [nI_toInt (by omega), Int.toNat_natCast, if_pos hy]
              first
                | rw [if_pos (by omega)]
                | rw [if_neg (by omega)]
          · exfalso; omega
      · refine CG_in (mL := 7) (hl := false) (lv := [some (.ref 0), some (.int k), some (.int (nI l)), some (.int y), some (.int x), none, none]) (ll := []) rfl rfl rfl ?_
        refine G_S (pc := 0) f_155_0 rfl rfl rfl ?_
        refine G_S (pc := 1) f_155_1 rfl rfl rfl ?_
        refine G_CV (pc := 2) f_155_2 rfl rfl (by decide) rfl rfl (by first | assumption | exact hK.1 _ _ rfl) (by decide) ⟨Nat.le_of_ble_eq_true rfl, Nat.le_of_ble_eq_true rfl⟩ ?_
        refine CG.mono (c_lineAtS W hl) ?_
        rintro _ M1 ⟨⟨h, rfl, W1⟩, rfl⟩
        have hK := W1.1
        obtain ⟨⟨t0, t1, t2, t3, t4, t5, t6⟩, r0, r3, r4, r6, r7, r8⟩ := W1.2.1
        obtain ⟨hD, ⟨v0, v1, v2⟩, vh, vr, vw, vf⟩ := W1.2.2.1
        have hs := W1.2.2.2.1
        have hh := W1.2.2.2.2
        have hn0 : _ ≤ 8 := hD.1
        have hn1 : _ ≤ 6 := hD.2.1.2
        have hn2 : _ ≤ 8 := hD.2.2.1
        refine G_S (pc := 5) f_155_5 rfl rfl rfl ?_
        refine G_S (pc := 7) f_155_7 rfl rfl rfl ?_
        refine G_S (pc := 8) f_155_8 rfl rfl rfl ?_
        refine G_CV (pc := 9) f_155_9 rfl rfl (by decide) rfl rfl (by first | assumption | exact hK.1 _ _ rfl) (by decide) ⟨Nat.le_of_ble_eq_true rfl, Nat.le_of_ble_eq_true rfl⟩ ?_
        refine CG.go (c_rideAtL Wr h1) ?_
        refine G_S (pc := 12) f_155_12 rfl rfl rfl ?_
        refine G_S (pc := 14) f_155_14 rfl rfl rfl ?_
        refine G_S (pc := 16) f_155_16 rfl rfl (if_pos (by first | assumption | omega)) ?_
        refine G_S (pc := 19) f_155_19 rfl rfl rfl ?_
        refine G_S (pc := 21) f_155_21 rfl rfl (if_pos (by first | assumption | omega)) ?_
        refine G_S (pc := 24) f_155_24 rfl rfl rfl ?_
        refine G_zltZ (pc := 25) f_155_25 rfl (by first | exact nI_toInt (by omega) | exact zI_toInt (by omega) (by omega) | rfl) (fun b3 => ?_) (fun b3 => ?_)
        · refine G_bi (v := zI (-2)) (pc := 37) f_155_37 (by decide) ?_
          refine G_ri (pc := 39) f_155_39 ?_
          exact ⟨by unfold stF; rw [if_neg hy], Fc.rf⟩
        · refine G_S (pc := 28) f_155_28 rfl rfl rfl ?_
          refine G_S (pc := 29) f_155_29 rfl rfl rfl ?_
          refine G_gIv (pc := 31) f_155_31 (by decide) rfl (by decide) (by first | assumption | exact hK.1 _ _ rfl) (by first | assumption | exact mI_s | ((refine mI_o (by first | decide | omega) ?_); (repeat (refine mI_o (by first | decide | omega) ?_)); first | exact mI_s | assumption) | rfl) ?_
          refine G_jleZ (pc := 34) f_155_34 rfl (by first | exact nI_toInt (by omega) | exact zI_toInt (by omega) (by omega) | rfl) (by first | exact nI_toInt (by omega) | exact zI_toInt (by omega) (by omega) | rfl) (fun b4 => ?_) (fun b4 => ?_)
          · exfalso; omega
          · refine G_bi (v := zI (-2)) (pc := 37) f_155_37 (by decide) ?_
            refine G_ri (pc := 39) f_155_39 ?_
            exact ⟨by unfold stF; rw [if_neg hy], Fc.rf⟩
theorem c_drawn (W : CLs M n L) : CG C 156 [.ref 0, .int k, .int s, .int y, .int x] M (fun w M' => w = some (.int (aLin (lin n L k) (zI (-2)) (fun D => drwF D s y x))) ∧ Fc CS M M') := by
  have hK := W.1
  cases hl : lin n L k with
  | none =>
    refine CG_in (mL := 6) (hl := false) (lv := [some (.ref 0), some (.int k), some (.int s), some (.int y), some (.int x), none]) (ll := []) rfl rfl rfl ?_
    refine G_S (pc := 0) f_156_0 rfl rfl rfl ?_
    refine G_S (pc := 1) f_156_1 rfl rfl rfl ?_
    refine G_CV (pc := 2) f_156_2 rfl rfl (by decide) rfl rfl (by first | assumption | exact hK.1 _ _ rfl) (by decide) ⟨Nat.le_of_ble_eq_true rfl, Nat.le_of_ble_eq_true rfl⟩ ?_
    refine CG.go (c_lineAtN W hl) ?_
    refine G_S (pc := 5) f_156_5 rfl rfl rfl ?_
    refine G_S (pc := 7) f_156_7 rfl rfl rfl ?_
    refine G_S (pc := 9) f_156_9 rfl rfl rfl ?_
    refine G_bi (v := zI (-2)) (pc := 30) f_156_30 (by decide) ?_
    refine G_ri (pc := 32) f_156_32 ?_
    exact ⟨rfl, Fc.rf⟩
  | some D =>
    show CG C 156 [.ref 0, .int k, .int s, .int y, .int x] M (fun w M' => w = some (.int (drwF D s y x)) ∧ Fc CS M M')
    refine CG_in (mL := 6) (hl := false) (lv := [some (.ref 0), some (.int k), some (.int s), some (.int y), some (.int x), none]) (ll := []) rfl rfl rfl ?_
    refine G_S (pc := 0) f_156_0 rfl rfl rfl ?_
    refine G_S (pc := 1) f_156_1 rfl rfl rfl ?_
    refine G_CV (pc := 2) f_156_2 rfl rfl (by decide) rfl rfl (by first | assumption | exact hK.1 _ _ rfl) (by decide) ⟨Nat.le_of_ble_eq_true rfl, Nat.le_of_ble_eq_true rfl⟩ ?_
    refine CG.mono (c_lineAtS W hl) ?_
    rintro _ M1 ⟨⟨h, rfl, W1⟩, rfl⟩
    have hK := W1.1
    obtain ⟨⟨t0, t1, t2, t3, t4, t5, t6⟩, r0, r3, r4, r6, r7, r8⟩ := W1.2.1
    obtain ⟨hD, ⟨v0, v1, v2⟩, vh, vr, vw, vf⟩ := W1.2.2.1
    have hs := W1.2.2.2.1
    have hh := W1.2.2.2.2
    have hn0 : _ ≤ 8 := hD.1
    have hn1 : _ ≤ 6 := hD.2.1.2
    have hn2 : _ ≤ 8 := hD.2.2.1
    refine G_S (pc := 5) f_156_5 rfl rfl rfl ?_
    refine G_S (pc := 7) f_156_7 rfl rfl rfl ?_
    refine G_S (pc := 9) f_156_9 rfl rfl (if_pos (by first | assumption | omega)) ?_
    refine G_S (pc := 12) f_156_12 rfl rfl rfl ?_
    refine G_gIv (pc := 14) f_156_14 (by decide) rfl (by decide) (by first | assumption | exact hK.1 _ _ rfl) (by first | assumption | exact mI_s | ((refine mI_o (by first | decide | omega) ?_); (repeat (refine mI_o (by first | decide | omega) ?_)); first | exact mI_s | assumption) | rfl) ?_
    first | refine G_bEq (pc := 17) f_156_17 rfl (fun b2 => ?_) (fun b2 => ?_) | refine G_zeqZ (pc := 17) f_156_17 rfl (by first | exact nI_toInt (by omega) | exact zI_toInt (by omega) (by omega) | rfl) (fun b2 => ?_) (fun b2 => ?_)
    · refine G_bi (v := zI (-2)) (pc := 30) f_156_30 (by decide) ?_
      refine G_ri (pc := 32) f_156_32 ?_
      unfold drwF
      first
        | exact ⟨by rw [if_neg (by omega)], Fc.rf⟩
        | (refine ⟨?_, (hF.tr hF3).sub (by decide)⟩
           rw [nI_toInt (by omega), Int.toNat_natCast, if_pos (by omega)])
    · refine G_S (pc := 20) f_156_20 rfl rfl rfl ?_
      refine G_zltZ (pc := 21) f_156_21 rfl (by first | exact nI_toInt (by omega) | exact zI_toInt (by omega) (by omega) | rfl) (fun b3 => ?_) (fun b3 => ?_)
      · refine G_bi (v := zI (-2)) (pc := 30) f_156_30 (by decide) ?_
        refine G_ri (pc := 32) f_156_32 ?_
        unfold drwF
        first
          | exact ⟨by rw [if_neg (by omega)], Fc.rf⟩
          | (refine ⟨?_, (hF.tr hF3).sub (by decide)⟩
             rw [nI_toInt (by omega), Int.toNat_natCast, if_pos (by omega)])
      · refine G_S (pc := 24) f_156_24 rfl rfl rfl ?_
        refine G_bi (v := nI 60) (pc := 25) f_156_25 (by decide) ?_
        refine G_jleZ (pc := 27) f_156_27 rfl (by first | exact nI_toInt (by omega) | exact zI_toInt (by omega) (by omega) | rfl) (by first | exact nI_toInt (by omega) | exact zI_toInt (by omega) (by omega) | rfl) (fun b4 => ?_) (fun b4 => ?_)
        · obtain ⟨c, hc, rfl⟩ := i_nat (x := y) (n := 61) b3 (by omega)
          refine G_S (pc := 33) f_156_33 rfl rfl rfl ?_
          refine G_gR (pc := 34) f_156_34 (by decide) rfl (by first | assumption | exact hK.1 _ _ rfl) (by first | assumption | exact hK.2 _ _ _ rfl | (try dsimp only) <;> (repeat (first | exact up2_s | refine up2_o (by first | decide | omega) ?_)) <;> first | assumption | exact hK.2 _ _ _ rfl) ?_
          refine G_S (pc := 37) f_156_37 rfl rfl rfl ?_
          refine G_CV (pc := 39) f_156_39 rfl rfl (by decide) rfl rfl (by first | assumption | exact hK.1 _ _ rfl) (by decide) ⟨Nat.le_of_ble_eq_true rfl, Nat.le_of_ble_eq_true rfl⟩ ?_
          refine CG.mono (t_begin W1) ?_
          rintro _ M2 ⟨rfl, hF, W2⟩
          have hK := W2.1.1
          refine G_S (pc := 42) f_156_42 rfl rfl rfl ?_
          refine G_gR (pc := 43) f_156_43 (by decide) rfl (by first | assumption | exact hK.1 _ _ rfl) (by first | assumption | exact hK.2 _ _ _ rfl | (try dsimp only) <;> (repeat (first | exact up2_s | refine up2_o (by first | decide | omega) ?_)) <;> first | assumption | exact hK.2 _ _ _ rfl) ?_
          refine G_S (pc := 46) f_156_46 rfl rfl rfl ?_
          refine G_S (pc := 47) f_156_47 rfl rfl rfl ?_
          refine G_CV (pc := 48) f_156_48 rfl rfl (by decide) rfl rfl (by first | assumption | exact hK.1 _ _ rfl) (by decide) ⟨Nat.le_of_ble_eq_true rfl, Nat.le_of_ble_eq_true rfl⟩ ?_
          refine CG.mono (t_draw W2 (by omega) (by omega)) ?_
          rintro _ M3 ⟨rfl, hF3, W3⟩
          have hK := W3.1.1
          refine G_S (pc := 51) f_156_51 rfl rfl rfl ?_
          refine G_gR (pc := 52) f_156_52 (by decide) rfl (by first | assumption | exact hK.1 _ _ rfl) (by first | assumption | exact hK.2 _ _ _ rfl | (try dsimp only) <;> (repeat (first | exact up2_s | refine up2_o (by first | decide | omega) ?_)) <;> first | assumption | exact hK.2 _ _ _ rfl) ?_
          refine G_S (pc := 55) f_156_55 rfl rfl rfl ?_
          refine G_CV (pc := 57) f_156_57 rfl rfl (by decide) rfl rfl (by first | assumption | exact hK.1 _ _ rfl) (by decide) ⟨Nat.le_of_ble_eq_true rfl, Nat.le_of_ble_eq_true rfl⟩ ?_
          refine CG.go (t_answer W3) ?_
          refine G_ri (pc := 60) f_156_60 ?_
          unfold drwF
          first
            | exact ⟨by rw [if_neg (by omega)], Fc.rf⟩
            | (refine ⟨?_, (hF.tr hF3).sub (by decide)⟩
               rw [nI_toInt (by omega), Int.toNat_natCast, if_pos (by omega)])
        · refine G_bi (v := zI (-2)) (pc := 30) f_156_30 (by decide) ?_
          refine G_ri (pc := 32) f_156_32 ?_
          unfold drwF
          first
            | exact ⟨by rw [if_neg (by omega)], Fc.rf⟩
            | (refine ⟨?_, (hF.tr hF3).sub (by decide)⟩
               rw [nI_toInt (by omega), Int.toNat_natCast, if_pos (by omega)])
end CRU
