/-! the class: what is asked of a crew -/
theorem bestF_no {p : Nat → Bool} {lt : Nat → Nat → Bool} {n : Nat} (hp : ¬ p n = true) : bestF p lt (n + 1) = bestF p lt n := by
  rw [bestF]
  split <;> rename_i hb <;> rw [hb]
  · exact if_neg hp
  · exact if_neg (fun q => hp (Bool.and_eq_true _ _ ▸ q).1)
theorem bestF_first {p : Nat → Bool} {lt : Nat → Nat → Bool} {n : Nat} (hp : p n = true) (hb : bestF p lt n = none) : bestF p lt (n + 1) = some n := by
  rw [bestF, hb]
  exact if_pos hp
theorem bestF_new {p : Nat → Bool} {lt : Nat → Nat → Bool} {n c : Nat} (hp : p n = true) (hb : bestF p lt n = some c) (hl : lt n c = true) : bestF p lt (n + 1) = some n := by
  rw [bestF, hb]
  exact if_pos (by rw [hp, hl]; rfl)
theorem bestF_keep {p : Nat → Bool} {lt : Nat → Nat → Bool} {n c : Nat} (hb : bestF p lt n = some c) (hl : ¬ lt n c = true) : bestF p lt (n + 1) = some c := by
  rw [bestF, hb]
  exact if_neg (fun q => hl (Bool.and_eq_true _ _ ▸ q).2)
theorem oI_some {c : Nat} : oI (some c) = nI c := rfl
theorem oI_none : oI none = zI (-1) := rfl
theorem oI_nn {o : Option Nat} (h : (oI o).toInt ≠ -1) : ∃ c, o = some c := by
  cases o with
  | none => exact absurd rfl h
  | some c => exact ⟨c, rfl⟩
theorem oI_m1 {o : Option Nat} (hb : ∀ c, o = some c → c < 2 ^ 31) (h : (oI o).toInt = -1) : o = none := by
  cases o with
  | none => rfl
  | some c =>
    rw [oI_some, nI_toInt (hb c rfl)] at h
    omega
def mx (i : Nat) (f g : Nat → Nat) (r : Nat) : Nat := if r < i then f r else g r
section CK
variable {C : Ct} {M : Mm} {h S : Nat} {D b : Nat → Nat}
theorem CW.cong {b' : Nat → Nat} (W : CW M h D b) (e : ∀ r, r < D 2 → b r = b' r) : CW M h D b' := ⟨W.1, W.2.1, fun r hr => by rw [← e r hr]; exact W.2.2 r hr⟩
theorem CW.st {i x : Nat} (W : CW M h D b) (hx : x < 256) : CW (M.1, up2 M.2.1 83 i (nI x), M.2.2.1, M.2.2.2) h D (fun r => if r = i then x else b r) := by
  refine ⟨W.1.fc (Fc.up (os := [83]) (by decide)) o83, W.2.1, fun r hr => ?_⟩
  have hv := W.2.2 r hr
  show up2 M.2.1 83 i (nI x) 83 r = nI (if r = i then x else b r) ∧ (if r = i then x else b r) < 256
  rw [up2_at]
  split
  · exact ⟨rfl, hx⟩
  · exact hv
theorem k_beginWith {x : Int32} {m : Int} (W : LW M h D) (hx : x = zI m) (h1 : -100 ≤ m) (h2 : m ≤ 100) : CG C 16 [.ref 82, .ref h, .int x] M (fun w M' => w = none ∧ Fc [82, 83] M M' ∧ CW M' h D (layN D m)) := by
  subst hx
  have loop : ∀ i, i ≤ D 2 → ∀ M1, Fc [82, 83] M M1 → CW M1 h D (mx i (layN D m) (layN D 0)) → G C 16 (7, [some (.ref 82), some (.ref h), some (.int (zI m)), some (.int (nI i))], [], [], M1) (fun w M' => w = none ∧ Fc [82, 83] M M' ∧ CW M' h D (layN D m)) := by
    refine upto (fun i hi ih M1 hF W1 => ?_)
    have W0 := W1.1
    have hK := W0.1
    obtain ⟨⟨t0, t1, t2, t3, t4, t5, t6⟩, r0, r3, r4, r6, r7, r8⟩ := W0.2.1
    obtain ⟨hD, ⟨v0, v1, v2⟩, vh, vr, vw, vf⟩ := W0.2.2.1
    have hs := W0.2.2.2.1
    have hh := W0.2.2.2.2
    have hn0 : _ ≤ 8 := hD.1
    have hn1 : _ ≤ 6 := hD.2.1.2
    have hn2 : _ ≤ 8 := hD.2.2.1
    have q1 : i < D 2 → M1.2.1 83 i = nI (D (19 + i)) := fun hi => by
      rw [(W1.2.2 i hi).1, mx, if_neg (by omega), layN_0 hD (by omega)]
    have ho : i < D 2 → D (19 + i) ≤ 60 := fun hi => hD.2.2.2.2.2.1 i (by omega)
    refine G_S (pc := 7) f_16_7 rfl rfl rfl ?_
    refine G_S (pc := 8) f_16_8 rfl rfl rfl ?_
    refine G_gIv (pc := 9) f_16_9 (by decide) rfl (by decide) (by first | assumption | exact hK.1 _ _ rfl) (by first | assumption | (repeat (first | exact up2_s | refine up2_o (by first | decide | omega) ?_)) <;> first | assumption | rfl) ?_
    refine G_jgeZ (pc := 12) f_16_12 rfl (by first | exact nI_toInt (by omega) | exact zI_toInt (by omega) (by omega) | rfl) (by first | exact nI_toInt (by omega) | exact zI_toInt (by omega) (by omega) | rfl) (fun b1 => ?_) (fun b1 => ?_)
    · refine G_rv (pc := 41) f_16_41 ?_
      exact ⟨rfl, hF, W1.cong (fun r hr => if_pos (by omega))⟩
    · refine G_S (pc := 15) f_16_15 rfl rfl rfl ?_
      refine G_gR (pc := 16) f_16_16 (by decide) rfl (by first | assumption | exact hK.1 _ _ rfl) (by first | assumption | exact hK.2 _ _ _ rfl | (repeat (first | exact up2_s | refine up2_o (by first | decide | omega) ?_)) <;> first | assumption | exact hK.2 _ _ _ rfl) ?_
      refine G_S (pc := 19) f_16_19 rfl rfl rfl ?_
      refine G_S (pc := 20) f_16_20 rfl rfl rfl ?_
      refine G_gR (pc := 21) f_16_21 (by decide) rfl (by first | assumption | exact hK.1 _ _ rfl) (by first | assumption | exact hK.2 _ _ _ rfl | (repeat (first | exact up2_s | refine up2_o (by first | decide | omega) ?_)) <;> first | assumption | exact hK.2 _ _ _ rfl) ?_
      refine G_S (pc := 24) f_16_24 rfl rfl rfl ?_
      refine G_iaN (pc := 25) f_16_25 (by first | assumption | exact hK.1 _ _ rfl) (by omega) (by omega) (by first | exact q1 (by omega) | rfl) ?_
      refine G_S (pc := 26) f_16_26 rfl rfl rfl ?_
      first | refine G_addN (pc := 27) f_16_27 ?_ | refine G_addZ (pc := 27) f_16_27 (by first | rfl | exact nI_zI _) (by first | rfl | exact nI_zI _) ?_ | refine G_S (pc := 27) f_16_27 rfl rfl rfl ?_
      refine G_ic (v := nI 0) (pc := 28) f_16_28 (by decide) ?_
      refine G_bi (v := nI 99) (pc := 29) f_16_29 (by decide) ?_
      refine G_CS (pc := 31) f_16_31 rfl rfl (by decide) rfl rfl ⟨Nat.le_of_ble_eq_true rfl, Nat.le_of_ble_eq_true rfl⟩ ?_
      refine CG.go (c_within (by omega) (by have := ho (by omega); omega)) ?_
      refine G_isN (pc := 34) f_16_34 (by first | assumption | exact hK.1 _ _ rfl) (by omega) (by omega) ?_
      first | refine G_inc1 (pc := 35) f_16_35 rfl ?_ | refine G_S (pc := 35) f_16_35 rfl rfl rfl ?_
      refine G_S (pc := 38) f_16_38 rfl rfl rfl ?_
      refine ih (by omega) _ (hF.tr (Fc.up (by decide))) ((W1.st (by omega)).cong (fun r hr => ?_))
      unfold mx
      by_cases e : r = i
      · subst e
        rw [if_pos rfl, if_pos (by omega)]
        rfl
      · rw [if_neg e]
        by_cases e2 : r < i
        · rw [if_pos e2, if_pos (by omega)]
        · rw [if_neg e2, if_neg (by omega)]
  refine CG_in (mL := 4) (hl := false) (lv := [some (.ref 82), some (.ref h), some (.int (zI m)), none]) (ll := []) rfl rfl rfl ?_
  have hK := W.1
  obtain ⟨⟨t0, t1, t2, t3, t4, t5, t6⟩, r0, r3, r4, r6, r7, r8⟩ := W.2.1
  obtain ⟨hD, ⟨v0, v1, v2⟩, vh, vr, vw, vf⟩ := W.2.2.1
  have hs := W.2.2.2.1
  have hh := W.2.2.2.2
  have hn0 : _ ≤ 8 := hD.1
  have hn1 : _ ≤ 6 := hD.2.1.2
  have hn2 : _ ≤ 8 := hD.2.2.1
  refine G_S (pc := 0) f_16_0 rfl rfl rfl ?_
  refine G_S (pc := 1) f_16_1 rfl rfl rfl ?_
  refine G_CV (pc := 2) f_16_2 rfl rfl (by decide) rfl rfl (by first | assumption | exact hK.1 _ _ rfl) (by decide) ⟨Nat.le_of_ble_eq_true rfl, Nat.le_of_ble_eq_true rfl⟩ ?_
  refine CG.mono (k_begin W) ?_
  rintro _ M1 ⟨rfl, hF, W1⟩
  refine G_ic (v := nI 0) (pc := 5) f_16_5 (by decide) ?_
  refine G_S (pc := 6) f_16_6 rfl rfl rfl ?_
  exact loop 0 (Nat.zero_le _) M1 hF (W1.cong (fun r _ => (if_neg (Nat.not_lt_zero r)).symm))
theorem k_upWith {x : Int32} {m : Int} (W : LW M h D) (hS : S < 256) (hse : pc8 S ≤ D 1) (hx : x = zI m) (h1 : -100 ≤ m) (h2 : m ≤ 100) : CG C 22 [.ref 82, .ref h, .int (nI S), .int x] M (fun w M' => w = some (.int (b2i (gB D S m = true))) ∧ Fc [82, 83] M M') := by
  refine CG_in (mL := 4) (hl := false) (lv := [some (.ref 82), some (.ref h), some (.int (nI S)), some (.int x)]) (ll := []) rfl rfl rfl ?_
  have hK := W.1
  obtain ⟨⟨t0, t1, t2, t3, t4, t5, t6⟩, r0, r3, r4, r6, r7, r8⟩ := W.2.1
  obtain ⟨hD, ⟨v0, v1, v2⟩, vh, vr, vw, vf⟩ := W.2.2.1
  have hs := W.2.2.2.1
  have hh := W.2.2.2.2
  have hn0 : _ ≤ 8 := hD.1
  have hn1 : _ ≤ 6 := hD.2.1.2
  have hn2 : _ ≤ 8 := hD.2.2.1
  refine G_S (pc := 0) f_22_0 rfl rfl rfl ?_
  refine G_S (pc := 1) f_22_1 rfl rfl rfl ?_
  refine G_S (pc := 2) f_22_2 rfl rfl rfl ?_
  refine G_CV (pc := 3) f_22_3 rfl rfl (by decide) rfl rfl (by first | assumption | exact hK.1 _ _ rfl) (by decide) ⟨Nat.le_of_ble_eq_true rfl, Nat.le_of_ble_eq_true rfl⟩ ?_
  refine CG.mono (k_beginWith W hx h1 h2) ?_
  rintro _ M1 ⟨rfl, hF, W1⟩
  have hK := W1.1.1
  refine G_S (pc := 6) f_22_6 rfl rfl rfl ?_
  refine G_S (pc := 7) f_22_7 rfl rfl rfl ?_
  refine G_CV (pc := 8) f_22_8 rfl rfl (by decide) rfl rfl (by first | assumption | exact hK.1 _ _ rfl) (by decide) ⟨Nat.le_of_ble_eq_true rfl, Nat.le_of_ble_eq_true rfl⟩ ?_
  refine CG.mono (k_gets W1 hS) ?_
  rintro _ M2 ⟨rfl, hF2, W2⟩
  refine G_rz (pc := 11) f_22_11 (by first | exact Or.inl rfl | exact Or.inr rfl | exact b2i_01 _ | assumption) ?_
  refine ⟨?_, hF.tr (hF2.sub (by decide))⟩
  congr 2
  by_cases q : (cmF D S (D 0) 0 (layN D m)).1 = D 0
  · rw [b2i_pos q, b2i_pos (gB_iff.mpr ⟨hse, q⟩)]
  · rw [b2i_neg q, b2i_neg (fun z => q (gB_iff.mp z).2)]
theorem k_turns {S1 S2 : Nat} (W : LW M h D) (h1 : S1 < 256) (h2 : S2 < 256) : CG C 23 [.ref 82, .ref h, .int (nI S1), .int (nI S2)] M (fun w M' => w = some (.int (nI (tnF D S1 S2 100 0 (layN D 0)))) ∧ Fc [82, 83] M M') := by
  have loop : ∀ d n, n + d = 100 → ∀ M b, CW M h D b → G C 23 (8, [some (.ref 82), some (.ref h), some (.int (nI S1)), some (.int (nI S2)), some (.int (nI n))], [], [], M) (fun w M' => w = some (.int (nI (tnF D S1 S2 d n b))) ∧ Fc [82, 83] M M') := by
    intro d
    induction d with
    | zero =>
      intro n hn M b W
      have e : n = 100 := by omega
      subst e
      refine G_S (pc := 8) f_23_8 rfl rfl rfl ?_
      refine G_bi (v := nI 100) (pc := 10) f_23_10 (by decide) ?_
      refine G_jgeZ (pc := 12) f_23_12 rfl (by first | exact nI_toInt (by omega) | exact zI_toInt (by omega) (by omega) | rfl) (by first | exact nI_toInt (by omega) | exact zI_toInt (by omega) (by omega) | rfl) (fun b1 => ?_) (fun b1 => ?_)
      · refine G_bi (v := nI 100) (pc := 43) f_23_43 (by decide) ?_
        refine G_ri (pc := 45) f_23_45 ?_
        exact ⟨rfl, Fc.rf⟩
      · exfalso; omega
    | succ d ih =>
      intro n hn M b W
      have W0 := W.1
      have hK := W0.1
      obtain ⟨⟨t0, t1, t2, t3, t4, t5, t6⟩, r0, r3, r4, r6, r7, r8⟩ := W0.2.1
      obtain ⟨hD, ⟨v0, v1, v2⟩, vh, vr, vw, vf⟩ := W0.2.2.1
      have hs := W0.2.2.2.1
      have hh := W0.2.2.2.2
      have hn0 : _ ≤ 8 := hD.1
      have hn1 : _ ≤ 6 := hD.2.1.2
      have hn2 : _ ≤ 8 := hD.2.2.1
      refine G_S (pc := 8) f_23_8 rfl rfl rfl ?_
      refine G_bi (v := nI 100) (pc := 10) f_23_10 (by decide) ?_
      refine G_jgeZ (pc := 12) f_23_12 rfl (by first | exact nI_toInt (by omega) | exact zI_toInt (by omega) (by omega) | rfl) (by first | exact nI_toInt (by omega) | exact zI_toInt (by omega) (by omega) | rfl) (fun b1 => ?_) (fun b1 => ?_)
      · exfalso; omega
      · refine G_S (pc := 15) f_23_15 rfl rfl rfl ?_
        refine G_S (pc := 16) f_23_16 rfl rfl rfl ?_
        refine G_ic (v := nI 2) (pc := 18) f_23_18 (by decide) ?_
        refine G_remN (pc := 19) f_23_19 (by omega) (by omega) (by omega) ?_
        first | refine G_bNe (pc := 20) f_23_20 rfl (fun b2 => ?_) (fun b2 => ?_) | refine G_zneZ (pc := 20) f_23_20 rfl (by first | exact nI_toInt (by omega) | exact zI_toInt (by omega) (by omega) | rfl) (fun b2 => ?_) (fun b2 => ?_)
        · have e : (if n % 2 = 0 then S1 else S2) = S2 := if_neg (by omega)
          refine G_S (pc := 27) f_23_27 rfl rfl rfl ?_
          refine G_CV (pc := 28) f_23_28 rfl rfl (by decide) rfl rfl (by first | assumption | exact hK.1 _ _ rfl) (by decide) ⟨Nat.le_of_ble_eq_true rfl, Nat.le_of_ble_eq_true rfl⟩ ?_
          refine CG.mono ((by first | exact k_gets W h1 | exact k_gets W h2)) ?_
          rintro _ M1 ⟨rfl, hF, W1⟩
          first | refine G_bNe (pc := 31) f_23_31 rfl (fun b3 => ?_) (fun b3 => ?_) | refine G_zneZ (pc := 31) f_23_31 rfl (by first | exact nI_toInt (by omega) | exact zI_toInt (by omega) (by omega) | rfl) (fun b3 => ?_) (fun b3 => ?_)
          · first | refine G_inc1 (pc := 37) f_23_37 rfl ?_ | refine G_S (pc := 37) f_23_37 rfl rfl rfl ?_
            refine G_S (pc := 40) f_23_40 rfl rfl rfl ?_
            refine G.mono (ih (n + 1) (by omega) _ _ W1) ?_
            rintro w M9 ⟨g1, g2⟩
            rw [tnF, e, if_pos b3]
            exact ⟨g1, (hF.sub (by decide)).tr g2⟩
          · refine G_S (pc := 34) f_23_34 rfl rfl rfl ?_
            refine G_ri (pc := 36) f_23_36 ?_
            rw [tnF, e, if_neg b3]
            exact ⟨rfl, hF.sub (by decide)⟩
        · have e : (if n % 2 = 0 then S1 else S2) = S1 := if_pos (by omega)
          refine G_S (pc := 23) f_23_23 rfl rfl rfl ?_
          refine G_S (pc := 24) f_23_24 rfl rfl rfl ?_
          refine G_CV (pc := 28) f_23_28 rfl rfl (by decide) rfl rfl (by first | assumption | exact hK.1 _ _ rfl) (by decide) ⟨Nat.le_of_ble_eq_true rfl, Nat.le_of_ble_eq_true rfl⟩ ?_
          refine CG.mono ((by first | exact k_gets W h1 | exact k_gets W h2)) ?_
          rintro _ M1 ⟨rfl, hF, W1⟩
          first | refine G_bNe (pc := 31) f_23_31 rfl (fun b3 => ?_) (fun b3 => ?_) | refine G_zneZ (pc := 31) f_23_31 rfl (by first | exact nI_toInt (by omega) | exact zI_toInt (by omega) (by omega) | rfl) (fun b3 => ?_) (fun b3 => ?_)
          · first | refine G_inc1 (pc := 37) f_23_37 rfl ?_ | refine G_S (pc := 37) f_23_37 rfl rfl rfl ?_
            refine G_S (pc := 40) f_23_40 rfl rfl rfl ?_
            refine G.mono (ih (n + 1) (by omega) _ _ W1) ?_
            rintro w M9 ⟨g1, g2⟩
            rw [tnF, e, if_pos b3]
            exact ⟨g1, (hF.sub (by decide)).tr g2⟩
          · refine G_S (pc := 34) f_23_34 rfl rfl rfl ?_
            refine G_ri (pc := 36) f_23_36 ?_
            rw [tnF, e, if_neg b3]
            exact ⟨rfl, hF.sub (by decide)⟩
  refine CG_in (mL := 5) (hl := false) (lv := [some (.ref 82), some (.ref h), some (.int (nI S1)), some (.int (nI S2)), none]) (ll := []) rfl rfl rfl ?_
  have hK := W.1
  obtain ⟨⟨t0, t1, t2, t3, t4, t5, t6⟩, r0, r3, r4, r6, r7, r8⟩ := W.2.1
  obtain ⟨hD, ⟨v0, v1, v2⟩, vh, vr, vw, vf⟩ := W.2.2.1
  have hs := W.2.2.2.1
  have hh := W.2.2.2.2
  have hn0 : _ ≤ 8 := hD.1
  have hn1 : _ ≤ 6 := hD.2.1.2
  have hn2 : _ ≤ 8 := hD.2.2.1
  refine G_S (pc := 0) f_23_0 rfl rfl rfl ?_
  refine G_S (pc := 1) f_23_1 rfl rfl rfl ?_
  refine G_CV (pc := 2) f_23_2 rfl rfl (by decide) rfl rfl (by first | assumption | exact hK.1 _ _ rfl) (by decide) ⟨Nat.le_of_ble_eq_true rfl, Nat.le_of_ble_eq_true rfl⟩ ?_
  refine CG.mono (k_begin W) ?_
  rintro _ M1 ⟨rfl, hF, W1⟩
  refine G_ic (v := nI 0) (pc := 5) f_23_5 (by decide) ?_
  refine G_S (pc := 6) f_23_6 rfl rfl rfl ?_
  refine G.mono (loop 100 0 rfl M1 _ W1) ?_
  rintro w M9 ⟨g1, g2⟩
  exact ⟨g1, hF.tr g2⟩
/-- what is left of a set where it comes to -/
def endB (D : Nat → Nat) (S r : Nat) : Nat := (cmF D S (D 0) 0 (layN D 0)).2 r
theorem k_leftOf {r : Nat} (W : LW M h D) (hS : S < 256) (hr : r < D 2) : CG C 24 [.ref 82, .ref h, .int (nI S), .int (nI r)] M (fun w M' => w = some (.int (nI (endB D S r))) ∧ Fc [82, 83] M M') := by
  refine CG_in (mL := 4) (hl := false) (lv := [some (.ref 82), some (.ref h), some (.int (nI S)), some (.int (nI r))]) (ll := []) rfl rfl rfl ?_
  have hK := W.1
  obtain ⟨⟨t0, t1, t2, t3, t4, t5, t6⟩, r0, r3, r4, r6, r7, r8⟩ := W.2.1
  obtain ⟨hD, ⟨v0, v1, v2⟩, vh, vr, vw, vf⟩ := W.2.2.1
  have hs := W.2.2.2.1
  have hh := W.2.2.2.2
  have hn0 : _ ≤ 8 := hD.1
  have hn1 : _ ≤ 6 := hD.2.1.2
  have hn2 : _ ≤ 8 := hD.2.2.1
  refine G_S (pc := 0) f_24_0 rfl rfl rfl ?_
  refine G_S (pc := 1) f_24_1 rfl rfl rfl ?_
  refine G_CV (pc := 2) f_24_2 rfl rfl (by decide) rfl rfl (by first | assumption | exact hK.1 _ _ rfl) (by decide) ⟨Nat.le_of_ble_eq_true rfl, Nat.le_of_ble_eq_true rfl⟩ ?_
  refine CG.mono (k_begin W) ?_
  rintro _ M1 ⟨rfl, hF, W1⟩
  have hK := W1.1.1
  refine G_S (pc := 5) f_24_5 rfl rfl rfl ?_
  refine G_S (pc := 6) f_24_6 rfl rfl rfl ?_
  refine G_ic (v := nI 0) (pc := 7) f_24_7 (by decide) ?_
  refine G_CV (pc := 8) f_24_8 rfl rfl (by decide) rfl rfl (by first | assumption | exact hK.1 _ _ rfl) (by decide) ⟨Nat.le_of_ble_eq_true rfl, Nat.le_of_ble_eq_true rfl⟩ ?_
  refine CG.mono (k_climb (k := 0) W1 hS (Nat.zero_le _)) ?_
  rintro _ M2 ⟨rfl, hF2, W2⟩
  have W0 := W2.1
  have hK := W0.1
  obtain ⟨⟨t0, t1, t2, t3, t4, t5, t6⟩, r0, r3, r4, r6, r7, r8⟩ := W0.2.1
  obtain ⟨hD, ⟨v0, v1, v2⟩, vh, vr, vw, vf⟩ := W0.2.2.1
  have hs := W0.2.2.2.1
  have hh := W0.2.2.2.2
  have hn0 : _ ≤ 8 := hD.1
  have hn1 : _ ≤ 6 := hD.2.1.2
  have hn2 : _ ≤ 8 := hD.2.2.1
  have q1 := (W2.2.2 r hr).1
  refine G_S (pc := 11) f_24_11 rfl rfl rfl ?_
  refine G_S (pc := 12) f_24_12 rfl rfl rfl ?_
  refine G_zltZ (pc := 13) f_24_13 rfl (by first | exact nI_toInt (by omega) | exact zI_toInt (by omega) (by omega) | rfl) (fun b1 => ?_) (fun b1 => ?_)
  · exfalso; omega
  · refine G_S (pc := 16) f_24_16 rfl rfl rfl ?_
    refine G_S (pc := 17) f_24_17 rfl rfl rfl ?_
    refine G_gIv (pc := 18) f_24_18 (by decide) rfl (by decide) (by first | assumption | exact hK.1 _ _ rfl) (by first | assumption | (repeat (first | exact up2_s | refine up2_o (by first | decide | omega) ?_)) <;> first | assumption | rfl) ?_
    refine G_jgeZ (pc := 21) f_24_21 rfl (by first | exact nI_toInt (by omega) | exact zI_toInt (by omega) (by omega) | rfl) (by first | exact nI_toInt (by omega) | exact zI_toInt (by omega) (by omega) | rfl) (fun b2 => ?_) (fun b2 => ?_)
    · exfalso; omega
    · refine G_S (pc := 24) f_24_24 rfl rfl rfl ?_
      refine G_gR (pc := 25) f_24_25 (by decide) rfl (by first | assumption | exact hK.1 _ _ rfl) (by first | assumption | exact hK.2 _ _ _ rfl | (repeat (first | exact up2_s | refine up2_o (by first | decide | omega) ?_)) <;> first | assumption | exact hK.2 _ _ _ rfl) ?_
      refine G_S (pc := 28) f_24_28 rfl rfl rfl ?_
      refine G_iaN (pc := 29) f_24_29 (by first | assumption | exact hK.1 _ _ rfl) (by omega) (by omega) (by first | assumption | exact q1 _ (by omega) | exact q2 _ (by omega) | exact q3 _ (by omega) | exact q4 _ (by omega) | exact q5 _ (by omega) | exact vh _ (by omega) | exact (vr _ (by omega)).1 | exact (vr _ (by omega)).2 | exact vw _ (by omega) | exact vf _ (by omega) (by omega) | rfl) ?_
      refine G_S (pc := 30) f_24_30 rfl rfl rfl ?_
      refine G_ri (pc := 35) f_24_35 ?_
      exact ⟨rfl, hF.tr (hF2.sub (by decide))⟩
def lastB (D : Nat → Nat) (S : Nat) (a b : Nat) : Bool := decide (endB D S a < endB D S b)
theorem k_lastLeft (W : LW M h D) (hS : S < 256) : CG C 25 [.ref 82, .ref h, .int (nI S)] M (fun w M' => w = some (.int (oI (bestF (fun r => S.testBit r) (lastB D S) (D 2)))) ∧ Fc [82, 83] M M') := by
  have loop : ∀ M1, CW M1 h D (endB D S) → ∀ i, i ≤ D 2 → G C 25 (17, [some (.ref 82), some (.ref h), some (.int (nI S)), some (.int ((oI (bestF (fun r => S.testBit r) (lastB D S) i)))), some (.int (nI i))], [], [], M1) (fun w M' => w = some (.int (oI (bestF (fun r => S.testBit r) (lastB D S) (D 2)))) ∧ M' = M1) := by
    intro M1 W1
    have W0 := W1.1
    have hK := W0.1
    obtain ⟨⟨t0, t1, t2, t3, t4, t5, t6⟩, r0, r3, r4, r6, r7, r8⟩ := W0.2.1
    obtain ⟨hD, ⟨v0, v1, v2⟩, vh, vr, vw, vf⟩ := W0.2.2.1
    have hs := W0.2.2.2.1
    have hh := W0.2.2.2.2
    have hn0 : _ ≤ 8 := hD.1
    have hn1 : _ ≤ 6 := hD.2.1.2
    have hn2 : _ ≤ 8 := hD.2.2.1
    refine upto (fun i hi ih => ?_)
    have q1 : ∀ r, r < D 2 → M1.2.1 83 r = nI (endB D S r) := fun r hr => (W1.2.2 r hr).1
    have q2 : ∀ r, r < D 2 → endB D S r < 256 := fun r hr => (W1.2.2 r hr).2
    have q3 : ∀ c, bestF (fun r => S.testBit r) (lastB D S) i = some c → c < i ∧ S.testBit c = true := fun c hc => bestF_lt hc
    refine G_S (pc := 17) f_25_17 rfl rfl rfl ?_
    refine G_S (pc := 19) f_25_19 rfl rfl rfl ?_
    refine G_gIv (pc := 20) f_25_20 (by decide) rfl (by decide) (by first | assumption | exact hK.1 _ _ rfl) (by first | assumption | (repeat (first | exact up2_s | refine up2_o (by first | decide | omega) ?_)) <;> first | assumption | rfl) ?_
    refine G_jgeZ (pc := 23) f_25_23 rfl (by first | exact nI_toInt (by omega) | exact zI_toInt (by omega) (by omega) | rfl) (by first | exact nI_toInt (by omega) | exact zI_toInt (by omega) (by omega) | rfl) (fun b1 => ?_) (fun b1 => ?_)
    · refine G_S (pc := 65) f_25_65 rfl rfl rfl ?_
      refine G_ri (pc := 66) f_25_66 ?_
      have e : i = D 2 := by omega
      rw [e]
      exact ⟨rfl, rfl⟩
    · refine G_S (pc := 26) f_25_26 rfl rfl rfl ?_
      refine G_S (pc := 27) f_25_27 rfl rfl rfl ?_
      refine G_CS (pc := 29) f_25_29 rfl rfl (by decide) rfl rfl ⟨Nat.le_of_ble_eq_true rfl, Nat.le_of_ble_eq_true rfl⟩ ?_
      refine CG.go (c_holds (by omega) (by omega)) ?_
      first | refine G_bEq (pc := 32) f_25_32 rfl (fun b2 => ?_) (fun b2 => ?_) | refine G_zeqZ (pc := 32) f_25_32 rfl (by first | exact nI_toInt (by omega) | exact zI_toInt (by omega) (by omega) | rfl) (fun b2 => ?_) (fun b2 => ?_)
      · first | refine G_inc1 (pc := 59) f_25_59 rfl ?_ | refine G_S (pc := 59) f_25_59 rfl rfl rfl ?_
        refine G_S (pc := 62) f_25_62 rfl rfl rfl ?_
        have e := ih (by omega)
        first
          | (rw [bestF_no b2] at e; exact e)
          | (rw [bestF_first b2 (oI_m1 (fun c hc => by have := (q3 c hc).1; omega) b3)] at e; exact e)
          | (rw [bestF_new b2 hc (decide_eq_true (by omega))] at e; exact e)
          | (rw [bestF_keep hc (fun q => absurd (of_decide_eq_true q) (by omega))] at e; exact e)
      · refine G_S (pc := 35) f_25_35 rfl rfl rfl ?_
        refine G_ic (v := zI (-1)) (pc := 36) f_25_36 (by decide) ?_
        refine G_jeqZ (pc := 37) f_25_37 rfl (by first | exact nI_toInt (by omega) | exact zI_toInt (by omega) (by omega) | rfl) (by first | exact nI_toInt (by omega) | exact zI_toInt (by omega) (by omega) | rfl) (fun b3 => ?_) (fun b3 => ?_)
        · refine G_S (pc := 56) f_25_56 rfl rfl rfl ?_
          refine G_S (pc := 58) f_25_58 rfl rfl rfl ?_
          first | refine G_inc1 (pc := 59) f_25_59 rfl ?_ | refine G_S (pc := 59) f_25_59 rfl rfl rfl ?_
          refine G_S (pc := 62) f_25_62 rfl rfl rfl ?_
          have e := ih (by omega)
          first
            | (rw [bestF_no b2] at e; exact e)
            | (rw [bestF_first b2 (oI_m1 (fun c hc => by have := (q3 c hc).1; omega) b3)] at e; exact e)
            | (rw [bestF_new b2 hc (decide_eq_true (by omega))] at e; exact e)
            | (rw [bestF_keep hc (fun q => absurd (of_decide_eq_true q) (by omega))] at e; exact e)
        · obtain ⟨c, hc⟩ := oI_nn b3
          have hc2 := (q3 c hc).1
          have q4 := q2 c (by omega)
          have q5 := q2 i (by omega)
          rw [hc, oI_some]
          refine G_S (pc := 40) f_25_40 rfl rfl rfl ?_
          refine G_gR (pc := 41) f_25_41 (by decide) rfl (by first | assumption | exact hK.1 _ _ rfl) (by first | assumption | exact hK.2 _ _ _ rfl | (repeat (first | exact up2_s | refine up2_o (by first | decide | omega) ?_)) <;> first | assumption | exact hK.2 _ _ _ rfl) ?_
          refine G_S (pc := 44) f_25_44 rfl rfl rfl ?_
          refine G_iaN (pc := 46) f_25_46 (by first | assumption | exact hK.1 _ _ rfl) (by omega) (by omega) (by first | assumption | exact q1 _ (by omega) | exact q2 _ (by omega) | exact q3 _ (by omega) | exact q4 _ (by omega) | exact q5 _ (by omega) | exact vh _ (by omega) | exact (vr _ (by omega)).1 | exact (vr _ (by omega)).2 | exact vw _ (by omega) | exact vf _ (by omega) (by omega) | rfl) ?_
          refine G_S (pc := 47) f_25_47 rfl rfl rfl ?_
          refine G_gR (pc := 48) f_25_48 (by decide) rfl (by first | assumption | exact hK.1 _ _ rfl) (by first | assumption | exact hK.2 _ _ _ rfl | (repeat (first | exact up2_s | refine up2_o (by first | decide | omega) ?_)) <;> first | assumption | exact hK.2 _ _ _ rfl) ?_
          refine G_S (pc := 51) f_25_51 rfl rfl rfl ?_
          refine G_iaN (pc := 52) f_25_52 (by first | assumption | exact hK.1 _ _ rfl) (by omega) (by omega) (by first | assumption | exact q1 _ (by omega) | exact q2 _ (by omega) | exact q3 _ (by omega) | exact q4 _ (by omega) | exact q5 _ (by omega) | exact vh _ (by omega) | exact (vr _ (by omega)).1 | exact (vr _ (by omega)).2 | exact vw _ (by omega) | exact vf _ (by omega) (by omega) | rfl) ?_
          refine G_jgeZ (pc := 53) f_25_53 rfl (by first | exact nI_toInt (by omega) | exact zI_toInt (by omega) (by omega) | rfl) (by first | exact nI_toInt (by omega) | exact zI_toInt (by omega) (by omega) | rfl) (fun b4 => ?_) (fun b4 => ?_)
          · first | refine G_inc1 (pc := 59) f_25_59 rfl ?_ | refine G_S (pc := 59) f_25_59 rfl rfl rfl ?_
            refine G_S (pc := 62) f_25_62 rfl rfl rfl ?_
            have e := ih (by omega)
            first
              | (rw [bestF_no b2] at e; exact e)
              | (rw [bestF_first b2 (oI_m1 (fun c hc => by have := (q3 c hc).1; omega) b3)] at e; exact e)
              | (rw [bestF_new b2 hc (decide_eq_true (by omega))] at e; exact e)
              | (rw [bestF_keep hc (fun q => absurd (of_decide_eq_true q) (by omega))] at e; exact e)
          · refine G_S (pc := 56) f_25_56 rfl rfl rfl ?_
            refine G_S (pc := 58) f_25_58 rfl rfl rfl ?_
            first | refine G_inc1 (pc := 59) f_25_59 rfl ?_ | refine G_S (pc := 59) f_25_59 rfl rfl rfl ?_
            refine G_S (pc := 62) f_25_62 rfl rfl rfl ?_
            have e := ih (by omega)
            first
              | (rw [bestF_no b2] at e; exact e)
              | (rw [bestF_first b2 (oI_m1 (fun c hc => by have := (q3 c hc).1; omega) b3)] at e; exact e)
              | (rw [bestF_new b2 hc (decide_eq_true (by omega))] at e; exact e)
              | (rw [bestF_keep hc (fun q => absurd (of_decide_eq_true q) (by omega))] at e; exact e)
  refine CG_in (mL := 5) (hl := false) (lv := [some (.ref 82), some (.ref h), some (.int (nI S)), none, none]) (ll := []) rfl rfl rfl ?_
  have hK := W.1
  obtain ⟨⟨t0, t1, t2, t3, t4, t5, t6⟩, r0, r3, r4, r6, r7, r8⟩ := W.2.1
  obtain ⟨hD, ⟨v0, v1, v2⟩, vh, vr, vw, vf⟩ := W.2.2.1
  have hs := W.2.2.2.1
  have hh := W.2.2.2.2
  have hn0 : _ ≤ 8 := hD.1
  have hn1 : _ ≤ 6 := hD.2.1.2
  have hn2 : _ ≤ 8 := hD.2.2.1
  refine G_S (pc := 0) f_25_0 rfl rfl rfl ?_
  refine G_S (pc := 1) f_25_1 rfl rfl rfl ?_
  refine G_CV (pc := 2) f_25_2 rfl rfl (by decide) rfl rfl (by first | assumption | exact hK.1 _ _ rfl) (by decide) ⟨Nat.le_of_ble_eq_true rfl, Nat.le_of_ble_eq_true rfl⟩ ?_
  refine CG.mono (k_begin W) ?_
  rintro _ M1 ⟨rfl, hF, W1⟩
  have hK := W1.1.1
  refine G_S (pc := 5) f_25_5 rfl rfl rfl ?_
  refine G_S (pc := 6) f_25_6 rfl rfl rfl ?_
  refine G_ic (v := nI 0) (pc := 7) f_25_7 (by decide) ?_
  refine G_CV (pc := 8) f_25_8 rfl rfl (by decide) rfl rfl (by first | assumption | exact hK.1 _ _ rfl) (by decide) ⟨Nat.le_of_ble_eq_true rfl, Nat.le_of_ble_eq_true rfl⟩ ?_
  refine CG.mono (k_climb (k := 0) W1 hS (Nat.zero_le _)) ?_
  rintro _ M2 ⟨rfl, hF2, W2⟩
  refine G_S (pc := 11) f_25_11 rfl rfl rfl ?_
  refine G_ic (v := zI (-1)) (pc := 12) f_25_12 (by decide) ?_
  refine G_S (pc := 13) f_25_13 rfl rfl rfl ?_
  refine G_ic (v := nI 0) (pc := 14) f_25_14 (by decide) ?_
  refine G_S (pc := 15) f_25_15 rfl rfl rfl ?_
  refine G.mono (loop M2 W2 0 (Nat.zero_le _)) ?_
  rintro w M9 ⟨g1, rfl⟩
  exact ⟨g1, hF.tr (hF2.sub (by decide))⟩
theorem k_leastTold (W : LW M h D) (hS : S < 256) (hse : pc8 S ≤ D 1) : CG C 26 [.ref 82, .ref h, .int (nI S)] M (fun w M' => w = some (.int (oI (leastF (fun n => gB D S n) 100 0))) ∧ Fc [82, 83] M M') := by
  have loop : ∀ d n, n + d = 100 → ∀ M, LW M h D → G C 26 (2, [some (.ref 82), some (.ref h), some (.int (nI S)), some (.int (nI n))], [], [], M) (fun w M' => w = some (.int (oI (leastF (fun n => gB D S n) d n))) ∧ Fc [82, 83] M M') := by
    intro d
    induction d with
    | zero =>
      intro n hn M W
      refine G_S (pc := 2) f_26_2 rfl rfl rfl ?_
      refine G_bi (v := nI 99) (pc := 3) f_26_3 (by decide) ?_
      refine G_jgtZ (pc := 5) f_26_5 rfl (by first | exact nI_toInt (by omega) | exact zI_toInt (by omega) (by omega) | rfl) (by first | exact nI_toInt (by omega) | exact zI_toInt (by omega) (by omega) | rfl) (fun b1 => ?_) (fun b1 => ?_)
      · refine G_ic (v := zI (-1)) (pc := 26) f_26_26 (by decide) ?_
        refine G_ri (pc := 27) f_26_27 ?_
        exact ⟨rfl, Fc.rf⟩
      · exfalso; omega
    | succ d ih =>
      intro n hn M W
      have hK := W.1
      obtain ⟨⟨t0, t1, t2, t3, t4, t5, t6⟩, r0, r3, r4, r6, r7, r8⟩ := W.2.1
      obtain ⟨hD, ⟨v0, v1, v2⟩, vh, vr, vw, vf⟩ := W.2.2.1
      have hs := W.2.2.2.1
      have hh := W.2.2.2.2
      have hn0 : _ ≤ 8 := hD.1
      have hn1 : _ ≤ 6 := hD.2.1.2
      have hn2 : _ ≤ 8 := hD.2.2.1
      refine G_S (pc := 2) f_26_2 rfl rfl rfl ?_
      refine G_bi (v := nI 99) (pc := 3) f_26_3 (by decide) ?_
      refine G_jgtZ (pc := 5) f_26_5 rfl (by first | exact nI_toInt (by omega) | exact zI_toInt (by omega) (by omega) | rfl) (by first | exact nI_toInt (by omega) | exact zI_toInt (by omega) (by omega) | rfl) (fun b1 => ?_) (fun b1 => ?_)
      · exfalso; omega
      · refine G_S (pc := 8) f_26_8 rfl rfl rfl ?_
        refine G_S (pc := 9) f_26_9 rfl rfl rfl ?_
        refine G_S (pc := 10) f_26_10 rfl rfl rfl ?_
        refine G_S (pc := 11) f_26_11 rfl rfl rfl ?_
        refine G_CV (pc := 12) f_26_12 rfl rfl (by decide) rfl rfl (by first | assumption | exact hK.1 _ _ rfl) (by decide) ⟨Nat.le_of_ble_eq_true rfl, Nat.le_of_ble_eq_true rfl⟩ ?_
        refine CG.mono (k_upWith W hS hse (nI_zI n) (by omega) (by omega)) ?_
        rintro _ M1 ⟨rfl, hF⟩
        first | refine G_bEq (pc := 15) f_26_15 rfl (fun b2 => ?_) (fun b2 => ?_) | refine G_zeqZ (pc := 15) f_26_15 rfl (by first | exact nI_toInt (by omega) | exact zI_toInt (by omega) (by omega) | rfl) (fun b2 => ?_) (fun b2 => ?_)
        · first | refine G_inc1 (pc := 20) f_26_20 rfl ?_ | refine G_S (pc := 20) f_26_20 rfl rfl rfl ?_
          refine G_S (pc := 23) f_26_23 rfl rfl rfl ?_
          refine G.mono (ih (n + 1) (by omega) _ (W.fc hF o8283)) ?_
          rintro w M9 ⟨g1, g2⟩
          rw [leastF, if_neg b2]
          exact ⟨g1, hF.tr g2⟩
        · refine G_S (pc := 18) f_26_18 rfl rfl rfl ?_
          refine G_ri (pc := 19) f_26_19 ?_
          rw [leastF, if_pos b2]
          exact ⟨rfl, hF⟩
  refine CG_in (mL := 4) (hl := false) (lv := [some (.ref 82), some (.ref h), some (.int (nI S)), none]) (ll := []) rfl rfl rfl ?_
  refine G_ic (v := nI 0) (pc := 0) f_26_0 (by decide) ?_
  refine G_S (pc := 1) f_26_1 rfl rfl rfl ?_
  exact loop 100 0 rfl M W
theorem k_leastJoked (W : LW M h D) (hS : S < 2 ^ D 2) (hse : pc8 S ≤ D 1) : CG C 27 [.ref 82, .ref h, .int (nI S)] M (fun w M' => w = some (.int (if gB D S 0 then oI (leastF (fun n => !gB D S (-(n : Int))) 99 1) else zI (-1))) ∧ Fc [82, 83] M M') := by
  have hS8 : S < 256 := pw2 W.2.2.1.1.2.2.1 hS
  have loop : ∀ d n, n + d = 100 → ∀ M, LW M h D → G C 27 (13, [some (.ref 82), some (.ref h), some (.int (nI S)), some (.int (nI n))], [], [], M) (fun w M' => w = some (.int (oI (leastF (fun n => !gB D S (-(n : Int))) d n))) ∧ Fc [82, 83] M M') := by
    intro d
    induction d with
    | zero =>
      intro n hn M W
      refine G_S (pc := 13) f_27_13 rfl rfl rfl ?_
      refine G_bi (v := nI 99) (pc := 14) f_27_14 (by decide) ?_
      refine G_jgtZ (pc := 16) f_27_16 rfl (by first | exact nI_toInt (by omega) | exact zI_toInt (by omega) (by omega) | rfl) (by first | exact nI_toInt (by omega) | exact zI_toInt (by omega) (by omega) | rfl) (fun b2 => ?_) (fun b2 => ?_)
      · refine G_ic (v := zI (-1)) (pc := 38) f_27_38 (by decide) ?_
        refine G_ri (pc := 39) f_27_39 ?_
        exact ⟨rfl, Fc.rf⟩
      · exfalso; omega
    | succ d ih =>
      intro n hn M W
      have hK := W.1
      obtain ⟨⟨t0, t1, t2, t3, t4, t5, t6⟩, r0, r3, r4, r6, r7, r8⟩ := W.2.1
      obtain ⟨hD, ⟨v0, v1, v2⟩, vh, vr, vw, vf⟩ := W.2.2.1
      have hs := W.2.2.2.1
      have hh := W.2.2.2.2
      have hn0 : _ ≤ 8 := hD.1
      have hn1 : _ ≤ 6 := hD.2.1.2
      have hn2 : _ ≤ 8 := hD.2.2.1
      refine G_S (pc := 13) f_27_13 rfl rfl rfl ?_
      refine G_bi (v := nI 99) (pc := 14) f_27_14 (by decide) ?_
      refine G_jgtZ (pc := 16) f_27_16 rfl (by first | exact nI_toInt (by omega) | exact zI_toInt (by omega) (by omega) | rfl) (by first | exact nI_toInt (by omega) | exact zI_toInt (by omega) (by omega) | rfl) (fun b2 => ?_) (fun b2 => ?_)
      · exfalso; omega
      · refine G_S (pc := 19) f_27_19 rfl rfl rfl ?_
        refine G_S (pc := 20) f_27_20 rfl rfl rfl ?_
        refine G_S (pc := 21) f_27_21 rfl rfl rfl ?_
        refine G_S (pc := 22) f_27_22 rfl rfl rfl ?_
        refine G_S (pc := 23) f_27_23 rfl rfl rfl ?_
        refine G_CV (pc := 24) f_27_24 rfl rfl (by decide) rfl rfl (by first | assumption | exact hK.1 _ _ rfl) (by decide) ⟨Nat.le_of_ble_eq_true rfl, Nat.le_of_ble_eq_true rfl⟩ ?_
        refine CG.mono (k_upWith W hS8 hse (m := -(n : Int)) (by rw [nI_zI, zI_neg]) (by omega) (by omega)) ?_
        rintro _ M1 ⟨rfl, hF⟩
        first | refine G_bNe (pc := 27) f_27_27 rfl (fun b3 => ?_) (fun b3 => ?_) | refine G_zneZ (pc := 27) f_27_27 rfl (by first | exact nI_toInt (by omega) | exact zI_toInt (by omega) (by omega) | rfl) (fun b3 => ?_) (fun b3 => ?_)
        · first | refine G_inc1 (pc := 32) f_27_32 rfl ?_ | refine G_S (pc := 32) f_27_32 rfl rfl rfl ?_
          refine G_S (pc := 35) f_27_35 rfl rfl rfl ?_
          refine G.mono (ih (n + 1) (by omega) _ (W.fc hF o8283)) ?_
          rintro w M9 ⟨g1, g2⟩
          rw [leastF, b3]
          exact ⟨g1, hF.tr g2⟩
        · refine G_S (pc := 30) f_27_30 rfl rfl rfl ?_
          refine G_ri (pc := 31) f_27_31 ?_
          rw [leastF, (Bool.not_eq_true _).mp b3]
          exact ⟨rfl, hF⟩
  refine CG_in (mL := 4) (hl := false) (lv := [some (.ref 82), some (.ref h), some (.int (nI S)), none]) (ll := []) rfl rfl rfl ?_
  have hK := W.1
  obtain ⟨⟨t0, t1, t2, t3, t4, t5, t6⟩, r0, r3, r4, r6, r7, r8⟩ := W.2.1
  obtain ⟨hD, ⟨v0, v1, v2⟩, vh, vr, vw, vf⟩ := W.2.2.1
  have hs := W.2.2.2.1
  have hh := W.2.2.2.2
  have hn0 : _ ≤ 8 := hD.1
  have hn1 : _ ≤ 6 := hD.2.1.2
  have hn2 : _ ≤ 8 := hD.2.2.1
  refine G_S (pc := 0) f_27_0 rfl rfl rfl ?_
  refine G_S (pc := 1) f_27_1 rfl rfl rfl ?_
  refine G_S (pc := 2) f_27_2 rfl rfl rfl ?_
  refine G_CV (pc := 3) f_27_3 rfl rfl (by decide) rfl rfl (by first | assumption | exact hK.1 _ _ rfl) (by decide) ⟨Nat.le_of_ble_eq_true rfl, Nat.le_of_ble_eq_true rfl⟩ ?_
  refine CG.mono (k_up W hS) ?_
  rintro _ M1 ⟨rfl, hF⟩
  first | refine G_bNe (pc := 6) f_27_6 rfl (fun b1 => ?_) (fun b1 => ?_) | refine G_zneZ (pc := 6) f_27_6 rfl (by first | exact nI_toInt (by omega) | exact zI_toInt (by omega) (by omega) | rfl) (fun b1 => ?_) (fun b1 => ?_)
  · refine G_ic (v := nI 1) (pc := 11) f_27_11 (by decide) ?_
    refine G_S (pc := 12) f_27_12 rfl rfl rfl ?_
    refine G.mono (loop 99 1 rfl M1 (W.fc hF o8283)) ?_
    rintro w M9 ⟨g1, g2⟩
    rw [if_pos b1]
    exact ⟨g1, hF.tr g2⟩
  · refine G_ic (v := zI (-1)) (pc := 9) f_27_9 (by decide) ?_
    refine G_ri (pc := 10) f_27_10 ?_
    rw [if_neg b1]
    exact ⟨rfl, hF⟩
/-- those without whom it still gets up -/
def sprF (D : Nat → Nat) (S : Nat) : Nat → Int32
  | 0 => nI 0
  | r + 1 => sprF D S r ||| (if S.testBit r && gB D (S - 2 ^ r) 0 then nI 1 <<< (nI r &&& 31) else nI 0)
theorem sprF_n {D : Nat → Nat} {S r : Nat} (h : ¬ (S.testBit r = true ∧ gB D (S - 2 ^ r) 0 = true)) : sprF D S (r + 1) = sprF D S r ||| nI 0 := by
  rw [sprF, if_neg (fun q => h (by simpa only [Bool.and_eq_true] using q))]
theorem sprF_y {D : Nat → Nat} {S r : Nat} (h1 : S.testBit r = true) (h2 : gB D (S - 2 ^ r) 0 = true) : sprF D S (r + 1) = sprF D S r ||| (nI 1 <<< (nI r &&& 31)) := by
  rw [sprF, if_pos (by rw [h1, h2]; rfl)]
theorem xor_at : ∀ S, S < 256 → ∀ r, r < 8 → S.testBit r = true → nI S ^^^ (nI 1 <<< (nI r &&& 31)) = nI (S - 2 ^ r) := by decide +kernel
theorem or_0 (x : Int32) : x ||| nI 0 = x := Int32.or_zero
theorem k_needless (W : LW M h D) (hS : S < 2 ^ D 2) : CG C 28 [.ref 82, .ref h, .int (nI S)] M (fun w M' => w = some (.int (if gB D S 0 then sprF D S (D 2) else zI (-1))) ∧ Fc [82, 83] M M') := by
  have hS8 : S < 256 := pw2 W.2.2.1.1.2.2.1 hS
  have loop : ∀ i, i ≤ D 2 → ∀ M, LW M h D → G C 28 (16, [some (.ref 82), some (.ref h), some (.int (nI S)), some (.int (sprF D S i)), some (.int (nI i))], [], [], M) (fun w M' => w = some (.int (sprF D S (D 2))) ∧ Fc [82, 83] M M') := by
    refine upto (fun i hi ih M W => ?_)
    have hK := W.1
    obtain ⟨⟨t0, t1, t2, t3, t4, t5, t6⟩, r0, r3, r4, r6, r7, r8⟩ := W.2.1
    obtain ⟨hD, ⟨v0, v1, v2⟩, vh, vr, vw, vf⟩ := W.2.2.1
    have hs := W.2.2.2.1
    have hh := W.2.2.2.2
    have hn0 : _ ≤ 8 := hD.1
    have hn1 : _ ≤ 6 := hD.2.1.2
    have hn2 : _ ≤ 8 := hD.2.2.1
    refine G_S (pc := 16) f_28_16 rfl rfl rfl ?_
    refine G_S (pc := 18) f_28_18 rfl rfl rfl ?_
    refine G_gIv (pc := 19) f_28_19 (by decide) rfl (by decide) (by first | assumption | exact hK.1 _ _ rfl) (by first | assumption | (repeat (first | exact up2_s | refine up2_o (by first | decide | omega) ?_)) <;> first | assumption | rfl) ?_
    refine G_jgeZ (pc := 22) f_28_22 rfl (by first | exact nI_toInt (by omega) | exact zI_toInt (by omega) (by omega) | rfl) (by first | exact nI_toInt (by omega) | exact zI_toInt (by omega) (by omega) | rfl) (fun b2 => ?_) (fun b2 => ?_)
    · refine G_S (pc := 61) f_28_61 rfl rfl rfl ?_
      refine G_ri (pc := 62) f_28_62 ?_
      have e : i = D 2 := by omega
      rw [e]
      exact ⟨rfl, Fc.rf⟩
    · refine G_S (pc := 25) f_28_25 rfl rfl rfl ?_
      refine G_S (pc := 26) f_28_26 rfl rfl rfl ?_
      refine G_CS (pc := 28) f_28_28 rfl rfl (by decide) rfl rfl ⟨Nat.le_of_ble_eq_true rfl, Nat.le_of_ble_eq_true rfl⟩ ?_
      refine CG.go (c_holds (by omega) (by omega)) ?_
      first | refine G_bEq (pc := 31) f_28_31 rfl (fun b3 => ?_) (fun b3 => ?_) | refine G_zeqZ (pc := 31) f_28_31 rfl (by first | exact nI_toInt (by omega) | exact zI_toInt (by omega) (by omega) | rfl) (fun b3 => ?_) (fun b3 => ?_)
      · first | refine G_inc1 (pc := 55) f_28_55 rfl ?_ | refine G_S (pc := 55) f_28_55 rfl rfl rfl ?_
        refine G_S (pc := 58) f_28_58 rfl rfl rfl ?_
        have e := ih (by omega)
        first
          | (replace e := e M W
             rw [sprF_n (fun q => b3 q.1), or_0] at e
             exact e)
          | (replace e := e M1 (W.fc hF o8283)
             rw [sprF_n (fun q => b4 q.2), or_0] at e
             refine G.mono e ?_
             rintro w M9 ⟨g1, g2⟩
             exact ⟨g1, hF.tr g2⟩)
          | (replace e := e M1 (W.fc hF o8283)
             rw [sprF_y b3 b4] at e
             refine G.mono e ?_
             rintro w M9 ⟨g1, g2⟩
             exact ⟨g1, hF.tr g2⟩)
      · refine G_S (pc := 34) f_28_34 rfl rfl rfl ?_
        refine G_S (pc := 35) f_28_35 rfl rfl rfl ?_
        refine G_S (pc := 36) f_28_36 rfl rfl rfl ?_
        refine G_ic (v := nI 1) (pc := 37) f_28_37 (by decide) ?_
        refine G_S (pc := 38) f_28_38 rfl rfl rfl ?_
        refine G_S (pc := 40) f_28_40 rfl rfl rfl ?_
        refine G_S (pc := 41) f_28_41 rfl rfl rfl ?_
        refine G_CV (pc := 42) f_28_42 rfl rfl (by decide) rfl rfl (by first | assumption | exact hK.1 _ _ rfl) (by decide) ⟨Nat.le_of_ble_eq_true rfl, Nat.le_of_ble_eq_true rfl⟩ ?_
        refine CG.mono (by rw [xor_at S hS8 i (by omega) b3]; exact k_up W (Nat.lt_of_le_of_lt (Nat.sub_le _ _) hS)) ?_
        rintro _ M1 ⟨rfl, hF⟩
        first | refine G_bEq (pc := 45) f_28_45 rfl (fun b4 => ?_) (fun b4 => ?_) | refine G_zeqZ (pc := 45) f_28_45 rfl (by first | exact nI_toInt (by omega) | exact zI_toInt (by omega) (by omega) | rfl) (fun b4 => ?_) (fun b4 => ?_)
        · first | refine G_inc1 (pc := 55) f_28_55 rfl ?_ | refine G_S (pc := 55) f_28_55 rfl rfl rfl ?_
          refine G_S (pc := 58) f_28_58 rfl rfl rfl ?_
          have e := ih (by omega)
          first
            | (replace e := e M W
               rw [sprF_n (fun q => b3 q.1), or_0] at e
               exact e)
            | (replace e := e M1 (W.fc hF o8283)
               rw [sprF_n (fun q => b4 q.2), or_0] at e
               refine G.mono e ?_
               rintro w M9 ⟨g1, g2⟩
               exact ⟨g1, hF.tr g2⟩)
            | (replace e := e M1 (W.fc hF o8283)
               rw [sprF_y b3 b4] at e
               refine G.mono e ?_
               rintro w M9 ⟨g1, g2⟩
               exact ⟨g1, hF.tr g2⟩)
        · refine G_S (pc := 48) f_28_48 rfl rfl rfl ?_
          refine G_ic (v := nI 1) (pc := 49) f_28_49 (by decide) ?_
          refine G_S (pc := 50) f_28_50 rfl rfl rfl ?_
          refine G_S (pc := 52) f_28_52 rfl rfl rfl ?_
          refine G_S (pc := 53) f_28_53 rfl rfl rfl ?_
          refine G_S (pc := 54) f_28_54 rfl rfl rfl ?_
          first | refine G_inc1 (pc := 55) f_28_55 rfl ?_ | refine G_S (pc := 55) f_28_55 rfl rfl rfl ?_
          refine G_S (pc := 58) f_28_58 rfl rfl rfl ?_
          have e := ih (by omega)
          first
            | (replace e := e M W
               rw [sprF_n (fun q => b3 q.1), or_0] at e
               exact e)
            | (replace e := e M1 (W.fc hF o8283)
               rw [sprF_n (fun q => b4 q.2), or_0] at e
               refine G.mono e ?_
               rintro w M9 ⟨g1, g2⟩
               exact ⟨g1, hF.tr g2⟩)
            | (replace e := e M1 (W.fc hF o8283)
               rw [sprF_y b3 b4] at e
               refine G.mono e ?_
               rintro w M9 ⟨g1, g2⟩
               exact ⟨g1, hF.tr g2⟩)
  refine CG_in (mL := 5) (hl := false) (lv := [some (.ref 82), some (.ref h), some (.int (nI S)), none, none]) (ll := []) rfl rfl rfl ?_
  have hK := W.1
  obtain ⟨⟨t0, t1, t2, t3, t4, t5, t6⟩, r0, r3, r4, r6, r7, r8⟩ := W.2.1
  obtain ⟨hD, ⟨v0, v1, v2⟩, vh, vr, vw, vf⟩ := W.2.2.1
  have hs := W.2.2.2.1
  have hh := W.2.2.2.2
  have hn0 : _ ≤ 8 := hD.1
  have hn1 : _ ≤ 6 := hD.2.1.2
  have hn2 : _ ≤ 8 := hD.2.2.1
  refine G_S (pc := 0) f_28_0 rfl rfl rfl ?_
  refine G_S (pc := 1) f_28_1 rfl rfl rfl ?_
  refine G_S (pc := 2) f_28_2 rfl rfl rfl ?_
  refine G_CV (pc := 3) f_28_3 rfl rfl (by decide) rfl rfl (by first | assumption | exact hK.1 _ _ rfl) (by decide) ⟨Nat.le_of_ble_eq_true rfl, Nat.le_of_ble_eq_true rfl⟩ ?_
  refine CG.mono (k_up W hS) ?_
  rintro _ M1 ⟨rfl, hF⟩
  first | refine G_bNe (pc := 6) f_28_6 rfl (fun b1 => ?_) (fun b1 => ?_) | refine G_zneZ (pc := 6) f_28_6 rfl (by first | exact nI_toInt (by omega) | exact zI_toInt (by omega) (by omega) | rfl) (fun b1 => ?_) (fun b1 => ?_)
  · refine G_ic (v := nI 0) (pc := 11) f_28_11 (by decide) ?_
    refine G_S (pc := 12) f_28_12 rfl rfl rfl ?_
    refine G_ic (v := nI 0) (pc := 13) f_28_13 (by decide) ?_
    refine G_S (pc := 14) f_28_14 rfl rfl rfl ?_
    refine G.mono (loop 0 (Nat.zero_le _) M1 (W.fc hF o8283)) ?_
    rintro w M9 ⟨g1, g2⟩
    rw [if_pos b1]
    exact ⟨g1, hF.tr g2⟩
  · refine G_ic (v := zI (-1)) (pc := 9) f_28_9 (by decide) ?_
    refine G_ri (pc := 10) f_28_10 ?_
    rw [if_neg b1]
    exact ⟨rfl, hF⟩
end CK
