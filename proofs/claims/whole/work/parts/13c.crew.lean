section LDC
variable {C : Ct} {y pc len o i : Nat} {lv : Lv} {ll : Ll} {st : List Value} {M : Mm} {Q : Option Value → Mm → Prop} {ret : Option FieldType} {x v : Int32}
theorem G_lc (hf : fe y pc = some (.ldc_w i, len, o, ret)) (hk : lk KRL o i = some (.int x)) (hx : x = v) (K : G C y (pc + 3, lv, ll, .int v :: st, M) Q) : G C y (pc, lv, ll, st, M) Q := by
  subst hx
  refine G_S hf rfl rfl ?_ K
  simp only [stp, hk, push]
theorem G_lc1 (hf : fe y pc = some (.ldc i, len, o, ret)) (hk : lk KRL o i = some (.int x)) (hx : x = v) (K : G C y (pc + 2, lv, ll, .int v :: st, M) Q) : G C y (pc, lv, ll, st, M) Q := by
  subst hx
  refine G_S hf rfl rfl ?_ K
  simp only [stp, hk, push]
end LDC
theorem i_nat {x : Int32} {n : Nat} (h1 : 0 ≤ x.toInt) (h2 : x.toInt < n) : ∃ k, k < n ∧ x = nI k := by
  refine ⟨x.toInt.toNat, by omega, ?_⟩
  rw [nI_zI, Int.toNat_of_nonneg h1, ← zI_of]
def aComes (o : Option (Nat → Nat)) (x f : Int32) : Int32 := match o with
  | none => zI (-1)
  | some D => match isS D x with
    | none => zI (-1)
    | some S => if 0 ≤ f.toInt ∧ f.toInt ≤ (D 0 : Int) then nI (cmF D S (D 0 - f.toInt.toNat) f.toInt.toNat (layN D 0)).1 else zI (-1)
def aBears (o : Option (Nat → Nat)) (x f : Int32) : Int32 := match o with
  | none => zI (-2)
  | some D => match isS D x with
    | none => zI (-2)
    | some S => if f.toInt = -1 then oI (bestF (fun r => S.testBit r) (lastB D S) (D 2)) else if (0 ≤ f.toInt ∧ f.toInt < (D 2 : Int)) ∧ S.testBit f.toInt.toNat = true then nI (endB D S f.toInt.toNat) else zI (-2)
def aTurns (o : Option ((Nat → Nat) × Nat)) (y : Int32) : Int32 := match o with
  | none => zI (-1)
  | some (D, S) => match sea D y with
    | none => zI (-1)
    | some T => if (nI S &&& nI T).toInt = 0 then nI (tnF D S T 100 0 (layN D 0)) else zI (-1)
theorem isN {D : Nat → Nat} {x : Int32} (h : ¬ (isS D x).isSome = true) : isS D x = none := Option.not_isSome_iff_eq_none.mp h
theorem isY {D : Nat → Nat} {x : Int32} (h : (isS D x).isSome = true) : ∃ S, isS D x = some S := Option.isSome_iff_exists.mp h
theorem seN {D : Nat → Nat} {x : Int32} (h : ¬ (sea D x).isSome = true) : sea D x = none := Option.not_isSome_iff_eq_none.mp h
theorem seY {D : Nat → Nat} {x : Int32} (h : (sea D x).isSome = true) : ∃ S, sea D x = some S := Option.isSome_iff_exists.mp h
def lsI (D : Nat → Nat) (S : Nat) (d : Int32) : Option Nat → Int32
  | none => d
  | some c => zI (ovF D S c)
theorem ov_le {D : Nat → Nat} (hD : DOK D) {S j : Nat} (hj : j < 8) : -100 ≤ ovF D S j ∧ ovF D S j ≤ 5000 := by
  have h1 := plS_le D (b := itw D S j) (S := S) (n := D 2) (fun r _ => by have := itw_le D S j r; omega)
  have h2 := hD.2.2.2.1 j hj
  have h3 := hD.2.2.1
  unfold ovF
  omega
section CT1
variable {C : Ct} {M : Mm} {n l h S : Nat} {L : Nat → Nat → Nat} {k x y f : Int32} {D b : Nat → Nat}
theorem k_leastOver (W : LW M h D) (hS : S < 256) (hse : pc8 S ≤ D 1) : CG C 29 [.ref 82, .ref h, .int (nI S), .int x] M (fun w M' => w = some (.int (slkF D S x)) ∧ Fc [82, 83] M M') := by
  have loop : ∀ i, i ≤ D 0 → ∀ M1 a, CW M1 h D (itw D S i) → (∀ j, j < i → 0 ≤ ovF D S j) → G C 29 (14, [some (.ref 82), some (.ref h), some (.int (nI S)), some (.int x), some (.int ((oI (bestF (fun _ => true) (slkB D S) i)))), some (.int ((lsI D S (zI (-1)) (bestF (fun _ => true) (slkB D S) i)))), some (.int (nI i)), a], [], [], M1) (fun w M' => w = some (.int (slkF D S x)) ∧ Fc [82, 83] M1 M') := by
    refine upto (fun i hi ih M1 a W1 hj => ?_)
    have W0 := W1.1
    have hK := W0.1
    obtain ⟨⟨t0, t1, t2, t3, t4, t5, t6⟩, r0, r3, r4, r6, r7, r8⟩ := W0.2.1
    obtain ⟨hD, ⟨v0, v1, v2⟩, vh, vr, vw, vf⟩ := W0.2.2.1
    have hs := W0.2.2.2.1
    have hh := W0.2.2.2.2
    have hn0 : _ ≤ 8 := hD.1
    have hn1 : _ ≤ 6 := hD.2.1.2
    have hn2 : _ ≤ 8 := hD.2.2.1
    have q3 : ∀ c, bestF (fun _ => true) (slkB D S) i = some c → c < i ∧ true = true := fun c hc => bestF_lt hc
    have ho : i < D 0 → -100 ≤ ovF D S i ∧ ovF D S i ≤ 5000 := fun q => ov_le hD (by omega)
    have he : ovF D S i = (plS D (itw D S i) S (D 2) : Int) - (D (3 + i) : Int) := rfl
    refine G_S (pc := 14) f_29_14 rfl rfl rfl ?_
    refine G_S (pc := 16) f_29_16 rfl rfl rfl ?_
    refine G_gIv (pc := 17) f_29_17 (by decide) rfl (by decide) (by first | assumption | exact hK.1 _ _ rfl) (by first | assumption | (repeat (first | exact up2_s | refine up2_o (by first | decide | omega) ?_)) <;> first | assumption | rfl) ?_
    refine G_jgeZ (pc := 20) f_29_20 rfl (by first | exact nI_toInt (by omega) | exact zI_toInt (by omega) (by omega) | rfl) (by first | exact nI_toInt (by omega) | exact zI_toInt (by omega) (by omega) | rfl) (fun b1 => ?_) (fun b1 => ?_)
    · refine G_S (pc := 77) f_29_77 rfl rfl rfl ?_
      first | refine G_bEq (pc := 78) f_29_78 rfl (fun b5 => ?_) (fun b5 => ?_) | refine G_zeqZ (pc := 78) f_29_78 rfl (by first | exact nI_toInt (by omega) | exact zI_toInt (by omega) (by omega) | rfl) (fun b5 => ?_) (fun b5 => ?_)
      · refine G_S (pc := 86) f_29_86 rfl rfl rfl ?_
        refine G_ri (pc := 88) f_29_88 ?_
        refine ⟨?_, Fc.rf⟩
        congr 2
        unfold slkF
        first
          | (have e : i = D 0 := by omega
             subst e
             rw [if_pos ((gB_ov hse).mpr hj)]
             cases bestF (fun _ => true) (slkB D S) (D 0) with
             | none => rfl
             | some c => first | exact (if_pos b5).symm | exact (if_neg b5).symm)
          | (rw [if_neg (fun q => absurd ((gB_ov hse).mp q i (by omega)) (by omega))])
      · refine G_S (pc := 81) f_29_81 rfl rfl rfl ?_
        refine G_S (pc := 83) f_29_83 rfl rfl rfl ?_
        refine G_ri (pc := 88) f_29_88 ?_
        refine ⟨?_, Fc.rf⟩
        congr 2
        unfold slkF
        first
          | (have e : i = D 0 := by omega
             subst e
             rw [if_pos ((gB_ov hse).mpr hj)]
             cases bestF (fun _ => true) (slkB D S) (D 0) with
             | none => rfl
             | some c => first | exact (if_pos b5).symm | exact (if_neg b5).symm)
          | (rw [if_neg (fun q => absurd ((gB_ov hse).mp q i (by omega)) (by omega))])
    · have ho := ho (by omega)
      refine G_S (pc := 23) f_29_23 rfl rfl rfl ?_
      refine G_S (pc := 24) f_29_24 rfl rfl rfl ?_
      refine G_CV (pc := 25) f_29_25 rfl rfl (by decide) rfl rfl (by first | assumption | exact hK.1 _ _ rfl) (by decide) ⟨Nat.le_of_ble_eq_true rfl, Nat.le_of_ble_eq_true rfl⟩ ?_
      refine CG.go (k_pulls W1 hS) ?_
      refine G_S (pc := 28) f_29_28 rfl rfl rfl ?_
      refine G_gR (pc := 29) f_29_29 (by decide) rfl (by first | assumption | exact hK.1 _ _ rfl) (by first | assumption | exact hK.2 _ _ _ rfl | (repeat (first | exact up2_s | refine up2_o (by first | decide | omega) ?_)) <;> first | assumption | exact hK.2 _ _ _ rfl) ?_
      refine G_S (pc := 32) f_29_32 rfl rfl rfl ?_
      refine G_iaN (pc := 34) f_29_34 (by first | assumption | exact hK.1 _ _ rfl) (by omega) (by omega) (by first | assumption | exact q1 _ (by omega) | exact q2 _ (by omega) | exact q3 _ (by omega) | exact q4 _ (by omega) | exact q5 _ (by omega) | exact vh _ (by omega) | exact (vr _ (by omega)).1 | exact (vr _ (by omega)).2 | exact vw _ (by omega) | exact vf _ (by omega) (by omega) | rfl) ?_
      first | refine G_subN (pc := 35) f_29_35 (by omega) ?_ | refine G_subZ (pc := 35) f_29_35 (by first | rfl | exact nI_zI _) (by first | rfl | exact nI_zI _) ?_ | refine G_S (pc := 35) f_29_35 rfl rfl rfl ?_
      refine G_S (pc := 36) f_29_36 rfl rfl rfl ?_
      refine G_S (pc := 38) f_29_38 rfl rfl rfl ?_
      refine G_zgeZ (pc := 40) f_29_40 rfl (by first | exact nI_toInt (by omega) | exact zI_toInt (by omega) (by omega) | rfl) (fun b2 => ?_) (fun b2 => ?_)
      · refine G_S (pc := 45) f_29_45 rfl rfl rfl ?_
        refine G_ic (v := zI (-1)) (pc := 47) f_29_47 (by decide) ?_
        refine G_jeqZ (pc := 48) f_29_48 rfl (by first | exact nI_toInt (by omega) | exact zI_toInt (by omega) (by omega) | rfl) (by first | exact nI_toInt (by omega) | exact zI_toInt (by omega) (by omega) | rfl) (fun b3 => ?_) (fun b3 => ?_)
        · refine G_S (pc := 58) f_29_58 rfl rfl rfl ?_
          refine G_S (pc := 60) f_29_60 rfl rfl rfl ?_
          refine G_S (pc := 62) f_29_62 rfl rfl rfl ?_
          refine G_S (pc := 64) f_29_64 rfl rfl rfl ?_
          refine G_S (pc := 66) f_29_66 rfl rfl rfl ?_
          refine G_S (pc := 67) f_29_67 rfl rfl rfl ?_
          refine G_CV (pc := 68) f_29_68 rfl rfl (by decide) rfl rfl (by first | assumption | exact hK.1 _ _ rfl) (by decide) ⟨Nat.le_of_ble_eq_true rfl, Nat.le_of_ble_eq_true rfl⟩ ?_
          refine CG.mono (k_wear W1 hS) ?_
          rintro _ M2 ⟨rfl, hF, W2⟩
          first | refine G_inc1 (pc := 71) f_29_71 rfl ?_ | refine G_S (pc := 71) f_29_71 rfl rfl rfl ?_
          refine G_S (pc := 74) f_29_74 rfl rfl rfl ?_
          have e := ih (by omega) M2 (some (.int (zI (ovF D S i)))) W2 (fun j hj2 => by
            by_cases ej : j = i
            · rw [ej]; omega
            · exact hj j (by omega))
          first
            | (rw [bestF_first rfl (oI_m1 (fun c hc => by have := (q3 c hc).1; omega) b3)] at e
               refine G.mono e ?_
               rintro w M9 ⟨g1, g2⟩
               exact ⟨g1, (hF.sub (by decide)).tr g2⟩)
            | (rw [bestF_new rfl hc (decide_eq_true (by omega))] at e
               refine G.mono e ?_
               rintro w M9 ⟨g1, g2⟩
               exact ⟨g1, (hF.sub (by decide)).tr g2⟩)
            | (rw [bestF_keep hc (fun q => absurd (of_decide_eq_true q) (by omega))] at e
               refine G.mono e ?_
               rintro w M9 ⟨g1, g2⟩
               exact ⟨g1, (hF.sub (by decide)).tr g2⟩)
        · obtain ⟨c, hc⟩ := oI_nn b3
          have hc2 := (q3 c hc).1
          have ho2 := ov_le (S := S) hD (j := c) (by omega)
          rw [hc, oI_some, lsI]
          refine G_S (pc := 51) f_29_51 rfl rfl rfl ?_
          refine G_S (pc := 53) f_29_53 rfl rfl rfl ?_
          refine G_jgeZ (pc := 55) f_29_55 rfl (by first | exact nI_toInt (by omega) | exact zI_toInt (by omega) (by omega) | rfl) (by first | exact nI_toInt (by omega) | exact zI_toInt (by omega) (by omega) | rfl) (fun b4 => ?_) (fun b4 => ?_)
          · refine G_S (pc := 66) f_29_66 rfl rfl rfl ?_
            refine G_S (pc := 67) f_29_67 rfl rfl rfl ?_
            refine G_CV (pc := 68) f_29_68 rfl rfl (by decide) rfl rfl (by first | assumption | exact hK.1 _ _ rfl) (by decide) ⟨Nat.le_of_ble_eq_true rfl, Nat.le_of_ble_eq_true rfl⟩ ?_
            refine CG.mono (k_wear W1 hS) ?_
            rintro _ M2 ⟨rfl, hF, W2⟩
            first | refine G_inc1 (pc := 71) f_29_71 rfl ?_ | refine G_S (pc := 71) f_29_71 rfl rfl rfl ?_
            refine G_S (pc := 74) f_29_74 rfl rfl rfl ?_
            have e := ih (by omega) M2 (some (.int (zI (ovF D S i)))) W2 (fun j hj2 => by
              by_cases ej : j = i
              · rw [ej]; omega
              · exact hj j (by omega))
            first
              | (rw [bestF_first rfl (oI_m1 (fun c hc => by have := (q3 c hc).1; omega) b3)] at e
                 refine G.mono e ?_
                 rintro w M9 ⟨g1, g2⟩
                 exact ⟨g1, (hF.sub (by decide)).tr g2⟩)
              | (rw [bestF_new rfl hc (decide_eq_true (by omega))] at e
                 refine G.mono e ?_
                 rintro w M9 ⟨g1, g2⟩
                 exact ⟨g1, (hF.sub (by decide)).tr g2⟩)
              | (rw [bestF_keep hc (fun q => absurd (of_decide_eq_true q) (by omega))] at e
                 refine G.mono e ?_
                 rintro w M9 ⟨g1, g2⟩
                 exact ⟨g1, (hF.sub (by decide)).tr g2⟩)
          · refine G_S (pc := 58) f_29_58 rfl rfl rfl ?_
            refine G_S (pc := 60) f_29_60 rfl rfl rfl ?_
            refine G_S (pc := 62) f_29_62 rfl rfl rfl ?_
            refine G_S (pc := 64) f_29_64 rfl rfl rfl ?_
            refine G_S (pc := 66) f_29_66 rfl rfl rfl ?_
            refine G_S (pc := 67) f_29_67 rfl rfl rfl ?_
            refine G_CV (pc := 68) f_29_68 rfl rfl (by decide) rfl rfl (by first | assumption | exact hK.1 _ _ rfl) (by decide) ⟨Nat.le_of_ble_eq_true rfl, Nat.le_of_ble_eq_true rfl⟩ ?_
            refine CG.mono (k_wear W1 hS) ?_
            rintro _ M2 ⟨rfl, hF, W2⟩
            first | refine G_inc1 (pc := 71) f_29_71 rfl ?_ | refine G_S (pc := 71) f_29_71 rfl rfl rfl ?_
            refine G_S (pc := 74) f_29_74 rfl rfl rfl ?_
            have e := ih (by omega) M2 (some (.int (zI (ovF D S i)))) W2 (fun j hj2 => by
              by_cases ej : j = i
              · rw [ej]; omega
              · exact hj j (by omega))
            first
              | (rw [bestF_first rfl (oI_m1 (fun c hc => by have := (q3 c hc).1; omega) b3)] at e
                 refine G.mono e ?_
                 rintro w M9 ⟨g1, g2⟩
                 exact ⟨g1, (hF.sub (by decide)).tr g2⟩)
              | (rw [bestF_new rfl hc (decide_eq_true (by omega))] at e
                 refine G.mono e ?_
                 rintro w M9 ⟨g1, g2⟩
                 exact ⟨g1, (hF.sub (by decide)).tr g2⟩)
              | (rw [bestF_keep hc (fun q => absurd (of_decide_eq_true q) (by omega))] at e
                 refine G.mono e ?_
                 rintro w M9 ⟨g1, g2⟩
                 exact ⟨g1, (hF.sub (by decide)).tr g2⟩)
      · refine G_ic (v := zI (-1)) (pc := 43) f_29_43 (by decide) ?_
        refine G_ri (pc := 44) f_29_44 ?_
        refine ⟨?_, Fc.rf⟩
        congr 2
        unfold slkF
        first
          | (have e : i = D 0 := by omega
             subst e
             rw [if_pos ((gB_ov hse).mpr hj)]
             cases bestF (fun _ => true) (slkB D S) (D 0) with
             | none => rfl
             | some c => first | exact (if_pos b5).symm | exact (if_neg b5).symm)
          | (rw [if_neg (fun q => absurd ((gB_ov hse).mp q i (by omega)) (by omega))])
  refine CG_in (mL := 8) (hl := false) (lv := [some (.ref 82), some (.ref h), some (.int (nI S)), some (.int x), none, none, none, none]) (ll := []) rfl rfl rfl ?_
  have hK := W.1
  obtain ⟨⟨t0, t1, t2, t3, t4, t5, t6⟩, r0, r3, r4, r6, r7, r8⟩ := W.2.1
  obtain ⟨hD, ⟨v0, v1, v2⟩, vh, vr, vw, vf⟩ := W.2.2.1
  have hs := W.2.2.2.1
  have hh := W.2.2.2.2
  have hn0 : _ ≤ 8 := hD.1
  have hn1 : _ ≤ 6 := hD.2.1.2
  have hn2 : _ ≤ 8 := hD.2.2.1
  refine G_ic (v := zI (-1)) (pc := 0) f_29_0 (by decide) ?_
  refine G_S (pc := 1) f_29_1 rfl rfl rfl ?_
  refine G_ic (v := zI (-1)) (pc := 3) f_29_3 (by decide) ?_
  refine G_S (pc := 4) f_29_4 rfl rfl rfl ?_
  refine G_S (pc := 6) f_29_6 rfl rfl rfl ?_
  refine G_S (pc := 7) f_29_7 rfl rfl rfl ?_
  refine G_CV (pc := 8) f_29_8 rfl rfl (by decide) rfl rfl (by first | assumption | exact hK.1 _ _ rfl) (by decide) ⟨Nat.le_of_ble_eq_true rfl, Nat.le_of_ble_eq_true rfl⟩ ?_
  refine CG.mono (k_begin W) ?_
  rintro _ M1 ⟨rfl, hF, W1⟩
  refine G_ic (v := nI 0) (pc := 11) f_29_11 (by decide) ?_
  refine G_S (pc := 12) f_29_12 rfl rfl rfl ?_
  refine G.mono (loop 0 (Nat.zero_le _) M1 none W1 (fun j hj => absurd hj (by omega))) ?_
  rintro w M9 ⟨g1, g2⟩
  exact ⟨g1, hF.tr g2⟩
theorem c_comes (W : CLs M n L) : CG C 159 [.ref 0, .int k, .int x, .int f] M (fun w M' => w = some (.int (aComes (lin n L k) x f)) ∧ Fc CS M M') := by
  have hK := W.1
  cases hl : lin n L k with
  | none =>
    refine CG_in (mL := 5) (hl := false) (lv := [some (.ref 0), some (.int k), some (.int x), some (.int f), none]) (ll := []) rfl rfl rfl ?_
    refine G_S (pc := 0) f_159_0 rfl rfl rfl ?_
    refine G_S (pc := 1) f_159_1 rfl rfl rfl ?_
    refine G_CV (pc := 2) f_159_2 rfl rfl (by decide) rfl rfl (by first | assumption | exact hK.1 _ _ rfl) (by decide) ⟨Nat.le_of_ble_eq_true rfl, Nat.le_of_ble_eq_true rfl⟩ ?_
    refine CG.go (c_lineAtN W hl) ?_
    refine G_S (pc := 5) f_159_5 rfl rfl rfl ?_
    refine G_S (pc := 7) f_159_7 rfl rfl rfl ?_
    refine G_S (pc := 9) f_159_9 rfl rfl rfl ?_
    refine G_ic (v := zI (-1)) (pc := 34) f_159_34 (by decide) ?_
    refine G_ri (pc := 35) f_159_35 ?_
    exact ⟨rfl, Fc.rf⟩
  | some D =>
    refine CG_in (mL := 5) (hl := false) (lv := [some (.ref 0), some (.int k), some (.int x), some (.int f), none]) (ll := []) rfl rfl rfl ?_
    refine G_S (pc := 0) f_159_0 rfl rfl rfl ?_
    refine G_S (pc := 1) f_159_1 rfl rfl rfl ?_
    refine G_CV (pc := 2) f_159_2 rfl rfl (by decide) rfl rfl (by first | assumption | exact hK.1 _ _ rfl) (by decide) ⟨Nat.le_of_ble_eq_true rfl, Nat.le_of_ble_eq_true rfl⟩ ?_
    refine CG.mono (c_lineAtS W hl) ?_
    rintro _ M1 ⟨⟨h, rfl, W1⟩, rfl⟩
    have hK := W1.1
    obtain ⟨⟨t0, t1, t2, t3, t4, t5, t6⟩, r0, r3, r4, r6, r7, r8⟩ := W1.2.1
    obtain ⟨hD, ⟨v0, v1, v2⟩, vh, vr, vw, vf⟩ := W1.2.2.1
    have hs := W1.2.2.2.1
    have hh := W1.2.2.2.2
    have hn0 : _ ≤ 8 := hD.1
    have hn1 : _ ≤ 6 := hD.2.1.2
    have hn2 : _ ≤ 8 := hD.2.2.1
    refine G_S (pc := 5) f_159_5 rfl rfl rfl ?_
    refine G_S (pc := 7) f_159_7 rfl rfl rfl ?_
    refine G_S (pc := 9) f_159_9 rfl rfl (if_pos (by first | assumption | omega)) ?_
    refine G_S (pc := 12) f_159_12 rfl rfl rfl ?_
    refine G_S (pc := 14) f_159_14 rfl rfl rfl ?_
    refine G_CV (pc := 15) f_159_15 rfl rfl (by decide) rfl rfl (by first | assumption | exact hK.1 _ _ rfl) (by decide) ⟨Nat.le_of_ble_eq_true rfl, Nat.le_of_ble_eq_true rfl⟩ ?_
    refine CG.go (c_hasN W1) ?_
    first | refine G_bEq (pc := 18) f_159_18 rfl (fun b2 => ?_) (fun b2 => ?_) | refine G_zeqZ (pc := 18) f_159_18 rfl (by first | exact nI_toInt (by omega) | exact zI_toInt (by omega) (by omega) | rfl) (fun b2 => ?_) (fun b2 => ?_)
    · refine G_ic (v := zI (-1)) (pc := 34) f_159_34 (by decide) ?_
      refine G_ri (pc := 35) f_159_35 ?_
      unfold aComes
      dsimp only
      first
        | (rw [isN b2]; exact ⟨rfl, Fc.rf⟩)
        | (rw [hS]; exact ⟨congrArg (fun z => some (Value.int z)) (if_neg (by omega)).symm, Fc.rf⟩)
        | (rw [hS]
           refine ⟨?_, (hF.sub (by decide)).tr (hF2.sub (by decide))⟩
           rw [nI_toInt (by omega), Int.toNat_natCast]
           exact congrArg (fun z => some (Value.int z)) (if_pos (by omega)).symm)
    · obtain ⟨S, hS⟩ := isY b2
      obtain ⟨hS1, rfl⟩ := isS_some hS
      refine G_S (pc := 21) f_159_21 rfl rfl rfl ?_
      refine G_zltZ (pc := 22) f_159_22 rfl (by first | exact nI_toInt (by omega) | exact zI_toInt (by omega) (by omega) | rfl) (fun b3 => ?_) (fun b3 => ?_)
      · refine G_ic (v := zI (-1)) (pc := 34) f_159_34 (by decide) ?_
        refine G_ri (pc := 35) f_159_35 ?_
        unfold aComes
        dsimp only
        first
          | (rw [isN b2]; exact ⟨rfl, Fc.rf⟩)
          | (rw [hS]; exact ⟨congrArg (fun z => some (Value.int z)) (if_neg (by omega)).symm, Fc.rf⟩)
          | (rw [hS]
             refine ⟨?_, (hF.sub (by decide)).tr (hF2.sub (by decide))⟩
             rw [nI_toInt (by omega), Int.toNat_natCast]
             exact congrArg (fun z => some (Value.int z)) (if_pos (by omega)).symm)
      · refine G_S (pc := 25) f_159_25 rfl rfl rfl ?_
        refine G_S (pc := 26) f_159_26 rfl rfl rfl ?_
        refine G_gIv (pc := 28) f_159_28 (by decide) rfl (by decide) (by first | assumption | exact hK.1 _ _ rfl) (by first | assumption | (repeat (first | exact up2_s | refine up2_o (by first | decide | omega) ?_)) <;> first | assumption | rfl) ?_
        refine G_jleZ (pc := 31) f_159_31 rfl (by first | exact nI_toInt (by omega) | exact zI_toInt (by omega) (by omega) | rfl) (by first | exact nI_toInt (by omega) | exact zI_toInt (by omega) (by omega) | rfl) (fun b4 => ?_) (fun b4 => ?_)
        · obtain ⟨c, hc, rfl⟩ := i_nat (n := D 0 + 1) b3 (by omega)
          refine G_S (pc := 36) f_159_36 rfl rfl rfl ?_
          refine G_gR (pc := 37) f_159_37 (by decide) rfl (by first | assumption | exact hK.1 _ _ rfl) (by first | assumption | exact hK.2 _ _ _ rfl | (repeat (first | exact up2_s | refine up2_o (by first | decide | omega) ?_)) <;> first | assumption | exact hK.2 _ _ _ rfl) ?_
          refine G_S (pc := 40) f_159_40 rfl rfl rfl ?_
          refine G_CV (pc := 42) f_159_42 rfl rfl (by decide) rfl rfl (by first | assumption | exact hK.1 _ _ rfl) (by decide) ⟨Nat.le_of_ble_eq_true rfl, Nat.le_of_ble_eq_true rfl⟩ ?_
          refine CG.mono (k_begin W1) ?_
          rintro _ M2 ⟨rfl, hF, W2⟩
          have hK := W2.1.1
          refine G_S (pc := 45) f_159_45 rfl rfl rfl ?_
          refine G_gR (pc := 46) f_159_46 (by decide) rfl (by first | assumption | exact hK.1 _ _ rfl) (by first | assumption | exact hK.2 _ _ _ rfl | (repeat (first | exact up2_s | refine up2_o (by first | decide | omega) ?_)) <;> first | assumption | exact hK.2 _ _ _ rfl) ?_
          refine G_S (pc := 49) f_159_49 rfl rfl rfl ?_
          refine G_S (pc := 50) f_159_50 rfl rfl rfl ?_
          refine G_CV (pc := 51) f_159_51 rfl rfl (by decide) rfl rfl (by first | assumption | exact hK.1 _ _ rfl) (by decide) ⟨Nat.le_of_ble_eq_true rfl, Nat.le_of_ble_eq_true rfl⟩ ?_
          refine CG.mono (k_climb W2 (pw2 hn2 hS1) (by omega)) ?_
          rintro _ M3 ⟨rfl, hF2, W3⟩
          refine G_ri (pc := 54) f_159_54 ?_
          unfold aComes
          dsimp only
          first
            | (rw [isN b2]; exact ⟨rfl, Fc.rf⟩)
            | (rw [hS]; exact ⟨congrArg (fun z => some (Value.int z)) (if_neg (by omega)).symm, Fc.rf⟩)
            | (rw [hS]
               refine ⟨?_, (hF.sub (by decide)).tr (hF2.sub (by decide))⟩
               rw [nI_toInt (by omega), Int.toNat_natCast]
               exact congrArg (fun z => some (Value.int z)) (if_pos (by omega)).symm)
        · refine G_ic (v := zI (-1)) (pc := 34) f_159_34 (by decide) ?_
          refine G_ri (pc := 35) f_159_35 ?_
          unfold aComes
          dsimp only
          first
            | (rw [isN b2]; exact ⟨rfl, Fc.rf⟩)
            | (rw [hS]; exact ⟨congrArg (fun z => some (Value.int z)) (if_neg (by omega)).symm, Fc.rf⟩)
            | (rw [hS]
               refine ⟨?_, (hF.sub (by decide)).tr (hF2.sub (by decide))⟩
               rw [nI_toInt (by omega), Int.toNat_natCast]
               exact congrArg (fun z => some (Value.int z)) (if_pos (by omega)).symm)
theorem c_bears (W : CLs M n L) : CG C 160 [.ref 0, .int k, .int x, .int f] M (fun w M' => w = some (.int (aBears (lin n L k) x f)) ∧ Fc CS M M') := by
  have hK := W.1
  cases hl : lin n L k with
  | none =>
    refine CG_in (mL := 5) (hl := false) (lv := [some (.ref 0), some (.int k), some (.int x), some (.int f), none]) (ll := []) rfl rfl rfl ?_
    refine G_S (pc := 0) f_160_0 rfl rfl rfl ?_
    refine G_S (pc := 1) f_160_1 rfl rfl rfl ?_
    refine G_CV (pc := 2) f_160_2 rfl rfl (by decide) rfl rfl (by first | assumption | exact hK.1 _ _ rfl) (by decide) ⟨Nat.le_of_ble_eq_true rfl, Nat.le_of_ble_eq_true rfl⟩ ?_
    refine CG.go (c_lineAtN W hl) ?_
    refine G_S (pc := 5) f_160_5 rfl rfl rfl ?_
    refine G_S (pc := 7) f_160_7 rfl rfl rfl ?_
    refine G_S (pc := 9) f_160_9 rfl rfl rfl ?_
    refine G_bi (v := zI (-2)) (pc := 21) f_160_21 (by decide) ?_
    refine G_ri (pc := 23) f_160_23 ?_
    exact ⟨rfl, Fc.rf⟩
  | some D =>
    refine CG_in (mL := 5) (hl := false) (lv := [some (.ref 0), some (.int k), some (.int x), some (.int f), none]) (ll := []) rfl rfl rfl ?_
    refine G_S (pc := 0) f_160_0 rfl rfl rfl ?_
    refine G_S (pc := 1) f_160_1 rfl rfl rfl ?_
    refine G_CV (pc := 2) f_160_2 rfl rfl (by decide) rfl rfl (by first | assumption | exact hK.1 _ _ rfl) (by decide) ⟨Nat.le_of_ble_eq_true rfl, Nat.le_of_ble_eq_true rfl⟩ ?_
    refine CG.mono (c_lineAtS W hl) ?_
    rintro _ M1 ⟨⟨h, rfl, W1⟩, rfl⟩
    have hK := W1.1
    obtain ⟨⟨t0, t1, t2, t3, t4, t5, t6⟩, r0, r3, r4, r6, r7, r8⟩ := W1.2.1
    obtain ⟨hD, ⟨v0, v1, v2⟩, vh, vr, vw, vf⟩ := W1.2.2.1
    have hs := W1.2.2.2.1
    have hh := W1.2.2.2.2
    have hn0 : _ ≤ 8 := hD.1
    have hn1 : _ ≤ 6 := hD.2.1.2
    have hn2 : _ ≤ 8 := hD.2.2.1
    refine G_S (pc := 5) f_160_5 rfl rfl rfl ?_
    refine G_S (pc := 7) f_160_7 rfl rfl rfl ?_
    refine G_S (pc := 9) f_160_9 rfl rfl (if_pos (by first | assumption | omega)) ?_
    refine G_S (pc := 12) f_160_12 rfl rfl rfl ?_
    refine G_S (pc := 14) f_160_14 rfl rfl rfl ?_
    refine G_CV (pc := 15) f_160_15 rfl rfl (by decide) rfl rfl (by first | assumption | exact hK.1 _ _ rfl) (by decide) ⟨Nat.le_of_ble_eq_true rfl, Nat.le_of_ble_eq_true rfl⟩ ?_
    refine CG.go (c_hasN W1) ?_
    first | refine G_bNe (pc := 18) f_160_18 rfl (fun b2 => ?_) (fun b2 => ?_) | refine G_zneZ (pc := 18) f_160_18 rfl (by first | exact nI_toInt (by omega) | exact zI_toInt (by omega) (by omega) | rfl) (fun b2 => ?_) (fun b2 => ?_)
    · obtain ⟨S, hS⟩ := isY b2
      obtain ⟨hS1, rfl⟩ := isS_some hS
      have hS8 := pw2 hn2 hS1
      refine G_S (pc := 24) f_160_24 rfl rfl rfl ?_
      refine G_ic (v := zI (-1)) (pc := 25) f_160_25 (by decide) ?_
      refine G_jneZ (pc := 26) f_160_26 rfl (by first | exact nI_toInt (by omega) | exact zI_toInt (by omega) (by omega) | rfl) (by first | exact nI_toInt (by omega) | exact zI_toInt (by omega) (by omega) | rfl) (fun b3 => ?_) (fun b3 => ?_)
      · refine G_S (pc := 40) f_160_40 rfl rfl rfl ?_
        refine G_zltZ (pc := 41) f_160_41 rfl (by first | exact nI_toInt (by omega) | exact zI_toInt (by omega) (by omega) | rfl) (fun b4 => ?_) (fun b4 => ?_)
        · refine G_bi (v := zI (-2)) (pc := 61) f_160_61 (by decide) ?_
          refine G_ri (pc := 63) f_160_63 ?_
          unfold aBears
          dsimp only
          first
            | (rw [isN b2]; exact ⟨rfl, Fc.rf⟩)
            | (rw [hS]; exact ⟨congrArg (fun z => some (Value.int z)) (if_pos b3).symm, hF.sub (by decide)⟩)
            | (rw [hS]; dsimp only; rw [if_neg b3, if_neg (fun q => absurd q.1 (by omega))]; exact ⟨rfl, Fc.rf⟩)
            | (rw [nI_toInt (by omega), Int.toNat_natCast] at *
               rw [hS]; dsimp only; rw [if_neg (by omega), if_neg (fun q => b6 q.2)]; exact ⟨rfl, Fc.rf⟩)
            | (rw [hS]; dsimp only; rw [nI_toInt (by omega), Int.toNat_natCast, if_neg (by omega), if_pos ⟨by omega, b6⟩]; exact ⟨rfl, hF.sub (by decide)⟩)
            | (rw [hS]; dsimp only; rw [nI_toInt (by omega), Int.toNat_natCast, if_neg (by omega), if_neg (fun q => b6 q.2)]; exact ⟨rfl, Fc.rf⟩)
        · refine G_S (pc := 44) f_160_44 rfl rfl rfl ?_
          refine G_S (pc := 45) f_160_45 rfl rfl rfl ?_
          refine G_gIv (pc := 47) f_160_47 (by decide) rfl (by decide) (by first | assumption | exact hK.1 _ _ rfl) (by first | assumption | (repeat (first | exact up2_s | refine up2_o (by first | decide | omega) ?_)) <;> first | assumption | rfl) ?_
          refine G_jgeZ (pc := 50) f_160_50 rfl (by first | exact nI_toInt (by omega) | exact zI_toInt (by omega) (by omega) | rfl) (by first | exact nI_toInt (by omega) | exact zI_toInt (by omega) (by omega) | rfl) (fun b5 => ?_) (fun b5 => ?_)
          · refine G_bi (v := zI (-2)) (pc := 61) f_160_61 (by decide) ?_
            refine G_ri (pc := 63) f_160_63 ?_
            unfold aBears
            dsimp only
            first
              | (rw [isN b2]; exact ⟨rfl, Fc.rf⟩)
              | (rw [hS]; exact ⟨congrArg (fun z => some (Value.int z)) (if_pos b3).symm, hF.sub (by decide)⟩)
              | (rw [hS]; dsimp only; rw [if_neg b3, if_neg (fun q => absurd q.1 (by omega))]; exact ⟨rfl, Fc.rf⟩)
              | (rw [nI_toInt (by omega), Int.toNat_natCast] at *
                 rw [hS]; dsimp only; rw [if_neg (by omega), if_neg (fun q => b6 q.2)]; exact ⟨rfl, Fc.rf⟩)
              | (rw [hS]; dsimp only; rw [nI_toInt (by omega), Int.toNat_natCast, if_neg (by omega), if_pos ⟨by omega, b6⟩]; exact ⟨rfl, hF.sub (by decide)⟩)
              | (rw [hS]; dsimp only; rw [nI_toInt (by omega), Int.toNat_natCast, if_neg (by omega), if_neg (fun q => b6 q.2)]; exact ⟨rfl, Fc.rf⟩)
          · obtain ⟨c, hc, rfl⟩ := i_nat (n := D 2) b4 (by omega)
            refine G_S (pc := 53) f_160_53 rfl rfl rfl ?_
            refine G_S (pc := 54) f_160_54 rfl rfl rfl ?_
            refine G_CS (pc := 55) f_160_55 rfl rfl (by decide) rfl rfl ⟨Nat.le_of_ble_eq_true rfl, Nat.le_of_ble_eq_true rfl⟩ ?_
            refine CG.go (c_holds (by omega) (by omega)) ?_
            first | refine G_bNe (pc := 58) f_160_58 rfl (fun b6 => ?_) (fun b6 => ?_) | refine G_zneZ (pc := 58) f_160_58 rfl (by first | exact nI_toInt (by omega) | exact zI_toInt (by omega) (by omega) | rfl) (fun b6 => ?_) (fun b6 => ?_)
            · refine G_S (pc := 64) f_160_64 rfl rfl rfl ?_
              refine G_gR (pc := 65) f_160_65 (by decide) rfl (by first | assumption | exact hK.1 _ _ rfl) (by first | assumption | exact hK.2 _ _ _ rfl | (repeat (first | exact up2_s | refine up2_o (by first | decide | omega) ?_)) <;> first | assumption | exact hK.2 _ _ _ rfl) ?_
              refine G_S (pc := 68) f_160_68 rfl rfl rfl ?_
              refine G_S (pc := 70) f_160_70 rfl rfl rfl ?_
              refine G_S (pc := 71) f_160_71 rfl rfl rfl ?_
              refine G_CV (pc := 72) f_160_72 rfl rfl (by decide) rfl rfl (by first | assumption | exact hK.1 _ _ rfl) (by decide) ⟨Nat.le_of_ble_eq_true rfl, Nat.le_of_ble_eq_true rfl⟩ ?_
              refine CG.mono (k_leftOf W1 hS8 hc) ?_
              rintro _ M2 ⟨rfl, hF⟩
              refine G_ri (pc := 75) f_160_75 ?_
              unfold aBears
              dsimp only
              first
                | (rw [isN b2]; exact ⟨rfl, Fc.rf⟩)
                | (rw [hS]; exact ⟨congrArg (fun z => some (Value.int z)) (if_pos b3).symm, hF.sub (by decide)⟩)
                | (rw [hS]; dsimp only; rw [if_neg b3, if_neg (fun q => absurd q.1 (by omega))]; exact ⟨rfl, Fc.rf⟩)
                | (rw [nI_toInt (by omega), Int.toNat_natCast] at *
                   rw [hS]; dsimp only; rw [if_neg (by omega), if_neg (fun q => b6 q.2)]; exact ⟨rfl, Fc.rf⟩)
                | (rw [hS]; dsimp only; rw [nI_toInt (by omega), Int.toNat_natCast, if_neg (by omega), if_pos ⟨by omega, b6⟩]; exact ⟨rfl, hF.sub (by decide)⟩)
                | (rw [hS]; dsimp only; rw [nI_toInt (by omega), Int.toNat_natCast, if_neg (by omega), if_neg (fun q => b6 q.2)]; exact ⟨rfl, Fc.rf⟩)
            · refine G_bi (v := zI (-2)) (pc := 61) f_160_61 (by decide) ?_
              refine G_ri (pc := 63) f_160_63 ?_
              unfold aBears
              dsimp only
              first
                | (rw [isN b2]; exact ⟨rfl, Fc.rf⟩)
                | (rw [hS]; exact ⟨congrArg (fun z => some (Value.int z)) (if_pos b3).symm, hF.sub (by decide)⟩)
                | (rw [hS]; dsimp only; rw [if_neg b3, if_neg (fun q => absurd q.1 (by omega))]; exact ⟨rfl, Fc.rf⟩)
                | (rw [nI_toInt (by omega), Int.toNat_natCast] at *
                   rw [hS]; dsimp only; rw [if_neg (by omega), if_neg (fun q => b6 q.2)]; exact ⟨rfl, Fc.rf⟩)
                | (rw [hS]; dsimp only; rw [nI_toInt (by omega), Int.toNat_natCast, if_neg (by omega), if_pos ⟨by omega, b6⟩]; exact ⟨rfl, hF.sub (by decide)⟩)
                | (rw [hS]; dsimp only; rw [nI_toInt (by omega), Int.toNat_natCast, if_neg (by omega), if_neg (fun q => b6 q.2)]; exact ⟨rfl, Fc.rf⟩)
      · refine G_S (pc := 29) f_160_29 rfl rfl rfl ?_
        refine G_gR (pc := 30) f_160_30 (by decide) rfl (by first | assumption | exact hK.1 _ _ rfl) (by first | assumption | exact hK.2 _ _ _ rfl | (repeat (first | exact up2_s | refine up2_o (by first | decide | omega) ?_)) <;> first | assumption | exact hK.2 _ _ _ rfl) ?_
        refine G_S (pc := 33) f_160_33 rfl rfl rfl ?_
        refine G_S (pc := 35) f_160_35 rfl rfl rfl ?_
        refine G_CV (pc := 36) f_160_36 rfl rfl (by decide) rfl rfl (by first | assumption | exact hK.1 _ _ rfl) (by decide) ⟨Nat.le_of_ble_eq_true rfl, Nat.le_of_ble_eq_true rfl⟩ ?_
        refine CG.mono (k_lastLeft W1 hS8) ?_
        rintro _ M2 ⟨rfl, hF⟩
        refine G_ri (pc := 39) f_160_39 ?_
        unfold aBears
        dsimp only
        first
          | (rw [isN b2]; exact ⟨rfl, Fc.rf⟩)
          | (rw [hS]; exact ⟨congrArg (fun z => some (Value.int z)) (if_pos b3).symm, hF.sub (by decide)⟩)
          | (rw [hS]; dsimp only; rw [if_neg b3, if_neg (fun q => absurd q.1 (by omega))]; exact ⟨rfl, Fc.rf⟩)
          | (rw [nI_toInt (by omega), Int.toNat_natCast] at *
             rw [hS]; dsimp only; rw [if_neg (by omega), if_neg (fun q => b6 q.2)]; exact ⟨rfl, Fc.rf⟩)
          | (rw [hS]; dsimp only; rw [nI_toInt (by omega), Int.toNat_natCast, if_neg (by omega), if_pos ⟨by omega, b6⟩]; exact ⟨rfl, hF.sub (by decide)⟩)
          | (rw [hS]; dsimp only; rw [nI_toInt (by omega), Int.toNat_natCast, if_neg (by omega), if_neg (fun q => b6 q.2)]; exact ⟨rfl, Fc.rf⟩)
    · refine G_bi (v := zI (-2)) (pc := 21) f_160_21 (by decide) ?_
      refine G_ri (pc := 23) f_160_23 ?_
      unfold aBears
      dsimp only
      first
        | (rw [isN b2]; exact ⟨rfl, Fc.rf⟩)
        | (rw [hS]; exact ⟨congrArg (fun z => some (Value.int z)) (if_pos b3).symm, hF.sub (by decide)⟩)
        | (rw [hS]; dsimp only; rw [if_neg b3, if_neg (fun q => absurd q.1 (by omega))]; exact ⟨rfl, Fc.rf⟩)
        | (rw [nI_toInt (by omega), Int.toNat_natCast] at *
           rw [hS]; dsimp only; rw [if_neg (by omega), if_neg (fun q => b6 q.2)]; exact ⟨rfl, Fc.rf⟩)
        | (rw [hS]; dsimp only; rw [nI_toInt (by omega), Int.toNat_natCast, if_neg (by omega), if_pos ⟨by omega, b6⟩]; exact ⟨rfl, hF.sub (by decide)⟩)
        | (rw [hS]; dsimp only; rw [nI_toInt (by omega), Int.toNat_natCast, if_neg (by omega), if_neg (fun q => b6 q.2)]; exact ⟨rfl, Fc.rf⟩)
theorem c_byTurns (W : CLs M n L) : CG C 162 [.ref 0, .int k, .int x, .int y] M (fun w M' => w = some (.int (aTurns (slin n L k x) y)) ∧ Fc CS M M') := by
  have hK := W.1
  cases hx : slin n L k x with
  | none =>
    refine CG_in (mL := 5) (hl := false) (lv := [some (.ref 0), some (.int k), some (.int x), some (.int y), none]) (ll := []) rfl rfl rfl ?_
    refine G_S (pc := 0) f_162_0 rfl rfl rfl ?_
    refine G_S (pc := 1) f_162_1 rfl rfl rfl ?_
    refine G_S (pc := 2) f_162_2 rfl rfl rfl ?_
    refine G_CV (pc := 3) f_162_3 rfl rfl (by decide) rfl rfl (by first | assumption | exact hK.1 _ _ rfl) (by decide) ⟨Nat.le_of_ble_eq_true rfl, Nat.le_of_ble_eq_true rfl⟩ ?_
    refine CG.go (c_for0 W hx) ?_
    refine G_S (pc := 6) f_162_6 rfl rfl rfl ?_
    refine G_S (pc := 8) f_162_8 rfl rfl rfl ?_
    refine G_S (pc := 10) f_162_10 rfl rfl rfl ?_
    refine G_ic (v := zI (-1)) (pc := 28) f_162_28 (by decide) ?_
    refine G_ri (pc := 29) f_162_29 ?_
    exact ⟨rfl, Fc.rf⟩
  | some q =>
    obtain ⟨D, S⟩ := q
    obtain ⟨hS, rfl, hse⟩ := sea_some (slin_some hx).2
    refine CG_in (mL := 5) (hl := false) (lv := [some (.ref 0), some (.int k), some (.int (nI S)), some (.int y), none]) (ll := []) rfl rfl rfl ?_
    refine G_S (pc := 0) f_162_0 rfl rfl rfl ?_
    refine G_S (pc := 1) f_162_1 rfl rfl rfl ?_
    refine G_S (pc := 2) f_162_2 rfl rfl rfl ?_
    refine G_CV (pc := 3) f_162_3 rfl rfl (by decide) rfl rfl (by first | assumption | exact hK.1 _ _ rfl) (by decide) ⟨Nat.le_of_ble_eq_true rfl, Nat.le_of_ble_eq_true rfl⟩ ?_
    refine CG.mono (c_for1 W hx) ?_
    rintro _ M1 ⟨⟨h, rfl, W1⟩, rfl⟩
    have hK := W1.1
    obtain ⟨⟨t0, t1, t2, t3, t4, t5, t6⟩, r0, r3, r4, r6, r7, r8⟩ := W1.2.1
    obtain ⟨hD, ⟨v0, v1, v2⟩, vh, vr, vw, vf⟩ := W1.2.2.1
    have hs := W1.2.2.2.1
    have hh := W1.2.2.2.2
    have hn0 : _ ≤ 8 := hD.1
    have hn1 : _ ≤ 6 := hD.2.1.2
    have hn2 : _ ≤ 8 := hD.2.2.1
    refine G_S (pc := 6) f_162_6 rfl rfl rfl ?_
    refine G_S (pc := 8) f_162_8 rfl rfl rfl ?_
    refine G_S (pc := 10) f_162_10 rfl rfl (if_pos (by first | assumption | omega)) ?_
    refine G_S (pc := 13) f_162_13 rfl rfl rfl ?_
    refine G_S (pc := 15) f_162_15 rfl rfl rfl ?_
    refine G_CV (pc := 16) f_162_16 rfl rfl (by decide) rfl rfl (by first | assumption | exact hK.1 _ _ rfl) (by decide) ⟨Nat.le_of_ble_eq_true rfl, Nat.le_of_ble_eq_true rfl⟩ ?_
    refine CG.go (c_seatsAllN W1) ?_
    first | refine G_bEq (pc := 19) f_162_19 rfl (fun b2 => ?_) (fun b2 => ?_) | refine G_zeqZ (pc := 19) f_162_19 rfl (by first | exact nI_toInt (by omega) | exact zI_toInt (by omega) (by omega) | rfl) (fun b2 => ?_) (fun b2 => ?_)
    · refine G_ic (v := zI (-1)) (pc := 28) f_162_28 (by decide) ?_
      refine G_ri (pc := 29) f_162_29 ?_
      unfold aTurns
      dsimp only
      first
        | (rw [seN b2]; exact ⟨rfl, Fc.rf⟩)
        | (rw [hT]; exact ⟨congrArg (fun z => some (Value.int z)) (if_neg b3).symm, Fc.rf⟩)
        | (rw [hT]; exact ⟨congrArg (fun z => some (Value.int z)) (if_pos b3).symm, hF.sub (by decide)⟩)
    · obtain ⟨T, hT⟩ := seY b2
      obtain ⟨hT1, rfl, hT2⟩ := sea_some hT
      refine G_S (pc := 22) f_162_22 rfl rfl rfl ?_
      refine G_S (pc := 23) f_162_23 rfl rfl rfl ?_
      refine G_S (pc := 24) f_162_24 rfl rfl rfl ?_
      first | refine G_bEq (pc := 25) f_162_25 rfl (fun b3 => ?_) (fun b3 => ?_) | refine G_zeqZ (pc := 25) f_162_25 rfl (by first | exact nI_toInt (by omega) | exact zI_toInt (by omega) (by omega) | rfl) (fun b3 => ?_) (fun b3 => ?_)
      · refine G_S (pc := 30) f_162_30 rfl rfl rfl ?_
        refine G_gR (pc := 31) f_162_31 (by decide) rfl (by first | assumption | exact hK.1 _ _ rfl) (by first | assumption | exact hK.2 _ _ _ rfl | (repeat (first | exact up2_s | refine up2_o (by first | decide | omega) ?_)) <;> first | assumption | exact hK.2 _ _ _ rfl) ?_
        refine G_S (pc := 34) f_162_34 rfl rfl rfl ?_
        refine G_S (pc := 36) f_162_36 rfl rfl rfl ?_
        refine G_S (pc := 37) f_162_37 rfl rfl rfl ?_
        refine G_CV (pc := 38) f_162_38 rfl rfl (by decide) rfl rfl (by first | assumption | exact hK.1 _ _ rfl) (by decide) ⟨Nat.le_of_ble_eq_true rfl, Nat.le_of_ble_eq_true rfl⟩ ?_
        refine CG.mono (k_turns W1 (pw2 hn2 hS) (pw2 hn2 hT1)) ?_
        rintro _ M2 ⟨rfl, hF⟩
        refine G_ri (pc := 41) f_162_41 ?_
        unfold aTurns
        dsimp only
        first
          | (rw [seN b2]; exact ⟨rfl, Fc.rf⟩)
          | (rw [hT]; exact ⟨congrArg (fun z => some (Value.int z)) (if_neg b3).symm, Fc.rf⟩)
          | (rw [hT]; exact ⟨congrArg (fun z => some (Value.int z)) (if_pos b3).symm, hF.sub (by decide)⟩)
      · refine G_ic (v := zI (-1)) (pc := 28) f_162_28 (by decide) ?_
        refine G_ri (pc := 29) f_162_29 ?_
        unfold aTurns
        dsimp only
        first
          | (rw [seN b2]; exact ⟨rfl, Fc.rf⟩)
          | (rw [hT]; exact ⟨congrArg (fun z => some (Value.int z)) (if_neg b3).symm, Fc.rf⟩)
          | (rw [hT]; exact ⟨congrArg (fun z => some (Value.int z)) (if_pos b3).symm, hF.sub (by decide)⟩)
theorem c_rounds (W : CLs M n L) : CG C 161 [.ref 0, .int k, .int x] M (fun w M' => w = some (.int (aFor (slin n L k x) (fun D S => nI (tnF D S S 100 0 (layN D 0))))) ∧ Fc CS M M') := by
  have hK := W.1
  cases hx : slin n L k x with
  | none =>
    refine CG_in (mL := 4) (hl := false) (lv := [some (.ref 0), some (.int k), some (.int x), none]) (ll := []) rfl rfl rfl ?_
    refine G_S (pc := 0) f_161_0 rfl rfl rfl ?_
    refine G_S (pc := 1) f_161_1 rfl rfl rfl ?_
    refine G_S (pc := 2) f_161_2 rfl rfl rfl ?_
    refine G_CV (pc := 3) f_161_3 rfl rfl (by decide) rfl rfl (by first | assumption | exact hK.1 _ _ rfl) (by decide) ⟨Nat.le_of_ble_eq_true rfl, Nat.le_of_ble_eq_true rfl⟩ ?_
    refine CG.go (c_for0 W hx) ?_
    refine G_S (pc := 6) f_161_6 rfl rfl rfl ?_
    refine G_S (pc := 7) f_161_7 rfl rfl rfl ?_
    refine G_S (pc := 8) f_161_8 rfl rfl rfl ?_
    refine G_ic (v := zI (-1)) (pc := 11) f_161_11 (by decide) ?_
    refine G_S (pc := 12) f_161_12 rfl rfl rfl ?_
    refine G_ri (pc := 25) f_161_25 ?_
    exact ⟨rfl, Fc.rf⟩
  | some q =>
    obtain ⟨D, S⟩ := q
    obtain ⟨hS, rfl, hse⟩ := sea_some (slin_some hx).2
    refine CG_in (mL := 4) (hl := false) (lv := [some (.ref 0), some (.int k), some (.int (nI S)), none]) (ll := []) rfl rfl rfl ?_
    refine G_S (pc := 0) f_161_0 rfl rfl rfl ?_
    refine G_S (pc := 1) f_161_1 rfl rfl rfl ?_
    refine G_S (pc := 2) f_161_2 rfl rfl rfl ?_
    refine G_CV (pc := 3) f_161_3 rfl rfl (by decide) rfl rfl (by first | assumption | exact hK.1 _ _ rfl) (by decide) ⟨Nat.le_of_ble_eq_true rfl, Nat.le_of_ble_eq_true rfl⟩ ?_
    refine CG.mono (c_for1 W hx) ?_
    rintro _ M1 ⟨⟨h, rfl, W1⟩, rfl⟩
    have hK := W1.1
    obtain ⟨⟨t0, t1, t2, t3, t4, t5, t6⟩, r0, r3, r4, r6, r7, r8⟩ := W1.2.1
    obtain ⟨hD, ⟨v0, v1, v2⟩, vh, vr, vw, vf⟩ := W1.2.2.1
    have hs := W1.2.2.2.1
    have hh := W1.2.2.2.2
    have hn0 : _ ≤ 8 := hD.1
    have hn1 : _ ≤ 6 := hD.2.1.2
    have hn2 : _ ≤ 8 := hD.2.2.1
    refine G_S (pc := 6) f_161_6 rfl rfl rfl ?_
    refine G_S (pc := 7) f_161_7 rfl rfl rfl ?_
    refine G_S (pc := 8) f_161_8 rfl rfl (if_pos (by first | assumption | omega)) ?_
    refine G_S (pc := 15) f_161_15 rfl rfl rfl ?_
    refine G_gR (pc := 16) f_161_16 (by decide) rfl (by first | assumption | exact hK.1 _ _ rfl) (by first | assumption | exact hK.2 _ _ _ rfl | (repeat (first | exact up2_s | refine up2_o (by first | decide | omega) ?_)) <;> first | assumption | exact hK.2 _ _ _ rfl) ?_
    refine G_S (pc := 19) f_161_19 rfl rfl rfl ?_
    refine G_S (pc := 20) f_161_20 rfl rfl rfl ?_
    refine G_S (pc := 21) f_161_21 rfl rfl rfl ?_
    refine G_CV (pc := 22) f_161_22 rfl rfl (by decide) rfl rfl (by first | assumption | exact hK.1 _ _ rfl) (by decide) ⟨Nat.le_of_ble_eq_true rfl, Nat.le_of_ble_eq_true rfl⟩ ?_
    refine CG.mono (k_turns W1 (pw2 hn2 hS) (pw2 hn2 hS)) ?_
    rintro _ M2 ⟨rfl, hF⟩
    refine G_ri (pc := 25) f_161_25 ?_
    exact ⟨rfl, hF.sub (by decide)⟩
theorem c_plea (W : CLs M n L) : CG C 163 [.ref 0, .int k, .int x] M (fun w M' => w = some (.int (aFor (slin n L k x) (fun D S => oI (leastF (fun n => gB D S n) 100 0)))) ∧ Fc CS M M') := by
  have hK := W.1
  cases hx : slin n L k x with
  | none =>
    refine CG_in (mL := 4) (hl := false) (lv := [some (.ref 0), some (.int k), some (.int x), none]) (ll := []) rfl rfl rfl ?_
    refine G_S (pc := 0) f_163_0 rfl rfl rfl ?_
    refine G_S (pc := 1) f_163_1 rfl rfl rfl ?_
    refine G_S (pc := 2) f_163_2 rfl rfl rfl ?_
    refine G_CV (pc := 3) f_163_3 rfl rfl (by decide) rfl rfl (by first | assumption | exact hK.1 _ _ rfl) (by decide) ⟨Nat.le_of_ble_eq_true rfl, Nat.le_of_ble_eq_true rfl⟩ ?_
    refine CG.go (c_for0 W hx) ?_
    refine G_S (pc := 6) f_163_6 rfl rfl rfl ?_
    refine G_S (pc := 7) f_163_7 rfl rfl rfl ?_
    refine G_S (pc := 8) f_163_8 rfl rfl rfl ?_
    refine G_ic (v := zI (-1)) (pc := 11) f_163_11 (by decide) ?_
    refine G_S (pc := 12) f_163_12 rfl rfl rfl ?_
    refine G_ri (pc := 24) f_163_24 ?_
    exact ⟨rfl, Fc.rf⟩
  | some q =>
    obtain ⟨D, S⟩ := q
    obtain ⟨hS, rfl, hse⟩ := sea_some (slin_some hx).2
    refine CG_in (mL := 4) (hl := false) (lv := [some (.ref 0), some (.int k), some (.int (nI S)), none]) (ll := []) rfl rfl rfl ?_
    refine G_S (pc := 0) f_163_0 rfl rfl rfl ?_
    refine G_S (pc := 1) f_163_1 rfl rfl rfl ?_
    refine G_S (pc := 2) f_163_2 rfl rfl rfl ?_
    refine G_CV (pc := 3) f_163_3 rfl rfl (by decide) rfl rfl (by first | assumption | exact hK.1 _ _ rfl) (by decide) ⟨Nat.le_of_ble_eq_true rfl, Nat.le_of_ble_eq_true rfl⟩ ?_
    refine CG.mono (c_for1 W hx) ?_
    rintro _ M1 ⟨⟨h, rfl, W1⟩, rfl⟩
    have hK := W1.1
    obtain ⟨⟨t0, t1, t2, t3, t4, t5, t6⟩, r0, r3, r4, r6, r7, r8⟩ := W1.2.1
    obtain ⟨hD, ⟨v0, v1, v2⟩, vh, vr, vw, vf⟩ := W1.2.2.1
    have hs := W1.2.2.2.1
    have hh := W1.2.2.2.2
    have hn0 : _ ≤ 8 := hD.1
    have hn1 : _ ≤ 6 := hD.2.1.2
    have hn2 : _ ≤ 8 := hD.2.2.1
    refine G_S (pc := 6) f_163_6 rfl rfl rfl ?_
    refine G_S (pc := 7) f_163_7 rfl rfl rfl ?_
    refine G_S (pc := 8) f_163_8 rfl rfl (if_pos (by first | assumption | omega)) ?_
    refine G_S (pc := 15) f_163_15 rfl rfl rfl ?_
    refine G_gR (pc := 16) f_163_16 (by decide) rfl (by first | assumption | exact hK.1 _ _ rfl) (by first | assumption | exact hK.2 _ _ _ rfl | (repeat (first | exact up2_s | refine up2_o (by first | decide | omega) ?_)) <;> first | assumption | exact hK.2 _ _ _ rfl) ?_
    refine G_S (pc := 19) f_163_19 rfl rfl rfl ?_
    refine G_S (pc := 20) f_163_20 rfl rfl rfl ?_
    refine G_CV (pc := 21) f_163_21 rfl rfl (by decide) rfl rfl (by first | assumption | exact hK.1 _ _ rfl) (by decide) ⟨Nat.le_of_ble_eq_true rfl, Nat.le_of_ble_eq_true rfl⟩ ?_
    refine CG.mono (k_leastTold W1 (pw2 hn2 hS) hse) ?_
    rintro _ M2 ⟨rfl, hF⟩
    refine G_ri (pc := 24) f_163_24 ?_
    exact ⟨rfl, hF.sub (by decide)⟩
theorem c_news (W : CLs M n L) : CG C 164 [.ref 0, .int k, .int x] M (fun w M' => w = some (.int (aFor (slin n L k x) (fun D S => if gB D S 0 then oI (leastF (fun n => !gB D S (-(n : Int))) 99 1) else zI (-1)))) ∧ Fc CS M M') := by
  have hK := W.1
  cases hx : slin n L k x with
  | none =>
    refine CG_in (mL := 4) (hl := false) (lv := [some (.ref 0), some (.int k), some (.int x), none]) (ll := []) rfl rfl rfl ?_
    refine G_S (pc := 0) f_164_0 rfl rfl rfl ?_
    refine G_S (pc := 1) f_164_1 rfl rfl rfl ?_
    refine G_S (pc := 2) f_164_2 rfl rfl rfl ?_
    refine G_CV (pc := 3) f_164_3 rfl rfl (by decide) rfl rfl (by first | assumption | exact hK.1 _ _ rfl) (by decide) ⟨Nat.le_of_ble_eq_true rfl, Nat.le_of_ble_eq_true rfl⟩ ?_
    refine CG.go (c_for0 W hx) ?_
    refine G_S (pc := 6) f_164_6 rfl rfl rfl ?_
    refine G_S (pc := 7) f_164_7 rfl rfl rfl ?_
    refine G_S (pc := 8) f_164_8 rfl rfl rfl ?_
    refine G_ic (v := zI (-1)) (pc := 11) f_164_11 (by decide) ?_
    refine G_S (pc := 12) f_164_12 rfl rfl rfl ?_
    refine G_ri (pc := 24) f_164_24 ?_
    exact ⟨rfl, Fc.rf⟩
  | some q =>
    obtain ⟨D, S⟩ := q
    obtain ⟨hS, rfl, hse⟩ := sea_some (slin_some hx).2
    refine CG_in (mL := 4) (hl := false) (lv := [some (.ref 0), some (.int k), some (.int (nI S)), none]) (ll := []) rfl rfl rfl ?_
    refine G_S (pc := 0) f_164_0 rfl rfl rfl ?_
    refine G_S (pc := 1) f_164_1 rfl rfl rfl ?_
    refine G_S (pc := 2) f_164_2 rfl rfl rfl ?_
    refine G_CV (pc := 3) f_164_3 rfl rfl (by decide) rfl rfl (by first | assumption | exact hK.1 _ _ rfl) (by decide) ⟨Nat.le_of_ble_eq_true rfl, Nat.le_of_ble_eq_true rfl⟩ ?_
    refine CG.mono (c_for1 W hx) ?_
    rintro _ M1 ⟨⟨h, rfl, W1⟩, rfl⟩
    have hK := W1.1
    obtain ⟨⟨t0, t1, t2, t3, t4, t5, t6⟩, r0, r3, r4, r6, r7, r8⟩ := W1.2.1
    obtain ⟨hD, ⟨v0, v1, v2⟩, vh, vr, vw, vf⟩ := W1.2.2.1
    have hs := W1.2.2.2.1
    have hh := W1.2.2.2.2
    have hn0 : _ ≤ 8 := hD.1
    have hn1 : _ ≤ 6 := hD.2.1.2
    have hn2 : _ ≤ 8 := hD.2.2.1
    refine G_S (pc := 6) f_164_6 rfl rfl rfl ?_
    refine G_S (pc := 7) f_164_7 rfl rfl rfl ?_
    refine G_S (pc := 8) f_164_8 rfl rfl (if_pos (by first | assumption | omega)) ?_
    refine G_S (pc := 15) f_164_15 rfl rfl rfl ?_
    refine G_gR (pc := 16) f_164_16 (by decide) rfl (by first | assumption | exact hK.1 _ _ rfl) (by first | assumption | exact hK.2 _ _ _ rfl | (repeat (first | exact up2_s | refine up2_o (by first | decide | omega) ?_)) <;> first | assumption | exact hK.2 _ _ _ rfl) ?_
    refine G_S (pc := 19) f_164_19 rfl rfl rfl ?_
    refine G_S (pc := 20) f_164_20 rfl rfl rfl ?_
    refine G_CV (pc := 21) f_164_21 rfl rfl (by decide) rfl rfl (by first | assumption | exact hK.1 _ _ rfl) (by decide) ⟨Nat.le_of_ble_eq_true rfl, Nat.le_of_ble_eq_true rfl⟩ ?_
    refine CG.mono (k_leastJoked W1 hS hse) ?_
    rintro _ M2 ⟨rfl, hF⟩
    refine G_ri (pc := 24) f_164_24 ?_
    exact ⟨rfl, hF.sub (by decide)⟩
theorem c_spared (W : CLs M n L) : CG C 165 [.ref 0, .int k, .int x] M (fun w M' => w = some (.int (aFor (slin n L k x) (fun D S => if gB D S 0 then sprF D S (D 2) else zI (-1)))) ∧ Fc CS M M') := by
  have hK := W.1
  cases hx : slin n L k x with
  | none =>
    refine CG_in (mL := 4) (hl := false) (lv := [some (.ref 0), some (.int k), some (.int x), none]) (ll := []) rfl rfl rfl ?_
    refine G_S (pc := 0) f_165_0 rfl rfl rfl ?_
    refine G_S (pc := 1) f_165_1 rfl rfl rfl ?_
    refine G_S (pc := 2) f_165_2 rfl rfl rfl ?_
    refine G_CV (pc := 3) f_165_3 rfl rfl (by decide) rfl rfl (by first | assumption | exact hK.1 _ _ rfl) (by decide) ⟨Nat.le_of_ble_eq_true rfl, Nat.le_of_ble_eq_true rfl⟩ ?_
    refine CG.go (c_for0 W hx) ?_
    refine G_S (pc := 6) f_165_6 rfl rfl rfl ?_
    refine G_S (pc := 7) f_165_7 rfl rfl rfl ?_
    refine G_S (pc := 8) f_165_8 rfl rfl rfl ?_
    refine G_ic (v := zI (-1)) (pc := 11) f_165_11 (by decide) ?_
    refine G_S (pc := 12) f_165_12 rfl rfl rfl ?_
    refine G_ri (pc := 24) f_165_24 ?_
    exact ⟨rfl, Fc.rf⟩
  | some q =>
    obtain ⟨D, S⟩ := q
    obtain ⟨hS, rfl, hse⟩ := sea_some (slin_some hx).2
    refine CG_in (mL := 4) (hl := false) (lv := [some (.ref 0), some (.int k), some (.int (nI S)), none]) (ll := []) rfl rfl rfl ?_
    refine G_S (pc := 0) f_165_0 rfl rfl rfl ?_
    refine G_S (pc := 1) f_165_1 rfl rfl rfl ?_
    refine G_S (pc := 2) f_165_2 rfl rfl rfl ?_
    refine G_CV (pc := 3) f_165_3 rfl rfl (by decide) rfl rfl (by first | assumption | exact hK.1 _ _ rfl) (by decide) ⟨Nat.le_of_ble_eq_true rfl, Nat.le_of_ble_eq_true rfl⟩ ?_
    refine CG.mono (c_for1 W hx) ?_
    rintro _ M1 ⟨⟨h, rfl, W1⟩, rfl⟩
    have hK := W1.1
    obtain ⟨⟨t0, t1, t2, t3, t4, t5, t6⟩, r0, r3, r4, r6, r7, r8⟩ := W1.2.1
    obtain ⟨hD, ⟨v0, v1, v2⟩, vh, vr, vw, vf⟩ := W1.2.2.1
    have hs := W1.2.2.2.1
    have hh := W1.2.2.2.2
    have hn0 : _ ≤ 8 := hD.1
    have hn1 : _ ≤ 6 := hD.2.1.2
    have hn2 : _ ≤ 8 := hD.2.2.1
    refine G_S (pc := 6) f_165_6 rfl rfl rfl ?_
    refine G_S (pc := 7) f_165_7 rfl rfl rfl ?_
    refine G_S (pc := 8) f_165_8 rfl rfl (if_pos (by first | assumption | omega)) ?_
    refine G_S (pc := 15) f_165_15 rfl rfl rfl ?_
    refine G_gR (pc := 16) f_165_16 (by decide) rfl (by first | assumption | exact hK.1 _ _ rfl) (by first | assumption | exact hK.2 _ _ _ rfl | (repeat (first | exact up2_s | refine up2_o (by first | decide | omega) ?_)) <;> first | assumption | exact hK.2 _ _ _ rfl) ?_
    refine G_S (pc := 19) f_165_19 rfl rfl rfl ?_
    refine G_S (pc := 20) f_165_20 rfl rfl rfl ?_
    refine G_CV (pc := 21) f_165_21 rfl rfl (by decide) rfl rfl (by first | assumption | exact hK.1 _ _ rfl) (by decide) ⟨Nat.le_of_ble_eq_true rfl, Nat.le_of_ble_eq_true rfl⟩ ?_
    refine CG.mono (k_needless W1 hS) ?_
    rintro _ M2 ⟨rfl, hF⟩
    refine G_ri (pc := 24) f_165_24 ?_
    exact ⟨rfl, hF.sub (by decide)⟩
theorem c_slack (W : CLs M n L) : CG C 166 [.ref 0, .int k, .int x, .int y] M (fun w M' => w = some (.int (aFor (slin n L k x) (fun D S => slkF D S y))) ∧ Fc CS M M') := by
  have hK := W.1
  cases hx : slin n L k x with
  | none =>
    refine CG_in (mL := 5) (hl := false) (lv := [some (.ref 0), some (.int k), some (.int x), some (.int y), none]) (ll := []) rfl rfl rfl ?_
    refine G_S (pc := 0) f_166_0 rfl rfl rfl ?_
    refine G_S (pc := 1) f_166_1 rfl rfl rfl ?_
    refine G_S (pc := 2) f_166_2 rfl rfl rfl ?_
    refine G_CV (pc := 3) f_166_3 rfl rfl (by decide) rfl rfl (by first | assumption | exact hK.1 _ _ rfl) (by decide) ⟨Nat.le_of_ble_eq_true rfl, Nat.le_of_ble_eq_true rfl⟩ ?_
    refine CG.go (c_for0 W hx) ?_
    refine G_S (pc := 6) f_166_6 rfl rfl rfl ?_
    refine G_S (pc := 8) f_166_8 rfl rfl rfl ?_
    refine G_S (pc := 10) f_166_10 rfl rfl rfl ?_
    refine G_ic (v := zI (-1)) (pc := 13) f_166_13 (by decide) ?_
    refine G_S (pc := 14) f_166_14 rfl rfl rfl ?_
    refine G_ri (pc := 28) f_166_28 ?_
    exact ⟨rfl, Fc.rf⟩
  | some q =>
    obtain ⟨D, S⟩ := q
    obtain ⟨hS, rfl, hse⟩ := sea_some (slin_some hx).2
    refine CG_in (mL := 5) (hl := false) (lv := [some (.ref 0), some (.int k), some (.int (nI S)), some (.int y), none]) (ll := []) rfl rfl rfl ?_
    refine G_S (pc := 0) f_166_0 rfl rfl rfl ?_
    refine G_S (pc := 1) f_166_1 rfl rfl rfl ?_
    refine G_S (pc := 2) f_166_2 rfl rfl rfl ?_
    refine G_CV (pc := 3) f_166_3 rfl rfl (by decide) rfl rfl (by first | assumption | exact hK.1 _ _ rfl) (by decide) ⟨Nat.le_of_ble_eq_true rfl, Nat.le_of_ble_eq_true rfl⟩ ?_
    refine CG.mono (c_for1 W hx) ?_
    rintro _ M1 ⟨⟨h, rfl, W1⟩, rfl⟩
    have hK := W1.1
    obtain ⟨⟨t0, t1, t2, t3, t4, t5, t6⟩, r0, r3, r4, r6, r7, r8⟩ := W1.2.1
    obtain ⟨hD, ⟨v0, v1, v2⟩, vh, vr, vw, vf⟩ := W1.2.2.1
    have hs := W1.2.2.2.1
    have hh := W1.2.2.2.2
    have hn0 : _ ≤ 8 := hD.1
    have hn1 : _ ≤ 6 := hD.2.1.2
    have hn2 : _ ≤ 8 := hD.2.2.1
    refine G_S (pc := 6) f_166_6 rfl rfl rfl ?_
    refine G_S (pc := 8) f_166_8 rfl rfl rfl ?_
    refine G_S (pc := 10) f_166_10 rfl rfl (if_pos (by first | assumption | omega)) ?_
    refine G_S (pc := 17) f_166_17 rfl rfl rfl ?_
    refine G_gR (pc := 18) f_166_18 (by decide) rfl (by first | assumption | exact hK.1 _ _ rfl) (by first | assumption | exact hK.2 _ _ _ rfl | (repeat (first | exact up2_s | refine up2_o (by first | decide | omega) ?_)) <;> first | assumption | exact hK.2 _ _ _ rfl) ?_
    refine G_S (pc := 21) f_166_21 rfl rfl rfl ?_
    refine G_S (pc := 23) f_166_23 rfl rfl rfl ?_
    refine G_S (pc := 24) f_166_24 rfl rfl rfl ?_
    refine G_CV (pc := 25) f_166_25 rfl rfl (by decide) rfl rfl (by first | assumption | exact hK.1 _ _ rfl) (by decide) ⟨Nat.le_of_ble_eq_true rfl, Nat.le_of_ble_eq_true rfl⟩ ?_
    refine CG.mono (k_leastOver W1 (pw2 hn2 hS) hse) ?_
    rintro _ M2 ⟨rfl, hF⟩
    refine G_ri (pc := 28) f_166_28 ?_
    exact ⟨rfl, hF.sub (by decide)⟩
end CT1
