/-! days by a seed: the class; what is asked of rides -/
def frI (D : Nat → Nat) (S : Nat → Int) : Int := match leastF (fun s => decide (S (30 + s) = -1)) (D 1) 0 with
  | none => -1
  | some s => (s : Int)
theorem frI_i {D : Nat → Nat} {S : Nat → Int} (h6 : D 1 ≤ 6) : (oI (leastF (fun s => decide (S (30 + s) = -1)) (D 1) 0)).toInt = frI D S := by
  have hl : ∀ d i c, leastF (fun s => decide (S (30 + s) = -1)) d i = some c → c < i + d := by
    intro d
    induction d with
    | zero => intro i c h; cases h
    | succ d ih =>
      intro i c h
      rw [leastF] at h
      split at h
      · cases h
        omega
      · have := ih (i + 1) c h
        omega
  unfold frI
  cases hc : leastF (fun s => decide (S (30 + s) = -1)) (D 1) 0 with
  | none => rfl
  | some c =>
    have := hl _ _ _ hc
    exact nI_toInt (by omega)
/-- one thing that is drawn: lot and rider drawn, the seeds behind them -/
def dyG (D : Nat → Nat) (lot rr : Int) (s1 s2 : Int32) (S : Nat → Int) (b : Nat → Nat) : Int32 × (Nat → Int) × (Nat → Nat) :=
  if lot ≤ 2 then (s2, (if bdB D S rr (frI D S) then bdS S rr (frI D S) else S), b)
  else if lot = 3 then (s2, (if (0 ≤ rr ∧ rr < (D 2 : Int)) ∧ abd S rr.toNat = true then ofS S rr.toNat else S), b)
  else if lot = 4 then (s1, S, shN S b (D 1 - 1))
  else if S 0 < (D 0 : Int) then (s1, goF D S b) else (s1, (if S 0 = 0 then S else bkS S), b)
def dyQ (D : Nat → Nat) (q : Int32 × (Nat → Int) × (Nat → Nat)) : Int32 × (Nat → Int) × (Nat → Nat) := dyG D (drF q.1 8) (drF (sdF q.1) (D 2 : Int)) (sdF q.1) (sdF (sdF q.1)) q.2.1 q.2.2
def itN {σ : Type} (f : σ → σ) : Nat → σ → σ
  | 0, q => q
  | n + 1, q => itN f n (f q)
def dyN (D : Nat → Nat) (n : Nat) (s : Int32) (S : Nat → Int) (b : Nat → Nat) : Int32 × (Nat → Int) × (Nat → Nat) := itN (dyQ D) n (s, S, b)
theorem drF_b (s : Int32) {n : Int} (h : 1 ≤ n) : 0 ≤ drF s n ∧ drF s n < n := by
  unfold drF
  exact ⟨Int.emod_nonneg _ (by omega), Int.emod_lt_of_pos _ (by omega)⟩
section CDR
variable {C : Ct} {M : Mm} {h k : Nat} {D : Nat → Nat} {S : Nat → Int} {b : Nat → Nat} {x y : Int32}
theorem TW.sd (W : TW M h D k S b) : TW (M.1, up2 M.2.1 78 5 x, M.2.2.1, M.2.2.2) h D k S b := by
  obtain ⟨W_, rl, ⟨s0, s1, s2, s3⟩, q1, q2, q3, hO⟩ := W
  have hF : Fc [78] M _ := Fc.up (i := 78) (k := 5) (x := x) (by decide)
  exact ⟨W_.fc hF (by decide), rl, ⟨(by (try dsimp only); exact up2_o (by omega) s0), (by (try dsimp only); exact up2_o (by omega) s1), (by (try dsimp only); exact up2_o (by omega) s2), (by (try dsimp only); exact up2_o (by omega) s3)⟩, fun r hr => (by (try dsimp only); exact up2_o (by omega) (q1 r hr)), fun r hr => (by (try dsimp only); exact up2_o (by omega) (q2 r hr)), fun r hr => (by (try dsimp only); exact up2_o (by omega) (q3 r hr)), hO⟩
theorem t_step {n i : Nat} {lot rr : Int} {u1 u2 : Int32} {Q : Option Value → Mm → Prop} {a : Option Value} (W : TW M h D i S b) (hr : 1 ≤ D 2) (hi : i < n) (hn : n ≤ 60) (T1 : CG C 122 [.ref 78, .int (nI 8)] M (fun w M' => w = some (.int (zI lot)) ∧ M' = (M.1, up2 M.2.1 78 5 u1, M.2.2.1, M.2.2.2))) (T2 : CG C 122 [.ref 78, .int (nI (D 2))] (M.1, up2 M.2.1 78 5 u1, M.2.2.1, M.2.2.2) (fun w M' => w = some (.int (zI rr)) ∧ M' = (M.1, up2 (up2 M.2.1 78 5 u1) 78 5 u2, M.2.2.1, M.2.2.2))) (l8 : 0 ≤ lot ∧ lot < 8) (lr : 0 ≤ rr ∧ rr < (D 2 : Int)) (K : ∀ M' a, Fc TF M M' → M'.2.1 78 5 = (dyG D lot rr u1 u2 S b).1 → TW M' h D (i + 1) (dyG D lot rr u1 u2 S b).2.1 (dyG D lot rr u1 u2 S b).2.2 → G C 121 (7, [some (.ref 78), some (.int x), some (.int (nI n)), some (.int (nI (i + 1))), a], [], [], M') Q) : G C 121 (7, [some (.ref 78), some (.int x), some (.int (nI n)), some (.int (nI i)), a], [], [], M) Q := by
  have W_ := W.1
  have hK := W_.1
  obtain ⟨⟨t0, t1, t2, t3, t4, t5, t6⟩, r0, r3, r4, r6, r7, r8⟩ := W_.2.1
  obtain ⟨hD, ⟨v0, v1, v2⟩, vh, vr, vw, vf⟩ := W_.2.2.1
  have hs := W_.2.2.2.1
  have hh := W_.2.2.2.2
  have hn0 : _ ≤ 8 := hD.1
  have hn1 : _ ≤ 6 := hD.2.1.2
  have hn2 : _ ≤ 8 := hD.2.2.1
  obtain ⟨rl, ⟨s0, s1, s2, s3⟩, q1, q2, q3, hO⟩ := W.2
  obtain ⟨o0, o1, o2, o3, o4, o5, o6⟩ := hO
  have hne : h ≠ 78 := by
    unfold Lsep at hs
    omega
  have hFs : Fc TF M (M.1, up2 M.2.1 78 5 u1, M.2.2.1, M.2.2.2) := Fc.up (i := 78) (k := 5) (x := u1) (by decide)
  have hFs2 : Fc TF (M.1, up2 M.2.1 78 5 u1, M.2.2.1, M.2.2.2) (M.1, up2 (up2 M.2.1 78 5 u1) 78 5 u2, M.2.2.1, M.2.2.2) := Fc.up (i := 78) (k := 5) (x := u2) (by decide)
  have Wa : TW (M.1, up2 M.2.1 78 5 u1, M.2.2.1, M.2.2.2) h D i S b := W.sd
  have Wb : TW (M.1, up2 (up2 M.2.1 78 5 u1) 78 5 u2, M.2.2.1, M.2.2.2) h D i S b := Wa.sd
  have ex : (zI rr).toInt = rr := zI_toInt (by omega) (by omega)
  have tb := t_board (C := C) (x := zI rr) (y := oI (leastF (fun s => decide (S (30 + s) = -1)) (D 1) 0)) Wb
  rw [ex, frI_i hn1] at tb
  have tg := t_getOffX (C := C) (x := zI rr) Wb
  rw [ex] at tg
  refine G_S (pc := 7) f_121_7 rfl rfl rfl ?_
  refine G_S (pc := 8) f_121_8 rfl rfl rfl ?_
  refine G_jgeZ (pc := 9) f_121_9 rfl (by first | exact nI_toInt (by omega) | exact zI_toInt (by omega) (by omega) | rfl) (by first | exact nI_toInt (by omega) | exact zI_toInt (by omega) (by omega) | rfl) (fun b1 => ?_) (fun b1 => ?_)
  · exfalso; omega
  · refine G_S (pc := 12) f_121_12 rfl rfl rfl ?_
    refine G_bi (v := nI 8) (pc := 13) f_121_13 (by decide) ?_
    refine G_CV (pc := 15) f_121_15 rfl rfl (by decide) rfl rfl (by first | assumption | exact hK.1 _ _ rfl) (by decide) ⟨Nat.le_of_ble_eq_true rfl, Nat.le_of_ble_eq_true rfl⟩ ?_
    refine CG.mono (T1) ?_
    rintro _ M2 ⟨rfl, rfl⟩
    refine G_S (pc := 18) f_121_18 rfl rfl rfl ?_
    refine G_S (pc := 20) f_121_20 rfl rfl rfl ?_
    refine G_ic (v := nI 2) (pc := 22) f_121_22 (by decide) ?_
    refine G_jgtZ (pc := 23) f_121_23 rfl (by first | exact nI_toInt (by omega) | exact zI_toInt (by omega) (by omega) | rfl) (by first | exact nI_toInt (by omega) | exact zI_toInt (by omega) (by omega) | rfl) (fun b2 => ?_) (fun b2 => ?_)
    · refine G_S (pc := 49) f_121_49 rfl rfl rfl ?_
      refine G_ic (v := nI 3) (pc := 51) f_121_51 (by decide) ?_
      refine G_jneZ (pc := 52) f_121_52 rfl (by first | exact nI_toInt (by omega) | exact zI_toInt (by omega) (by omega) | rfl) (by first | exact nI_toInt (by omega) | exact zI_toInt (by omega) (by omega) | rfl) (fun b3 => ?_) (fun b3 => ?_)
      · refine G_S (pc := 74) f_121_74 rfl rfl rfl ?_
        refine G_ic (v := nI 4) (pc := 76) f_121_76 (by decide) ?_
        refine G_jneZ (pc := 77) f_121_77 rfl (by first | exact nI_toInt (by omega) | exact zI_toInt (by omega) (by omega) | rfl) (by first | exact nI_toInt (by omega) | exact zI_toInt (by omega) (by omega) | rfl) (fun b4 => ?_) (fun b4 => ?_)
        · refine G_S (pc := 87) f_121_87 rfl rfl rfl ?_
          refine G_CV (pc := 88) f_121_88 rfl rfl (by decide) rfl rfl (by first | assumption | exact hK.1 _ _ rfl) (by decide) ⟨Nat.le_of_ble_eq_true rfl, Nat.le_of_ble_eq_true rfl⟩ ?_
          refine CG.mono (t_go Wa) ?_
          rintro _ M3 ⟨rfl, hF3, W3⟩
          have hK := W3.1.1
          first | refine G_bNe (pc := 91) f_121_91 rfl (fun b5 => ?_) (fun b5 => ?_) | refine G_zneZ (pc := 91) f_121_91 rfl (by first | exact nI_toInt (by omega) | exact zI_toInt (by omega) (by omega) | rfl) (fun b5 => ?_) (fun b5 => ?_)
          · first | refine G_inc1 (pc := 99) f_121_99 rfl ?_ | refine G_S (pc := 99) f_121_99 rfl rfl rfl ?_
            refine G_S (pc := 102) f_121_102 rfl rfl rfl ?_
            first
              | (rw [show dyG D lot rr u1 u2 S b = (u2, (if bdB D S rr (frI D S) then bdS S rr (frI D S) else S), b) from if_pos (by omega)] at K
                 exact K M3 _ ((hFs.tr hFs2).tr hF3.1) (hF3.2.trans mI_s) (W3.kk (by omega)))
              | (rw [show dyG D lot rr u1 u2 S b = (u2, (if (0 ≤ rr ∧ rr < (D 2 : Int)) ∧ abd S rr.toNat = true then ofS S rr.toNat else S), b) by
                   unfold dyG
                   rw [if_neg (by omega), if_pos (by omega)]] at K
                 exact K M3 _ ((hFs.tr hFs2).tr hF3.1) (hF3.2.trans mI_s) (W3.kk (by omega)))
              | (rw [show dyG D lot rr u1 u2 S b = (u1, S, shN S b (D 1 - 1)) by
                   unfold dyG
                   rw [if_neg (by omega), if_neg (by omega), if_pos (by omega)]] at K
                 exact K M3 _ (hFs.tr hF3.1) (hF3.2.trans mI_s) (W3.kk (by omega)))
              | (have e2 : goF D S b = (S, b) := if_neg b5
                 rw [show dyG D lot rr u1 u2 S b = (u1, (if S 0 = 0 then S else bkS S), b) by
                   unfold dyG
                   rw [if_neg (by omega), if_neg (by omega), if_neg (by omega), if_neg b5]] at K
                 rw [e2] at W4
                 exact K M4 _ ((hFs.tr hF3.1).tr hF4.1) (hF4.2.trans (hF3.2.trans mI_s)) W4)
              | (rw [show dyG D lot rr u1 u2 S b = (u1, goF D S b) by
                   unfold dyG
                   rw [if_neg (by omega), if_neg (by omega), if_neg (by omega), if_pos b5]] at K
                 exact K M3 _ (hFs.tr hF3.1) (hF3.2.trans mI_s) W3)
          · refine G_S (pc := 94) f_121_94 rfl rfl rfl ?_
            refine G_CV (pc := 95) f_121_95 rfl rfl (by decide) rfl rfl (by first | assumption | exact hK.1 _ _ rfl) (by decide) ⟨Nat.le_of_ble_eq_true rfl, Nat.le_of_ble_eq_true rfl⟩ ?_
            refine CG.mono (t_back W3) ?_
            rintro _ M4 ⟨rfl, hF4, W4⟩
            refine G_S (pc := 98) f_121_98 rfl rfl rfl ?_
            first | refine G_inc1 (pc := 99) f_121_99 rfl ?_ | refine G_S (pc := 99) f_121_99 rfl rfl rfl ?_
            refine G_S (pc := 102) f_121_102 rfl rfl rfl ?_
            first
              | (rw [show dyG D lot rr u1 u2 S b = (u2, (if bdB D S rr (frI D S) then bdS S rr (frI D S) else S), b) from if_pos (by omega)] at K
                 exact K M3 _ ((hFs.tr hFs2).tr hF3.1) (hF3.2.trans mI_s) (W3.kk (by omega)))
              | (rw [show dyG D lot rr u1 u2 S b = (u2, (if (0 ≤ rr ∧ rr < (D 2 : Int)) ∧ abd S rr.toNat = true then ofS S rr.toNat else S), b) by
                   unfold dyG
                   rw [if_neg (by omega), if_pos (by omega)]] at K
                 exact K M3 _ ((hFs.tr hFs2).tr hF3.1) (hF3.2.trans mI_s) (W3.kk (by omega)))
              | (rw [show dyG D lot rr u1 u2 S b = (u1, S, shN S b (D 1 - 1)) by
                   unfold dyG
                   rw [if_neg (by omega), if_neg (by omega), if_pos (by omega)]] at K
                 exact K M3 _ (hFs.tr hF3.1) (hF3.2.trans mI_s) (W3.kk (by omega)))
              | (have e2 : goF D S b = (S, b) := if_neg b5
                 rw [show dyG D lot rr u1 u2 S b = (u1, (if S 0 = 0 then S else bkS S), b) by
                   unfold dyG
                   rw [if_neg (by omega), if_neg (by omega), if_neg (by omega), if_neg b5]] at K
                 rw [e2] at W4
                 exact K M4 _ ((hFs.tr hF3.1).tr hF4.1) (hF4.2.trans (hF3.2.trans mI_s)) W4)
              | (rw [show dyG D lot rr u1 u2 S b = (u1, goF D S b) by
                   unfold dyG
                   rw [if_neg (by omega), if_neg (by omega), if_neg (by omega), if_pos b5]] at K
                 exact K M3 _ (hFs.tr hF3.1) (hF3.2.trans mI_s) W3)
        · refine G_S (pc := 80) f_121_80 rfl rfl rfl ?_
          refine G_CV (pc := 81) f_121_81 rfl rfl (by decide) rfl rfl (by first | assumption | exact hK.1 _ _ rfl) (by decide) ⟨Nat.le_of_ble_eq_true rfl, Nat.le_of_ble_eq_true rfl⟩ ?_
          refine CG.mono (t_share Wa) ?_
          rintro _ M3 ⟨rfl, hF3, W3⟩
          refine G_S (pc := 84) f_121_84 rfl rfl rfl ?_
          first | refine G_inc1 (pc := 99) f_121_99 rfl ?_ | refine G_S (pc := 99) f_121_99 rfl rfl rfl ?_
          refine G_S (pc := 102) f_121_102 rfl rfl rfl ?_
          first
            | (rw [show dyG D lot rr u1 u2 S b = (u2, (if bdB D S rr (frI D S) then bdS S rr (frI D S) else S), b) from if_pos (by omega)] at K
               exact K M3 _ ((hFs.tr hFs2).tr hF3.1) (hF3.2.trans mI_s) (W3.kk (by omega)))
            | (rw [show dyG D lot rr u1 u2 S b = (u2, (if (0 ≤ rr ∧ rr < (D 2 : Int)) ∧ abd S rr.toNat = true then ofS S rr.toNat else S), b) by
                 unfold dyG
                 rw [if_neg (by omega), if_pos (by omega)]] at K
               exact K M3 _ ((hFs.tr hFs2).tr hF3.1) (hF3.2.trans mI_s) (W3.kk (by omega)))
            | (rw [show dyG D lot rr u1 u2 S b = (u1, S, shN S b (D 1 - 1)) by
                 unfold dyG
                 rw [if_neg (by omega), if_neg (by omega), if_pos (by omega)]] at K
               exact K M3 _ (hFs.tr hF3.1) (hF3.2.trans mI_s) (W3.kk (by omega)))
            | (have e2 : goF D S b = (S, b) := if_neg b5
               rw [show dyG D lot rr u1 u2 S b = (u1, (if S 0 = 0 then S else bkS S), b) by
                 unfold dyG
                 rw [if_neg (by omega), if_neg (by omega), if_neg (by omega), if_neg b5]] at K
               rw [e2] at W4
               exact K M4 _ ((hFs.tr hF3.1).tr hF4.1) (hF4.2.trans (hF3.2.trans mI_s)) W4)
            | (rw [show dyG D lot rr u1 u2 S b = (u1, goF D S b) by
                 unfold dyG
                 rw [if_neg (by omega), if_neg (by omega), if_neg (by omega), if_pos b5]] at K
               exact K M3 _ (hFs.tr hF3.1) (hF3.2.trans mI_s) W3)
      · refine G_S (pc := 55) f_121_55 rfl rfl rfl ?_
        refine G_S (pc := 56) f_121_56 rfl rfl rfl ?_
        refine G_S (pc := 57) f_121_57 rfl rfl rfl ?_
        refine G_gR (pc := 58) f_121_58 (by decide) rfl (by first | assumption | exact hK.1 _ _ rfl) (by first | assumption | exact hK.2 _ _ _ rfl | (try dsimp only) <;> (repeat (first | exact up2_s | refine up2_o (by first | decide | omega) ?_)) <;> first | assumption | exact hK.2 _ _ _ rfl) ?_
        refine G_gIv (pc := 61) f_121_61 (by decide) rfl (by decide) (by first | assumption | exact hK.1 _ _ rfl) ((mI_o (by omega) v2)) ?_
        refine G_CV (pc := 64) f_121_64 rfl rfl (by decide) rfl rfl (by first | assumption | exact hK.1 _ _ rfl) (by decide) ⟨Nat.le_of_ble_eq_true rfl, Nat.le_of_ble_eq_true rfl⟩ ?_
        refine CG.mono (T2) ?_
        rintro _ M2 ⟨rfl, rfl⟩
        refine G_CV (pc := 67) f_121_67 rfl rfl (by decide) rfl rfl (by first | assumption | exact hK.1 _ _ rfl) (by decide) ⟨Nat.le_of_ble_eq_true rfl, Nat.le_of_ble_eq_true rfl⟩ ?_
        refine CG.mono (tg) ?_
        rintro _ M3 ⟨rfl, hF3, W3⟩
        refine G_S (pc := 70) f_121_70 rfl rfl rfl ?_
        refine G_S (pc := 71) f_121_71 rfl rfl rfl ?_
        first | refine G_inc1 (pc := 99) f_121_99 rfl ?_ | refine G_S (pc := 99) f_121_99 rfl rfl rfl ?_
        refine G_S (pc := 102) f_121_102 rfl rfl rfl ?_
        first
          | (rw [show dyG D lot rr u1 u2 S b = (u2, (if bdB D S rr (frI D S) then bdS S rr (frI D S) else S), b) from if_pos (by omega)] at K
             exact K M3 _ ((hFs.tr hFs2).tr hF3.1) (hF3.2.trans mI_s) (W3.kk (by omega)))
          | (rw [show dyG D lot rr u1 u2 S b = (u2, (if (0 ≤ rr ∧ rr < (D 2 : Int)) ∧ abd S rr.toNat = true then ofS S rr.toNat else S), b) by
               unfold dyG
               rw [if_neg (by omega), if_pos (by omega)]] at K
             exact K M3 _ ((hFs.tr hFs2).tr hF3.1) (hF3.2.trans mI_s) (W3.kk (by omega)))
          | (rw [show dyG D lot rr u1 u2 S b = (u1, S, shN S b (D 1 - 1)) by
               unfold dyG
               rw [if_neg (by omega), if_neg (by omega), if_pos (by omega)]] at K
             exact K M3 _ (hFs.tr hF3.1) (hF3.2.trans mI_s) (W3.kk (by omega)))
          | (have e2 : goF D S b = (S, b) := if_neg b5
             rw [show dyG D lot rr u1 u2 S b = (u1, (if S 0 = 0 then S else bkS S), b) by
               unfold dyG
               rw [if_neg (by omega), if_neg (by omega), if_neg (by omega), if_neg b5]] at K
             rw [e2] at W4
             exact K M4 _ ((hFs.tr hF3.1).tr hF4.1) (hF4.2.trans (hF3.2.trans mI_s)) W4)
          | (rw [show dyG D lot rr u1 u2 S b = (u1, goF D S b) by
               unfold dyG
               rw [if_neg (by omega), if_neg (by omega), if_neg (by omega), if_pos b5]] at K
             exact K M3 _ (hFs.tr hF3.1) (hF3.2.trans mI_s) W3)
    · refine G_S (pc := 26) f_121_26 rfl rfl rfl ?_
      refine G_S (pc := 27) f_121_27 rfl rfl rfl ?_
      refine G_S (pc := 28) f_121_28 rfl rfl rfl ?_
      refine G_gR (pc := 29) f_121_29 (by decide) rfl (by first | assumption | exact hK.1 _ _ rfl) (by first | assumption | exact hK.2 _ _ _ rfl | (try dsimp only) <;> (repeat (first | exact up2_s | refine up2_o (by first | decide | omega) ?_)) <;> first | assumption | exact hK.2 _ _ _ rfl) ?_
      refine G_gIv (pc := 32) f_121_32 (by decide) rfl (by decide) (by first | assumption | exact hK.1 _ _ rfl) ((mI_o (by omega) v2)) ?_
      refine G_CV (pc := 35) f_121_35 rfl rfl (by decide) rfl rfl (by first | assumption | exact hK.1 _ _ rfl) (by decide) ⟨Nat.le_of_ble_eq_true rfl, Nat.le_of_ble_eq_true rfl⟩ ?_
      refine CG.mono (T2) ?_
      rintro _ M2 ⟨rfl, rfl⟩
      refine G_S (pc := 38) f_121_38 rfl rfl rfl ?_
      refine G_CV (pc := 39) f_121_39 rfl rfl (by decide) rfl rfl (by first | assumption | exact hK.1 _ _ rfl) (by decide) ⟨Nat.le_of_ble_eq_true rfl, Nat.le_of_ble_eq_true rfl⟩ ?_
      refine CG.go (t_free Wb) ?_
      refine G_CV (pc := 42) f_121_42 rfl rfl (by decide) rfl rfl (by first | assumption | exact hK.1 _ _ rfl) (by decide) ⟨Nat.le_of_ble_eq_true rfl, Nat.le_of_ble_eq_true rfl⟩ ?_
      refine CG.mono (tb) ?_
      rintro _ M3 ⟨rfl, hF3, W3⟩
      refine G_S (pc := 45) f_121_45 rfl rfl rfl ?_
      refine G_S (pc := 46) f_121_46 rfl rfl rfl ?_
      first | refine G_inc1 (pc := 99) f_121_99 rfl ?_ | refine G_S (pc := 99) f_121_99 rfl rfl rfl ?_
      refine G_S (pc := 102) f_121_102 rfl rfl rfl ?_
      first
        | (rw [show dyG D lot rr u1 u2 S b = (u2, (if bdB D S rr (frI D S) then bdS S rr (frI D S) else S), b) from if_pos (by omega)] at K
           exact K M3 _ ((hFs.tr hFs2).tr hF3.1) (hF3.2.trans mI_s) (W3.kk (by omega)))
        | (rw [show dyG D lot rr u1 u2 S b = (u2, (if (0 ≤ rr ∧ rr < (D 2 : Int)) ∧ abd S rr.toNat = true then ofS S rr.toNat else S), b) by
             unfold dyG
             rw [if_neg (by omega), if_pos (by omega)]] at K
           exact K M3 _ ((hFs.tr hFs2).tr hF3.1) (hF3.2.trans mI_s) (W3.kk (by omega)))
        | (rw [show dyG D lot rr u1 u2 S b = (u1, S, shN S b (D 1 - 1)) by
             unfold dyG
             rw [if_neg (by omega), if_neg (by omega), if_pos (by omega)]] at K
           exact K M3 _ (hFs.tr hF3.1) (hF3.2.trans mI_s) (W3.kk (by omega)))
        | (have e2 : goF D S b = (S, b) := if_neg b5
           rw [show dyG D lot rr u1 u2 S b = (u1, (if S 0 = 0 then S else bkS S), b) by
             unfold dyG
             rw [if_neg (by omega), if_neg (by omega), if_neg (by omega), if_neg b5]] at K
           rw [e2] at W4
           exact K M4 _ ((hFs.tr hF3.1).tr hF4.1) (hF4.2.trans (hF3.2.trans mI_s)) W4)
        | (rw [show dyG D lot rr u1 u2 S b = (u1, goF D S b) by
             unfold dyG
             rw [if_neg (by omega), if_neg (by omega), if_neg (by omega), if_pos b5]] at K
           exact K M3 _ (hFs.tr hF3.1) (hF3.2.trans mI_s) W3)
theorem t_draw {n : Nat} (W : TW M h D 0 S b) (hr : 1 ≤ D 2) (hn : n ≤ 60) : CG C 121 [.ref 78, .int x, .int (nI n)] M (fun w M' => w = none ∧ Fc TF M M' ∧ TW M' h D n (dyN D n x S b).2.1 (dyN D n x S b).2.2) := by
  have loop : ∀ d i, i + d = n → ∀ M1 q a, M1.2.1 78 5 = q.1 → Fc TF M M1 → TW M1 h D i q.2.1 q.2.2 → G C 121 (7, [some (.ref 78), some (.int x), some (.int (nI n)), some (.int (nI i)), a], [], [], M1) (fun w M' => w = none ∧ Fc TF M M' ∧ TW M' h D n (itN (dyQ D) d q).2.1 (itN (dyQ D) d q).2.2) := by
    intro d
    induction d with
    | zero =>
      intro i hi M1 q a hs5 hF W
      have e : i = n := by omega
      subst e
      refine G_S (pc := 7) f_121_7 rfl rfl rfl ?_
      refine G_S (pc := 8) f_121_8 rfl rfl rfl ?_
      refine G_jgeZ (pc := 9) f_121_9 rfl (by first | exact nI_toInt (by omega) | exact zI_toInt (by omega) (by omega) | rfl) (by first | exact nI_toInt (by omega) | exact zI_toInt (by omega) (by omega) | rfl) (fun b1 => ?_) (fun b1 => ?_)
      · refine G_rv (pc := 105) f_121_105 ?_
        exact ⟨rfl, hF, W⟩
      · exfalso; omega
    | succ d ih =>
      intro i hi M1 q a hs5 hF W
      rw [itN]
      have hn2 := W.1.2.2.1.1.2.2.1
      exact t_step W hr (by omega) hn (t_below (z := 8) W hs5 (by omega) (by omega) rfl) (t_below (z := (D 2 : Int)) W.sd mI_s (by omega) (by omega) rfl) (drF_b q.1 (by omega)) (drF_b (sdF q.1) (by omega)) (fun M' a' hF' h5 W' => ih (i + 1) (by omega) M' (dyQ D q) a' h5 (hF.tr hF') W')
  have W_ := W.1
  have hK := W_.1
  obtain ⟨⟨t0, t1, t2, t3, t4, t5, t6⟩, r0, r3, r4, r6, r7, r8⟩ := W_.2.1
  obtain ⟨hD, ⟨v0, v1, v2⟩, vh, vr, vw, vf⟩ := W_.2.2.1
  have hs := W_.2.2.2.1
  have hh := W_.2.2.2.2
  have hn0 : _ ≤ 8 := hD.1
  have hn1 : _ ≤ 6 := hD.2.1.2
  have hn2 : _ ≤ 8 := hD.2.2.1
  obtain ⟨rl, ⟨s0, s1, s2, s3⟩, q1, q2, q3, hO⟩ := W.2
  obtain ⟨o0, o1, o2, o3, o4, o5, o6⟩ := hO
  refine CG_in (mL := 5) (hl := false) (lv := [some (.ref 78), some (.int x), some (.int (nI n)), none, none]) (ll := []) rfl rfl rfl ?_
  refine G_S (pc := 0) f_121_0 rfl rfl rfl ?_
  refine G_S (pc := 1) f_121_1 rfl rfl rfl ?_
  refine G_pI (pc := 2) f_121_2 rfl (by first | assumption | exact hK.1 _ _ rfl) ?_
  refine G_ic (v := nI 0) (pc := 5) f_121_5 (by decide) ?_
  refine G_S (pc := 6) f_121_6 rfl rfl rfl ?_
  exact loop n 0 (by omega) _ (x, S, b) _ mI_s (Fc.up (i := 78) (k := 5) (x := x) (by decide)) W.sd
end CDR
/-! rides told -/
def CRs (M : Mm) (n : Nat) (L : Nat → Nat → Int) : Prop := KM M.1 M.2.2.2 ∧ M.2.1 3 1 = nI n ∧ n ≤ 2 ∧ ∀ l, l < n → RWd M (15 + 22 * l) (L l)
def MRs (M : Mm) (n : Nat) (L : Nat → Nat → Int) : Prop := KM M.1 M.2.2.2 ∧ M.2.1 103 1 = nI n ∧ n ≤ 2 ∧ ∀ l, l < n → ROK (L l) ∧ ∀ j : Nat, (j : Int) < 1 + 3 * L l 0 → M.2.1 105 (121 * l + j) = zI (L l j)
def rid (n : Nat) (L : Nat → Nat → Int) (k : Int32) : Option (Nat → Int) := if 0 ≤ k.toInt ∧ k.toInt < n then some (L k.toInt.toNat) else none
theorem rid_some {n : Nat} {L : Nat → Nat → Int} {k : Int32} {D : Nat → Int} (h : rid n L k = some D) : ∃ l, l < n ∧ k = nI l ∧ D = L l := by
  unfold rid at h
  split at h
  · rename_i hk
    cases h
    refine ⟨k.toInt.toNat, by omega, ?_, rfl⟩
    rw [nI_zI, Int.toNat_of_nonneg hk.1, ← zI_of]
  · cases h
theorem rid_none {n : Nat} {L : Nat → Nat → Int} {k : Int32} (h : rid n L k = none) : ¬ (0 ≤ k.toInt ∧ k.toInt < n) := by
  unfold rid at h
  split at h
  · cases h
  · assumption
def deF (R : Nat → Int) (k x : Int32) : Int32 := if k.toInt = -1 then (if x.toInt = 0 then zI (R 0) else zI (-2)) else if (0 ≤ k.toInt ∧ k.toInt < R 0) ∧ 0 ≤ x.toInt ∧ x.toInt ≤ 2 then zI (R (1 + 3 * k.toInt.toNat + x.toInt.toNat)) else zI (-2)
def aRid (o : Option (Nat → Int)) (d : Int32) (f : (Nat → Int) → Int32) : Int32 := match o with
  | none => d
  | some R => f R
def aStop (o : Option (Nat → Nat)) (q : Option (Nat → Int)) : Int32 := match o, q with
  | some D, some R => nI (rnF D R (R 0).toNat 0 S0 (fun r => D (19 + r))).1
  | _, _ => zI (-1)
def stF (D : Nat → Nat) (R : Nat → Int) (y x : Int32) : Int32 := if 0 ≤ y.toInt ∧ y.toInt ≤ R 0 then (if (rnF D R y.toInt.toNat 0 S0 (fun r => D (19 + r))).1 = y.toInt.toNat then asF D (rnF D R y.toInt.toNat 0 S0 (fun r => D (19 + r))).2.1 (rnF D R y.toInt.toNat 0 S0 (fun r => D (19 + r))).2.2 x else zI (-2)) else zI (-2)
def aState (o : Option (Nat → Nat)) (q : Option (Nat → Int)) (y x : Int32) : Int32 := match o, q with
  | some D, some R => stF D R y x
  | _, _ => zI (-2)
def drwF (D : Nat → Nat) (s y x : Int32) : Int32 := if D 2 ≠ 0 ∧ 0 ≤ y.toInt ∧ y.toInt ≤ 60 then asF D (dyN D y.toInt.toNat s S0 (fun r => D (19 + r))).2.1 (dyN D y.toInt.toNat s S0 (fun r => D (19 + r))).2.2 x else zI (-2)
section CRT
variable {C : Ct} {M : Mm} {n m : Nat} {L : Nat → Nat → Nat} {P : Nat → Nat → Int} {k i x y s : Int32} {D : Nat → Nat} {R : Nat → Int}
theorem c_rideAtL {l : Nat} (W : CRs M n P) (h1 : l < n) : CG C 180 [.ref 0, .int (nI l)] M (fun w M' => w = some (.ref (15 + 22 * l)) ∧ M' = M) := by
  obtain ⟨hK, hn, hn2, hW⟩ := W
  have hr : M.2.2.2 5 l = some (15 + 22 * l) := by
    rcases (show l = 0 ∨ l = 1 by omega) with rfl | rfl
    · exact hK.2 5 0 15 rfl
    · exact hK.2 5 1 37 rfl
  refine CG_in (mL := 2) (hl := false) (lv := [some (.ref 0), some (.int (nI l))]) (ll := []) rfl rfl rfl ?_
  refine G_S (pc := 0) f_180_0 rfl rfl rfl ?_
  refine G_zltZ (pc := 1) f_180_1 rfl (by first | exact nI_toInt (by omega) | exact zI_toInt (by omega) (by omega) | rfl) (fun b1 => ?_) (fun b1 => ?_)
  · exfalso; omega
  · refine G_S (pc := 4) f_180_4 rfl rfl rfl ?_
    refine G_S (pc := 5) f_180_5 rfl rfl rfl ?_
    refine G_gR (pc := 6) f_180_6 (by decide) rfl (by first | assumption | exact hK.1 _ _ rfl) (by first | assumption | exact hK.2 _ _ _ rfl | (try dsimp only) <;> (repeat (first | exact up2_s | refine up2_o (by first | decide | omega) ?_)) <;> first | assumption | exact hK.2 _ _ _ rfl) ?_
    refine G_gR (pc := 9) f_180_9 (by decide) rfl (by first | assumption | exact hK.1 _ _ rfl) (by first | assumption | exact hK.2 _ _ _ rfl | (try dsimp only) <;> (repeat (first | exact up2_s | refine up2_o (by first | decide | omega) ?_)) <;> first | assumption | exact hK.2 _ _ _ rfl) ?_
    refine G_ic (v := nI 1) (pc := 12) f_180_12 (by decide) ?_
    refine G_iaN (pc := 13) f_180_13 (by first | assumption | exact hK.1 _ _ rfl) (by omega) (by omega) (by first | assumption | exact q1 _ (by omega) | exact q2 _ (by omega) | exact q3 _ (by omega) | exact q4 _ (by omega) | exact q5 _ (by omega) | exact vh _ (by omega) | exact (vr _ (by omega)).1 | exact (vr _ (by omega)).2 | exact vw _ (by omega) | exact vf _ (by omega) (by omega) | exact mI_s | ((refine mI_o (by first | decide | omega) ?_); (repeat (refine mI_o (by first | decide | omega) ?_)); first | exact mI_s | assumption | exact q1 _ (by omega) | exact q2 _ (by omega) | exact q3 _ (by omega) | exact q4 _ (by omega) | exact q5 _ (by omega) | exact vh _ (by omega) | exact (vr _ (by omega)).1 | exact (vr _ (by omega)).2 | exact vw _ (by omega) | exact vf _ (by omega) (by omega)) | rfl) ?_
    refine G_jgeZ (pc := 14) f_180_14 rfl (by first | exact nI_toInt (by omega) | exact zI_toInt (by omega) (by omega) | rfl) (by first | exact nI_toInt (by omega) | exact zI_toInt (by omega) (by omega) | rfl) (fun b2 => ?_) (fun b2 => ?_)
    · exfalso; omega
    · refine G_S (pc := 17) f_180_17 rfl rfl rfl ?_
      refine G_gR (pc := 18) f_180_18 (by decide) rfl (by first | assumption | exact hK.1 _ _ rfl) (by first | assumption | exact hK.2 _ _ _ rfl | (try dsimp only) <;> (repeat (first | exact up2_s | refine up2_o (by first | decide | omega) ?_)) <;> first | assumption | exact hK.2 _ _ _ rfl) ?_
      refine G_gR (pc := 21) f_180_21 (by decide) rfl (by first | assumption | exact hK.1 _ _ rfl) (by first | assumption | exact hK.2 _ _ _ rfl | (try dsimp only) <;> (repeat (first | exact up2_s | refine up2_o (by first | decide | omega) ?_)) <;> first | assumption | exact hK.2 _ _ _ rfl) ?_
      refine G_S (pc := 24) f_180_24 rfl rfl rfl ?_
      refine G_aaN2 (pc := 25) f_180_25 (by first | assumption | exact hK.1 _ _ rfl) (by decide) (by omega) (by omega) (by first | exact hr | assumption) ?_
      refine G_S (pc := 26) f_180_26 rfl rfl rfl ?_
      first | refine G_ra (pc := 30) f_180_30 ?_ | refine G_rnl (pc := 30) f_180_30 ?_
      exact ⟨rfl, rfl⟩
theorem c_rideAtN (W : CRs M n P) (hl : rid n P k = none) : CG C 180 [.ref 0, .int k] M (fun w M' => w = some .null ∧ M' = M) := by
  obtain ⟨hK, hn, hn2, hW⟩ := W
  have hk := rid_none hl
  refine CG_in (mL := 2) (hl := false) (lv := [some (.ref 0), some (.int k)]) (ll := []) rfl rfl rfl ?_
  refine G_S (pc := 0) f_180_0 rfl rfl rfl ?_
  refine G_zltZ (pc := 1) f_180_1 rfl (by first | exact nI_toInt (by omega) | exact zI_toInt (by omega) (by omega) | rfl) (fun b1 => ?_) (fun b1 => ?_)
  · refine G_S (pc := 29) f_180_29 rfl rfl rfl ?_
    first | refine G_ra (pc := 30) f_180_30 ?_ | refine G_rnl (pc := 30) f_180_30 ?_
    exact ⟨rfl, rfl⟩
  · refine G_S (pc := 4) f_180_4 rfl rfl rfl ?_
    refine G_S (pc := 5) f_180_5 rfl rfl rfl ?_
    refine G_gR (pc := 6) f_180_6 (by decide) rfl (by first | assumption | exact hK.1 _ _ rfl) (by first | assumption | exact hK.2 _ _ _ rfl | (try dsimp only) <;> (repeat (first | exact up2_s | refine up2_o (by first | decide | omega) ?_)) <;> first | assumption | exact hK.2 _ _ _ rfl) ?_
    refine G_gR (pc := 9) f_180_9 (by decide) rfl (by first | assumption | exact hK.1 _ _ rfl) (by first | assumption | exact hK.2 _ _ _ rfl | (try dsimp only) <;> (repeat (first | exact up2_s | refine up2_o (by first | decide | omega) ?_)) <;> first | assumption | exact hK.2 _ _ _ rfl) ?_
    refine G_ic (v := nI 1) (pc := 12) f_180_12 (by decide) ?_
    refine G_iaN (pc := 13) f_180_13 (by first | assumption | exact hK.1 _ _ rfl) (by omega) (by omega) (by first | assumption | exact q1 _ (by omega) | exact q2 _ (by omega) | exact q3 _ (by omega) | exact q4 _ (by omega) | exact q5 _ (by omega) | exact vh _ (by omega) | exact (vr _ (by omega)).1 | exact (vr _ (by omega)).2 | exact vw _ (by omega) | exact vf _ (by omega) (by omega) | exact mI_s | ((refine mI_o (by first | decide | omega) ?_); (repeat (refine mI_o (by first | decide | omega) ?_)); first | exact mI_s | assumption | exact q1 _ (by omega) | exact q2 _ (by omega) | exact q3 _ (by omega) | exact q4 _ (by omega) | exact q5 _ (by omega) | exact vh _ (by omega) | exact (vr _ (by omega)).1 | exact (vr _ (by omega)).2 | exact vw _ (by omega) | exact vf _ (by omega) (by omega)) | rfl) ?_
    refine G_jgeZ (pc := 14) f_180_14 rfl (by first | exact nI_toInt (by omega) | exact zI_toInt (by omega) (by omega) | rfl) (by first | exact nI_toInt (by omega) | exact zI_toInt (by omega) (by omega) | rfl) (fun b2 => ?_) (fun b2 => ?_)
    · refine G_S (pc := 29) f_180_29 rfl rfl rfl ?_
      first | refine G_ra (pc := 30) f_180_30 ?_ | refine G_rnl (pc := 30) f_180_30 ?_
      exact ⟨rfl, rfl⟩
    · exfalso; omega
theorem r_answer {v : Nat} (V : RWd M v R) : CG C 92 [.ref v, .int k, .int x] M (fun w M' => w = some (.int (deF R k x)) ∧ M' = M) := by
  obtain ⟨hK, ⟨⟨t0, t1, t2, t3⟩, r0, r1, r2⟩, ⟨hR, e, q1, q2, q3⟩, hv⟩ := V
  have hR0 := hR.1
  by_cases hk : 0 ≤ k.toInt ∧ k.toInt < R 0
  · obtain ⟨c, hc, rfl⟩ := i_nat (x := k) (n := 40) hk.1 (by omega)
    rw [nI_toInt (by omega)] at hk
    have a1 := q1 c hk.2
    have a2 := q2 c hk.2
    have a3 := q3 c hk.2
    refine CG_in (mL := 3) (hl := false) (lv := [some (.ref v), some (.int (nI c)), some (.int x)]) (ll := []) rfl rfl rfl ?_
    refine G_S (pc := 0) f_92_0 rfl rfl rfl ?_
    refine G_ic (v := zI (-1)) (pc := 1) f_92_1 (by decide) ?_
    refine G_jneZ (pc := 2) f_92_2 rfl (by first | exact nI_toInt (by omega) | exact zI_toInt (by omega) (by omega) | rfl) (by first | exact nI_toInt (by omega) | exact zI_toInt (by omega) (by omega) | rfl) (fun b1 => ?_) (fun b1 => ?_)
    · refine G_S (pc := 14) f_92_14 rfl rfl rfl ?_
      refine G_zltZ (pc := 15) f_92_15 rfl (by first | exact nI_toInt (by omega) | exact zI_toInt (by omega) (by omega) | rfl) (fun b3 => ?_) (fun b3 => ?_)
      · exfalso; omega
      · refine G_S (pc := 18) f_92_18 rfl rfl rfl ?_
        refine G_S (pc := 19) f_92_19 rfl rfl rfl ?_
        refine G_gIv (pc := 20) f_92_20 (by decide) rfl (by decide) (by first | assumption | exact hK.1 _ _ rfl) (by first | assumption | exact mI_s | ((refine mI_o (by first | decide | omega) ?_); (repeat (refine mI_o (by first | decide | omega) ?_)); first | exact mI_s | assumption) | rfl) ?_
        refine G_jltZ (pc := 23) f_92_23 rfl (by first | exact nI_toInt (by omega) | exact zI_toInt (by omega) (by omega) | rfl) (by first | exact nI_toInt (by omega) | exact zI_toInt (by omega) (by omega) | rfl) (fun b4 => ?_) (fun b4 => ?_)
        · refine G_S (pc := 29) f_92_29 rfl rfl rfl ?_
          rcases sw3 x with rfl | rfl | rfl | hw
          · refine G_S (pc := 30) f_92_30 rfl rfl rfl ?_
            refine G_S (pc := 56) f_92_56 rfl rfl rfl ?_
            refine G_gR (pc := 57) f_92_57 (by decide) rfl (by first | assumption | exact hK.1 _ _ rfl) (by first | assumption | exact hK.2 _ _ _ rfl | (try dsimp only) <;> (repeat (first | exact up2_s | refine up2_o (by first | decide | omega) ?_)) <;> first | assumption | exact hK.2 _ _ _ rfl) ?_
            refine G_S (pc := 60) f_92_60 rfl rfl rfl ?_
            refine G_iaN (pc := 61) f_92_61 (by first | assumption | exact hK.1 _ _ rfl) (by omega) (by omega) (by first | assumption | exact q1 _ (by omega) | exact q2 _ (by omega) | exact q3 _ (by omega) | exact q4 _ (by omega) | exact q5 _ (by omega) | exact vh _ (by omega) | exact (vr _ (by omega)).1 | exact (vr _ (by omega)).2 | exact vw _ (by omega) | exact vf _ (by omega) (by omega) | exact mI_s | ((refine mI_o (by first | decide | omega) ?_); (repeat (refine mI_o (by first | decide | omega) ?_)); first | exact mI_s | assumption | exact q1 _ (by omega) | exact q2 _ (by omega) | exact q3 _ (by omega) | exact q4 _ (by omega) | exact q5 _ (by omega) | exact vh _ (by omega) | exact (vr _ (by omega)).1 | exact (vr _ (by omega)).2 | exact vw _ (by omega) | exact vf _ (by omega) (by omega)) | rfl) ?_
            refine G_ri (pc := 62) f_92_62 ?_
            refine ⟨?_, rfl⟩
            congr 2
            unfold deF
            rw [nI_toInt (by omega), if_neg (by omega), Int.toNat_natCast]
            first
              | (rw [if_neg (by omega)]; done)
              | (rw [if_pos ⟨by omega, by decide, by decide⟩]; first | rfl | (congr 2; omega))
              | (rw [if_pos ⟨by omega, by decide, by decide⟩, show (nI 1).toInt.toNat = 1 from by decide, show 1 + 3 * c + 1 = 2 + 3 * c by omega])
              | (rw [if_pos ⟨by omega, by decide, by decide⟩, show (nI 2).toInt.toNat = 2 from by decide, show 1 + 3 * c + 2 = 3 + 3 * c by omega])
          · refine G_S (pc := 30) f_92_30 rfl rfl rfl ?_
            refine G_S (pc := 63) f_92_63 rfl rfl rfl ?_
            refine G_gR (pc := 64) f_92_64 (by decide) rfl (by first | assumption | exact hK.1 _ _ rfl) (by first | assumption | exact hK.2 _ _ _ rfl | (try dsimp only) <;> (repeat (first | exact up2_s | refine up2_o (by first | decide | omega) ?_)) <;> first | assumption | exact hK.2 _ _ _ rfl) ?_
            refine G_S (pc := 67) f_92_67 rfl rfl rfl ?_
            refine G_iaN (pc := 68) f_92_68 (by first | assumption | exact hK.1 _ _ rfl) (by omega) (by omega) (by first | assumption | exact q1 _ (by omega) | exact q2 _ (by omega) | exact q3 _ (by omega) | exact q4 _ (by omega) | exact q5 _ (by omega) | exact vh _ (by omega) | exact (vr _ (by omega)).1 | exact (vr _ (by omega)).2 | exact vw _ (by omega) | exact vf _ (by omega) (by omega) | exact mI_s | ((refine mI_o (by first | decide | omega) ?_); (repeat (refine mI_o (by first | decide | omega) ?_)); first | exact mI_s | assumption | exact q1 _ (by omega) | exact q2 _ (by omega) | exact q3 _ (by omega) | exact q4 _ (by omega) | exact q5 _ (by omega) | exact vh _ (by omega) | exact (vr _ (by omega)).1 | exact (vr _ (by omega)).2 | exact vw _ (by omega) | exact vf _ (by omega) (by omega)) | rfl) ?_
            refine G_ri (pc := 69) f_92_69 ?_
            refine ⟨?_, rfl⟩
            congr 2
            unfold deF
            rw [nI_toInt (by omega), if_neg (by omega), Int.toNat_natCast]
            first
              | (rw [if_neg (by omega)]; done)
              | (rw [if_pos ⟨by omega, by decide, by decide⟩]; first | rfl | (congr 2; omega))
              | (rw [if_pos ⟨by omega, by decide, by decide⟩, show (nI 1).toInt.toNat = 1 from by decide, show 1 + 3 * c + 1 = 2 + 3 * c by omega])
              | (rw [if_pos ⟨by omega, by decide, by decide⟩, show (nI 2).toInt.toNat = 2 from by decide, show 1 + 3 * c + 2 = 3 + 3 * c by omega])
          · refine G_S (pc := 30) f_92_30 rfl rfl rfl ?_
            refine G_S (pc := 70) f_92_70 rfl rfl rfl ?_
            refine G_gR (pc := 71) f_92_71 (by decide) rfl (by first | assumption | exact hK.1 _ _ rfl) (by first | assumption | exact hK.2 _ _ _ rfl | (try dsimp only) <;> (repeat (first | exact up2_s | refine up2_o (by first | decide | omega) ?_)) <;> first | assumption | exact hK.2 _ _ _ rfl) ?_
            refine G_S (pc := 74) f_92_74 rfl rfl rfl ?_
            refine G_iaN (pc := 75) f_92_75 (by first | assumption | exact hK.1 _ _ rfl) (by omega) (by omega) (by first | assumption | exact q1 _ (by omega) | exact q2 _ (by omega) | exact q3 _ (by omega) | exact q4 _ (by omega) | exact q5 _ (by omega) | exact vh _ (by omega) | exact (vr _ (by omega)).1 | exact (vr _ (by omega)).2 | exact vw _ (by omega) | exact vf _ (by omega) (by omega) | exact mI_s | ((refine mI_o (by first | decide | omega) ?_); (repeat (refine mI_o (by first | decide | omega) ?_)); first | exact mI_s | assumption | exact q1 _ (by omega) | exact q2 _ (by omega) | exact q3 _ (by omega) | exact q4 _ (by omega) | exact q5 _ (by omega) | exact vh _ (by omega) | exact (vr _ (by omega)).1 | exact (vr _ (by omega)).2 | exact vw _ (by omega) | exact vf _ (by omega) (by omega)) | rfl) ?_
            refine G_ri (pc := 76) f_92_76 ?_
            refine ⟨?_, rfl⟩
            congr 2
            unfold deF
            rw [nI_toInt (by omega), if_neg (by omega), Int.toNat_natCast]
            first
              | (rw [if_neg (by omega)]; done)
              | (rw [if_pos ⟨by omega, by decide, by decide⟩]; first | rfl | (congr 2; omega))
              | (rw [if_pos ⟨by omega, by decide, by decide⟩, show (nI 1).toInt.toNat = 1 from by decide, show 1 + 3 * c + 1 = 2 + 3 * c by omega])
              | (rw [if_pos ⟨by omega, by decide, by decide⟩, show (nI 2).toInt.toNat = 2 from by decide, show 1 + 3 * c + 2 = 3 + 3 * c by omega])
          · refine G_tsO (pc := 30) f_92_30 rfl (hw) ?_
            refine G_bi (v := zI (-2)) (pc := 77) f_92_77 (by decide) ?_
            refine G_ri (pc := 79) f_92_79 ?_
            refine ⟨?_, rfl⟩
            congr 2
            unfold deF
            rw [nI_toInt (by omega), if_neg (by omega), Int.toNat_natCast]
            first
              | (rw [if_neg (by omega)]; done)
              | (rw [if_pos ⟨by omega, by decide, by decide⟩]; first | rfl | (congr 2; omega))
              | (rw [if_pos ⟨by omega, by decide, by decide⟩, show (nI 1).toInt.toNat = 1 from by decide, show 1 + 3 * c + 1 = 2 + 3 * c by omega])
              | (rw [if_pos ⟨by omega, by decide, by decide⟩, show (nI 2).toInt.toNat = 2 from by decide, show 1 + 3 * c + 2 = 3 + 3 * c by omega])
        · exfalso; omega
    · exfalso; omega
  · refine CG_in (mL := 3) (hl := false) (lv := [some (.ref v), some (.int k), some (.int x)]) (ll := []) rfl rfl rfl ?_
    refine G_S (pc := 0) f_92_0 rfl rfl rfl ?_
    refine G_ic (v := zI (-1)) (pc := 1) f_92_1 (by decide) ?_
    refine G_jneZ (pc := 2) f_92_2 rfl (by first | exact nI_toInt (by omega) | exact zI_toInt (by omega) (by omega) | rfl) (by first | exact nI_toInt (by omega) | exact zI_toInt (by omega) (by omega) | rfl) (fun b1 => ?_) (fun b1 => ?_)
    · refine G_S (pc := 14) f_92_14 rfl rfl rfl ?_
      refine G_zltZ (pc := 15) f_92_15 rfl (by first | exact nI_toInt (by omega) | exact zI_toInt (by omega) (by omega) | rfl) (fun b3 => ?_) (fun b3 => ?_)
      · refine G_bi (v := zI (-2)) (pc := 26) f_92_26 (by decide) ?_
        refine G_ri (pc := 28) f_92_28 ?_
        refine ⟨?_, rfl⟩
        congr 2
        unfold deF
        first
          | (exfalso; omega)
          | rw [if_pos (by omega), if_pos (by omega)]
          | rw [if_pos (by omega), if_neg (by omega)]
          | rw [if_neg (by omega), if_neg (fun q => hk q.1)]
      · refine G_S (pc := 18) f_92_18 rfl rfl rfl ?_
        refine G_S (pc := 19) f_92_19 rfl rfl rfl ?_
        refine G_gIv (pc := 20) f_92_20 (by decide) rfl (by decide) (by first | assumption | exact hK.1 _ _ rfl) (by first | assumption | exact mI_s | ((refine mI_o (by first | decide | omega) ?_); (repeat (refine mI_o (by first | decide | omega) ?_)); first | exact mI_s | assumption) | rfl) ?_
        refine G_jltZ (pc := 23) f_92_23 rfl (by first | exact nI_toInt (by omega) | exact zI_toInt (by omega) (by omega) | rfl) (by first | exact nI_toInt (by omega) | exact zI_toInt (by omega) (by omega) | rfl) (fun b4 => ?_) (fun b4 => ?_)
        · exfalso; omega
        · refine G_bi (v := zI (-2)) (pc := 26) f_92_26 (by decide) ?_
          refine G_ri (pc := 28) f_92_28 ?_
          refine ⟨?_, rfl⟩
          congr 2
          unfold deF
          first
            | (exfalso; omega)
            | rw [if_pos (by omega), if_pos (by omega)]
            | rw [if_pos (by omega), if_neg (by omega)]
            | rw [if_neg (by omega), if_neg (fun q => hk q.1)]
    · refine G_S (pc := 5) f_92_5 rfl rfl rfl ?_
      first | refine G_bNe (pc := 6) f_92_6 rfl (fun b2 => ?_) (fun b2 => ?_) | refine G_zneZ (pc := 6) f_92_6 rfl (by first | exact nI_toInt (by omega) | exact zI_toInt (by omega) (by omega) | rfl) (fun b2 => ?_) (fun b2 => ?_)
      · refine G_S (pc := 14) f_92_14 rfl rfl rfl ?_
        refine G_zltZ (pc := 15) f_92_15 rfl (by first | exact nI_toInt (by omega) | exact zI_toInt (by omega) (by omega) | rfl) (fun b3 => ?_) (fun b3 => ?_)
        · refine G_bi (v := zI (-2)) (pc := 26) f_92_26 (by decide) ?_
          refine G_ri (pc := 28) f_92_28 ?_
          refine ⟨?_, rfl⟩
          congr 2
          unfold deF
          first
            | (exfalso; omega)
            | rw [if_pos (by omega), if_pos (by omega)]
            | rw [if_pos (by omega), if_neg (by omega)]
            | rw [if_neg (by omega), if_neg (fun q => hk q.1)]
        · refine G_S (pc := 18) f_92_18 rfl rfl rfl ?_
          refine G_S (pc := 19) f_92_19 rfl rfl rfl ?_
          refine G_gIv (pc := 20) f_92_20 (by decide) rfl (by decide) (by first | assumption | exact hK.1 _ _ rfl) (by first | assumption | exact mI_s | ((refine mI_o (by first | decide | omega) ?_); (repeat (refine mI_o (by first | decide | omega) ?_)); first | exact mI_s | assumption) | rfl) ?_
          refine G_jltZ (pc := 23) f_92_23 rfl (by first | exact nI_toInt (by omega) | exact zI_toInt (by omega) (by omega) | rfl) (by first | exact nI_toInt (by omega) | exact zI_toInt (by omega) (by omega) | rfl) (fun b4 => ?_) (fun b4 => ?_)
          · exfalso; omega
          · refine G_bi (v := zI (-2)) (pc := 26) f_92_26 (by decide) ?_
            refine G_ri (pc := 28) f_92_28 ?_
            refine ⟨?_, rfl⟩
            congr 2
            unfold deF
            first
              | (exfalso; omega)
              | rw [if_pos (by omega), if_pos (by omega)]
              | rw [if_pos (by omega), if_neg (by omega)]
              | rw [if_neg (by omega), if_neg (fun q => hk q.1)]
      · refine G_S (pc := 9) f_92_9 rfl rfl rfl ?_
        refine G_gIv (pc := 10) f_92_10 (by decide) rfl (by decide) (by first | assumption | exact hK.1 _ _ rfl) (by first | assumption | exact mI_s | ((refine mI_o (by first | decide | omega) ?_); (repeat (refine mI_o (by first | decide | omega) ?_)); first | exact mI_s | assumption) | rfl) ?_
        refine G_ri (pc := 13) f_92_13 ?_
        refine ⟨?_, rfl⟩
        congr 2
        unfold deF
        first
          | (exfalso; omega)
          | rw [if_pos (by omega), if_pos (by omega)]
          | rw [if_pos (by omega), if_neg (by omega)]
          | rw [if_neg (by omega), if_neg (fun q => hk q.1)]
end CRT
