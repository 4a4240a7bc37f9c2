/-! couples: the class -/
section CPC
variable {C : Ct} {M : Mm} {n h S p : Nat} {L : Nat → Nat → Nat} {k x y : Int32} {D : Nat → Nat}
theorem b_even (hS : S < 256) (hp : p < 256) : CG C 11 [.int (nI p), .int (nI S)] M (fun w M' => w = some (.int (b2i (p &&& S = p ∧ pc8 p % 2 = 0))) ∧ M' = M) := by
  have hpc := pc8_le p hp
  have hle : p &&& S ≤ p := Nat.and_le_left
  refine CG_in (mL := 2) (hl := false) (lv := [some (.int (nI p)), some (.int (nI S))]) (ll := []) rfl rfl rfl ?_
  refine G_S (pc := 0) f_11_0 rfl rfl rfl ?_
  refine G_S (pc := 1) f_11_1 rfl rfl rfl ?_
  first | refine G_andN (pc := 2) f_11_2 ?_ | refine G_andnN (pc := 2) f_11_2 ?_ | refine G_S (pc := 2) f_11_2 rfl rfl rfl ?_
  refine G_S (pc := 3) f_11_3 rfl rfl rfl ?_
  refine G_jneZ (pc := 4) f_11_4 rfl (by first | exact nI_toInt (by omega) | exact zI_toInt (by omega) (by omega) | rfl) (by first | exact nI_toInt (by omega) | exact zI_toInt (by omega) (by omega) | rfl) (fun b1 => ?_) (fun b1 => ?_)
  · refine G_ic (v := nI 0) (pc := 20) f_11_20 (by decide) ?_
    refine G_rz (pc := 21) f_11_21 (by first | exact Or.inl rfl | exact Or.inr rfl | exact b2i_01 _ | assumption) ?_
    refine ⟨?_, rfl⟩
    first
      | rw [b2i_1 ⟨by omega, by omega⟩]
      | rw [b2i_0 (by omega)]
  · refine G_S (pc := 7) f_11_7 rfl rfl rfl ?_
    refine G_CS (pc := 8) f_11_8 rfl rfl (by decide) rfl rfl ⟨Nat.le_of_ble_eq_true rfl, Nat.le_of_ble_eq_true rfl⟩ ?_
    refine CG.go (j_bitCount hp) ?_
    refine G_ic (v := nI 2) (pc := 11) f_11_11 (by decide) ?_
    refine G_remN (pc := 12) f_11_12 (by omega) (by omega) (by omega) ?_
    first | refine G_bNe (pc := 13) f_11_13 rfl (fun b2 => ?_) (fun b2 => ?_) | refine G_zneZ (pc := 13) f_11_13 rfl (by first | exact nI_toInt (by omega) | exact zI_toInt (by omega) (by omega) | rfl) (fun b2 => ?_) (fun b2 => ?_)
    · refine G_ic (v := nI 0) (pc := 20) f_11_20 (by decide) ?_
      refine G_rz (pc := 21) f_11_21 (by first | exact Or.inl rfl | exact Or.inr rfl | exact b2i_01 _ | assumption) ?_
      refine ⟨?_, rfl⟩
      first
        | rw [b2i_1 ⟨by omega, by omega⟩]
        | rw [b2i_0 (by omega)]
    · refine G_ic (v := nI 1) (pc := 16) f_11_16 (by decide) ?_
      refine G_S (pc := 17) f_11_17 rfl rfl rfl ?_
      refine G_rz (pc := 21) f_11_21 (by first | exact Or.inl rfl | exact Or.inr rfl | exact b2i_01 _ | assumption) ?_
      refine ⟨?_, rfl⟩
      first
        | rw [b2i_1 ⟨by omega, by omega⟩]
        | rw [b2i_0 (by omega)]
theorem b_without {a r : Nat} (ha : a < 8) (hr : r < 8) : CG C 12 [.int (nI p), .int (nI a), .int (nI r)] M (fun w M' => w = some (.int (nI (cl (cl p a) r))) ∧ M' = M) := by
  refine CG_in (mL := 3) (hl := false) (lv := [some (.int (nI p)), some (.int (nI a)), some (.int (nI r))]) (ll := []) rfl rfl rfl ?_
  refine G_S (pc := 0) f_12_0 rfl rfl rfl ?_
  refine G_ic (v := nI 1) (pc := 1) f_12_1 (by decide) ?_
  refine G_S (pc := 2) f_12_2 rfl rfl rfl ?_
  first | refine G_shl1 (pc := 3) f_12_3 (by omega) ?_ | refine G_S (pc := 3) f_12_3 rfl rfl rfl ?_
  refine G_ic (v := zI (-1)) (pc := 4) f_12_4 (by decide) ?_
  first | refine G_xorN (pc := 5) f_12_5 ?_ | refine G_S (pc := 5) f_12_5 rfl rfl rfl ?_
  first | refine G_andN (pc := 6) f_12_6 ?_ | refine G_andnN (pc := 6) f_12_6 ?_ | refine G_S (pc := 6) f_12_6 rfl rfl rfl ?_
  refine G_ic (v := nI 1) (pc := 7) f_12_7 (by decide) ?_
  refine G_S (pc := 8) f_12_8 rfl rfl rfl ?_
  first | refine G_shl1 (pc := 9) f_12_9 (by omega) ?_ | refine G_S (pc := 9) f_12_9 rfl rfl rfl ?_
  refine G_ic (v := zI (-1)) (pc := 10) f_12_10 (by decide) ?_
  first | refine G_xorN (pc := 11) f_12_11 ?_ | refine G_S (pc := 11) f_12_11 rfl rfl rfl ?_
  first | refine G_andN (pc := 12) f_12_12 ?_ | refine G_andnN (pc := 12) f_12_12 ?_ | refine G_S (pc := 12) f_12_12 rfl rfl rfl ?_
  refine G_ri (pc := 13) f_12_13 ?_
  exact ⟨rfl, rfl⟩
theorem b_borne {a r : Nat} (W : LW M h D) (ha : a < D 2) (hr : r < D 2) : CG C 13 [.ref h, .int (nI a), .int (nI r)] M (fun w M' => w = some (.int (nI (hf D a r))) ∧ M' = M) := by
  have hK := W.1
  obtain ⟨⟨t0, t1, t2, t3, t4, t5, t6⟩, r0, r3, r4, r6, r7, r8⟩ := W.2.1
  obtain ⟨hD, ⟨v0, v1, v2⟩, vh, vr, vw, vf⟩ := W.2.2.1
  have hs := W.2.2.2.1
  have hh := W.2.2.2.2
  have hn0 : _ ≤ 8 := hD.1
  have hn1 : _ ≤ 6 := hD.2.1.2
  have hn2 : _ ≤ 8 := hD.2.2.1
  have h1 := hD.2.2.2.2.2.1 a (by omega)
  have h2 := hD.2.2.2.2.2.1 r (by omega)
  have q1 := (vr a ha).2
  have q2 := (vr r hr).2
  refine CG_in (mL := 3) (hl := false) (lv := [some (.ref h), some (.int (nI a)), some (.int (nI r))]) (ll := []) rfl rfl rfl ?_
  refine G_S (pc := 0) f_13_0 rfl rfl rfl ?_
  refine G_gR (pc := 1) f_13_1 (by decide) rfl (by first | assumption | exact hK.1 _ _ rfl) (by first | assumption | exact hK.2 _ _ _ rfl | (try dsimp only) <;> (repeat (first | exact up2_s | refine up2_o (by first | decide | omega) ?_)) <;> first | assumption | exact hK.2 _ _ _ rfl) ?_
  refine G_S (pc := 4) f_13_4 rfl rfl rfl ?_
  refine G_iaN (pc := 5) f_13_5 (by first | assumption | exact hK.1 _ _ rfl) (by omega) (by omega) (by first | exact q1 | rfl) ?_
  refine G_S (pc := 6) f_13_6 rfl rfl rfl ?_
  refine G_gR (pc := 7) f_13_7 (by decide) rfl (by first | assumption | exact hK.1 _ _ rfl) (by first | assumption | exact hK.2 _ _ _ rfl | (try dsimp only) <;> (repeat (first | exact up2_s | refine up2_o (by first | decide | omega) ?_)) <;> first | assumption | exact hK.2 _ _ _ rfl) ?_
  refine G_S (pc := 10) f_13_10 rfl rfl rfl ?_
  refine G_iaN (pc := 11) f_13_11 (by first | assumption | exact hK.1 _ _ rfl) (by omega) (by omega) (by first | exact q2 | rfl) ?_
  first | refine G_addN (pc := 12) f_13_12 ?_ | refine G_addZ (pc := 12) f_13_12 (by first | rfl | exact nI_zI _) (by first | rfl | exact nI_zI _) ?_ | refine G_S (pc := 12) f_13_12 rfl rfl rfl ?_
  refine G_ic (v := nI 1) (pc := 13) f_13_13 (by decide) ?_
  first | refine G_addN (pc := 14) f_13_14 ?_ | refine G_addZ (pc := 14) f_13_14 (by first | rfl | exact nI_zI _) (by first | rfl | exact nI_zI _) ?_ | refine G_S (pc := 14) f_13_14 rfl rfl rfl ?_
  refine G_ic (v := nI 2) (pc := 15) f_13_15 (by decide) ?_
  refine G_divN (pc := 16) f_13_16 (by omega) (by omega) (by omega) ?_
  refine G_ri (pc := 17) f_13_17 ?_
  exact ⟨rfl, rfl⟩
def bsI (v : Nat) : Int32 := if v = 1000000 then zI (-1) else nI v
theorem b_leastOf (W : LW M h D) (hp : p < 256) (hpD : p < 2 ^ D 2) (h0 : 0 < p) (he : pc8 p % 2 = 0) (hS : p &&& S = p) (hT : ∀ x, x < p → x &&& S = x → pc8 x % 2 = 0 → M.2.1 93 x = nI (lcF D x)) : CG C 8 [.ref 89, .ref h, .int (nI p)] M (fun w M' => w = some (.int (nI (lcF D p))) ∧ M' = M) := by
  have hK := W.1
  obtain ⟨⟨t0, t1, t2, t3, t4, t5, t6⟩, r0, r3, r4, r6, r7, r8⟩ := W.2.1
  obtain ⟨hD, ⟨v0, v1, v2⟩, vh, vr, vw, vf⟩ := W.2.2.1
  have hs := W.2.2.2.1
  have hh := W.2.2.2.2
  have hn0 : _ ≤ 8 := hD.1
  have hn1 : _ ≤ 6 := hD.2.1.2
  have hn2 : _ ≤ 8 := hD.2.2.1
  have ha := ntz_lt p
  have hb := ntz_bit p hp h0
  have haD := ntz_2 (D 2) (by omega) p hp hpD h0
  have loop : ∀ r, r ≤ D 2 → ntzF p + 1 ≤ r → ∀ v, G C 8 (13, [some (.ref 89), some (.ref h), some (.int (nI p)), some (.int (nI (ntzF p))), some (.int ((bsI (cvM D (lcF D) p (ntzF p) r)))), some (.int (nI r)), v], [], [], M) (fun w M' => w = some (.int (nI (lcF D p))) ∧ M' = M) := by
    refine upto (fun r hr ih hra v => ?_)
    have c6 := cvM_60 hp hpD h0 hD he r (by omega)
    have fin : r = D 2 → bsI (cvM D (lcF D) p (ntzF p) r) = nI (lcF D p) := by
      intro e
      subst e
      have := lcF_even hD _ p (Nat.lt_succ_self _) hp hpD he
      rw [lcF_eq hp h0 hn2] at this ⊢
      unfold bsI
      rw [if_neg (by omega)]
    have hx : r < D 2 → p.testBit r = true → cl (cl p (ntzF p)) r < 256 ∧ M.2.1 93 (cl (cl p (ntzF p)) r) = nI (lcF D (cl (cl p (ntzF p)) r)) ∧ lcF D (cl (cl p (ntzF p)) r) ≤ 60 ∧ hf D (ntzF p) r ≤ 60 := by
      intro q hbr
      have hc := cl2 hp ha (by omega) hb hbr (by omega)
      exact ⟨hc.2.1, hT _ hc.1 (cl_sub (cl_sub hS)) (by omega), lcF_even hD _ _ (Nat.lt_succ_self _) hc.2.1 (by omega) (by omega), hf_le hD ha (by omega)⟩
    have es : cvM D (lcF D) p (ntzF p) (r + 1) = if ntzF p < r ∧ p.testBit r = true then min (cvM D (lcF D) p (ntzF p) r) (max (hf D (ntzF p) r) (lcF D (cl (cl p (ntzF p)) r))) else cvM D (lcF D) p (ntzF p) r := rfl
    by_cases hz : cvM D (lcF D) p (ntzF p) r = 1000000
    · have ez : bsI (cvM D (lcF D) p (ntzF p) r) = zI (-1) := if_pos hz
      rw [ez] at fin ⊢
      refine G_S (pc := 13) f_8_13 rfl rfl rfl ?_
      refine G_S (pc := 15) f_8_15 rfl rfl rfl ?_
      refine G_gIv (pc := 16) f_8_16 (by decide) rfl (by decide) (by first | assumption | exact hK.1 _ _ rfl) (by first | assumption | exact mI_s | ((refine mI_o (by first | decide | omega) ?_); (repeat (refine mI_o (by first | decide | omega) ?_)); first | exact mI_s | assumption) | rfl) ?_
      refine G_jgeZ (pc := 19) f_8_19 rfl (by first | exact nI_toInt (by omega) | exact zI_toInt (by omega) (by omega) | rfl) (by first | exact nI_toInt (by omega) | exact zI_toInt (by omega) (by omega) | rfl) (fun b1 => ?_) (fun b1 => ?_)
      · refine G_S (pc := 81) f_8_81 rfl rfl rfl ?_
        refine G_ri (pc := 83) f_8_83 ?_
        rw [fin (by omega)]
        exact ⟨rfl, rfl⟩
      · refine G_S (pc := 22) f_8_22 rfl rfl rfl ?_
        refine G_S (pc := 23) f_8_23 rfl rfl rfl ?_
        refine G_CS (pc := 25) f_8_25 rfl rfl (by decide) rfl rfl ⟨Nat.le_of_ble_eq_true rfl, Nat.le_of_ble_eq_true rfl⟩ ?_
        refine CG.go (c_holds (by omega) (by omega)) ?_
        first | refine G_bEq (pc := 28) f_8_28 rfl (fun b2 => ?_) (fun b2 => ?_) | refine G_zeqZ (pc := 28) f_8_28 rfl (by first | exact nI_toInt (by omega) | exact zI_toInt (by omega) (by omega) | rfl) (fun b2 => ?_) (fun b2 => ?_)
        · first | refine G_inc1 (pc := 75) f_8_75 rfl ?_ | refine G_S (pc := 75) f_8_75 rfl rfl rfl ?_
          refine G_S (pc := 78) f_8_78 rfl rfl rfl ?_
          have e := ih (by omega) (by omega)
          first
            | (rw [es, if_neg (fun z => b2 z.2), ez] at e
               exact e _)
            | (rw [es, if_pos ⟨by omega, b2⟩] at e
               have em : bsI (min (cvM D (lcF D) p (ntzF p) r) (max (hf D (ntzF p) r) (lcF D (cl (cl p (ntzF p)) r)))) = nI (max (hf D (ntzF p) r) (lcF D (cl (cl p (ntzF p)) r))) := by
                 unfold bsI
                 rw [if_neg (by omega), show min (cvM D (lcF D) p (ntzF p) r) (max (hf D (ntzF p) r) (lcF D (cl (cl p (ntzF p)) r))) = max (hf D (ntzF p) r) (lcF D (cl (cl p (ntzF p)) r)) by omega]
               rw [em] at e
               exact e _)
        · obtain ⟨x1, x2, x3, x4⟩ := hx (by omega) b2
          refine G_S (pc := 31) f_8_31 rfl rfl rfl ?_
          refine G_S (pc := 32) f_8_32 rfl rfl rfl ?_
          refine G_S (pc := 33) f_8_33 rfl rfl rfl ?_
          refine G_CS (pc := 35) f_8_35 rfl rfl (by decide) rfl rfl ⟨Nat.le_of_ble_eq_true rfl, Nat.le_of_ble_eq_true rfl⟩ ?_
          refine CG.go (b_borne W haD (by omega)) ?_
          refine G_S (pc := 38) f_8_38 rfl rfl rfl ?_
          refine G_gR (pc := 39) f_8_39 (by decide) rfl (by first | assumption | exact hK.1 _ _ rfl) (by first | assumption | exact hK.2 _ _ _ rfl | (try dsimp only) <;> (repeat (first | exact up2_s | refine up2_o (by first | decide | omega) ?_)) <;> first | assumption | exact hK.2 _ _ _ rfl) ?_
          refine G_S (pc := 42) f_8_42 rfl rfl rfl ?_
          refine G_S (pc := 43) f_8_43 rfl rfl rfl ?_
          refine G_S (pc := 44) f_8_44 rfl rfl rfl ?_
          refine G_CS (pc := 46) f_8_46 rfl rfl (by decide) rfl rfl ⟨Nat.le_of_ble_eq_true rfl, Nat.le_of_ble_eq_true rfl⟩ ?_
          refine CG.go (b_without ha (by omega)) ?_
          refine G_iaN (pc := 49) f_8_49 (by first | assumption | exact hK.1 _ _ rfl) (by omega) (by omega) (by first | exact x2 | rfl) ?_
          first | refine G_maxN (pc := 50) f_8_50 rfl rfl (by omega) (by omega) ?_ | refine G_maxZ (pc := 50) f_8_50 rfl rfl (by first | exact nI_toInt (by omega) | exact zI_toInt (by omega) (by omega) | rfl) (by first | exact nI_toInt (by omega) | exact zI_toInt (by omega) (by omega) | rfl) ?_
          refine G_S (pc := 53) f_8_53 rfl rfl rfl ?_
          refine G_S (pc := 55) f_8_55 rfl rfl rfl ?_
          refine G_ic (v := zI (-1)) (pc := 57) f_8_57 (by decide) ?_
          refine G_jneZ (pc := 58) f_8_58 rfl (by first | exact nI_toInt (by omega) | exact zI_toInt (by omega) (by omega) | rfl) (by first | exact nI_toInt (by omega) | exact zI_toInt (by omega) (by omega) | rfl) (fun b3 => ?_) (fun b3 => ?_)
          · exact absurd rfl b3
          · refine G_S (pc := 61) f_8_61 rfl rfl rfl ?_
            refine G_S (pc := 63) f_8_63 rfl rfl rfl ?_
            refine G_S (pc := 73) f_8_73 rfl rfl rfl ?_
            first | refine G_inc1 (pc := 75) f_8_75 rfl ?_ | refine G_S (pc := 75) f_8_75 rfl rfl rfl ?_
            refine G_S (pc := 78) f_8_78 rfl rfl rfl ?_
            have e := ih (by omega) (by omega)
            first
              | (rw [es, if_neg (fun z => b2 z.2), ez] at e
                 exact e _)
              | (rw [es, if_pos ⟨by omega, b2⟩] at e
                 have em : bsI (min (cvM D (lcF D) p (ntzF p) r) (max (hf D (ntzF p) r) (lcF D (cl (cl p (ntzF p)) r)))) = nI (max (hf D (ntzF p) r) (lcF D (cl (cl p (ntzF p)) r))) := by
                   unfold bsI
                   rw [if_neg (by omega), show min (cvM D (lcF D) p (ntzF p) r) (max (hf D (ntzF p) r) (lcF D (cl (cl p (ntzF p)) r))) = max (hf D (ntzF p) r) (lcF D (cl (cl p (ntzF p)) r)) by omega]
                 rw [em] at e
                 exact e _)
    · have ez : bsI (cvM D (lcF D) p (ntzF p) r) = nI (cvM D (lcF D) p (ntzF p) r) := if_neg hz
      rw [ez] at fin ⊢
      refine G_S (pc := 13) f_8_13 rfl rfl rfl ?_
      refine G_S (pc := 15) f_8_15 rfl rfl rfl ?_
      refine G_gIv (pc := 16) f_8_16 (by decide) rfl (by decide) (by first | assumption | exact hK.1 _ _ rfl) (by first | assumption | exact mI_s | ((refine mI_o (by first | decide | omega) ?_); (repeat (refine mI_o (by first | decide | omega) ?_)); first | exact mI_s | assumption) | rfl) ?_
      refine G_jgeZ (pc := 19) f_8_19 rfl (by first | exact nI_toInt (by omega) | exact zI_toInt (by omega) (by omega) | rfl) (by first | exact nI_toInt (by omega) | exact zI_toInt (by omega) (by omega) | rfl) (fun b1 => ?_) (fun b1 => ?_)
      · refine G_S (pc := 81) f_8_81 rfl rfl rfl ?_
        refine G_ri (pc := 83) f_8_83 ?_
        rw [fin (by omega)]
        exact ⟨rfl, rfl⟩
      · refine G_S (pc := 22) f_8_22 rfl rfl rfl ?_
        refine G_S (pc := 23) f_8_23 rfl rfl rfl ?_
        refine G_CS (pc := 25) f_8_25 rfl rfl (by decide) rfl rfl ⟨Nat.le_of_ble_eq_true rfl, Nat.le_of_ble_eq_true rfl⟩ ?_
        refine CG.go (c_holds (by omega) (by omega)) ?_
        first | refine G_bEq (pc := 28) f_8_28 rfl (fun b2 => ?_) (fun b2 => ?_) | refine G_zeqZ (pc := 28) f_8_28 rfl (by first | exact nI_toInt (by omega) | exact zI_toInt (by omega) (by omega) | rfl) (fun b2 => ?_) (fun b2 => ?_)
        · first | refine G_inc1 (pc := 75) f_8_75 rfl ?_ | refine G_S (pc := 75) f_8_75 rfl rfl rfl ?_
          refine G_S (pc := 78) f_8_78 rfl rfl rfl ?_
          have e := ih (by omega) (by omega)
          first
            | (rw [es, if_neg (fun z => b2 z.2), ez] at e
               exact e _)
            | (rw [es, if_pos ⟨by omega, b2⟩] at e
               have em : bsI (min (cvM D (lcF D) p (ntzF p) r) (max (hf D (ntzF p) r) (lcF D (cl (cl p (ntzF p)) r)))) = nI (min (cvM D (lcF D) p (ntzF p) r) (max (hf D (ntzF p) r) (lcF D (cl (cl p (ntzF p)) r)))) := by
                 unfold bsI
                 rw [if_neg (by omega)]
               rw [em] at e
               exact e _)
        · obtain ⟨x1, x2, x3, x4⟩ := hx (by omega) b2
          refine G_S (pc := 31) f_8_31 rfl rfl rfl ?_
          refine G_S (pc := 32) f_8_32 rfl rfl rfl ?_
          refine G_S (pc := 33) f_8_33 rfl rfl rfl ?_
          refine G_CS (pc := 35) f_8_35 rfl rfl (by decide) rfl rfl ⟨Nat.le_of_ble_eq_true rfl, Nat.le_of_ble_eq_true rfl⟩ ?_
          refine CG.go (b_borne W haD (by omega)) ?_
          refine G_S (pc := 38) f_8_38 rfl rfl rfl ?_
          refine G_gR (pc := 39) f_8_39 (by decide) rfl (by first | assumption | exact hK.1 _ _ rfl) (by first | assumption | exact hK.2 _ _ _ rfl | (try dsimp only) <;> (repeat (first | exact up2_s | refine up2_o (by first | decide | omega) ?_)) <;> first | assumption | exact hK.2 _ _ _ rfl) ?_
          refine G_S (pc := 42) f_8_42 rfl rfl rfl ?_
          refine G_S (pc := 43) f_8_43 rfl rfl rfl ?_
          refine G_S (pc := 44) f_8_44 rfl rfl rfl ?_
          refine G_CS (pc := 46) f_8_46 rfl rfl (by decide) rfl rfl ⟨Nat.le_of_ble_eq_true rfl, Nat.le_of_ble_eq_true rfl⟩ ?_
          refine CG.go (b_without ha (by omega)) ?_
          refine G_iaN (pc := 49) f_8_49 (by first | assumption | exact hK.1 _ _ rfl) (by omega) (by omega) (by first | exact x2 | rfl) ?_
          first | refine G_maxN (pc := 50) f_8_50 rfl rfl (by omega) (by omega) ?_ | refine G_maxZ (pc := 50) f_8_50 rfl rfl (by first | exact nI_toInt (by omega) | exact zI_toInt (by omega) (by omega) | rfl) (by first | exact nI_toInt (by omega) | exact zI_toInt (by omega) (by omega) | rfl) ?_
          refine G_S (pc := 53) f_8_53 rfl rfl rfl ?_
          refine G_S (pc := 55) f_8_55 rfl rfl rfl ?_
          refine G_ic (v := zI (-1)) (pc := 57) f_8_57 (by decide) ?_
          refine G_jneZ (pc := 58) f_8_58 rfl (by first | exact nI_toInt (by omega) | exact zI_toInt (by omega) (by omega) | rfl) (by first | exact nI_toInt (by omega) | exact zI_toInt (by omega) (by omega) | rfl) (fun b3 => ?_) (fun b3 => ?_)
          · refine G_S (pc := 66) f_8_66 rfl rfl rfl ?_
            refine G_S (pc := 68) f_8_68 rfl rfl rfl ?_
            first | refine G_minN (pc := 70) f_8_70 rfl rfl (by omega) (by omega) ?_ | refine G_minZ (pc := 70) f_8_70 rfl rfl (by first | exact nI_toInt (by omega) | exact zI_toInt (by omega) (by omega) | rfl) (by first | exact nI_toInt (by omega) | exact zI_toInt (by omega) (by omega) | rfl) ?_
            refine G_S (pc := 73) f_8_73 rfl rfl rfl ?_
            first | refine G_inc1 (pc := 75) f_8_75 rfl ?_ | refine G_S (pc := 75) f_8_75 rfl rfl rfl ?_
            refine G_S (pc := 78) f_8_78 rfl rfl rfl ?_
            have e := ih (by omega) (by omega)
            first
              | (rw [es, if_neg (fun z => b2 z.2), ez] at e
                 exact e _)
              | (rw [es, if_pos ⟨by omega, b2⟩] at e
                 have em : bsI (min (cvM D (lcF D) p (ntzF p) r) (max (hf D (ntzF p) r) (lcF D (cl (cl p (ntzF p)) r)))) = nI (min (cvM D (lcF D) p (ntzF p) r) (max (hf D (ntzF p) r) (lcF D (cl (cl p (ntzF p)) r)))) := by
                   unfold bsI
                   rw [if_neg (by omega)]
                 rw [em] at e
                 exact e _)
          · exfalso; omega
  refine CG_in (mL := 7) (hl := false) (lv := [some (.ref 89), some (.ref h), some (.int (nI p)), none, none, none, none]) (ll := []) rfl rfl rfl ?_
  refine G_S (pc := 0) f_8_0 rfl rfl rfl ?_
  refine G_CS (pc := 1) f_8_1 rfl rfl (by decide) rfl rfl ⟨Nat.le_of_ble_eq_true rfl, Nat.le_of_ble_eq_true rfl⟩ ?_
  refine CG.go (j_ntz h0 hp) ?_
  refine G_S (pc := 4) f_8_4 rfl rfl rfl ?_
  refine G_ic (v := zI (-1)) (pc := 5) f_8_5 (by decide) ?_
  refine G_S (pc := 6) f_8_6 rfl rfl rfl ?_
  refine G_S (pc := 8) f_8_8 rfl rfl rfl ?_
  refine G_ic (v := nI 1) (pc := 9) f_8_9 (by decide) ?_
  first | refine G_addN (pc := 10) f_8_10 ?_ | refine G_addZ (pc := 10) f_8_10 (by first | rfl | exact nI_zI _) (by first | rfl | exact nI_zI _) ?_ | refine G_S (pc := 10) f_8_10 rfl rfl rfl ?_
  refine G_S (pc := 11) f_8_11 rfl rfl rfl ?_
  have e := loop (ntzF p + 1) (by omega) (Nat.le_refl _) none
  rw [cvM_lo _ (Nat.le_refl _)] at e
  exact e
theorem b_waysOf {t : Nat} (W : LW M h D) (ht : t ≤ 60) (hp : p < 256) (hpD : p < 2 ^ D 2) (h0 : 0 < p) (he : pc8 p % 2 = 0) (hS : p &&& S = p) (hT : ∀ x, x < p → x &&& S = x → pc8 x % 2 = 0 → M.2.1 93 x = nI (lwF D t x)) : CG C 10 [.ref 89, .ref h, .int (nI p), .int (nI t)] M (fun w M' => w = some (.int (nI (lwF D t p))) ∧ M' = M) := by
  have hK := W.1
  obtain ⟨⟨t0, t1, t2, t3, t4, t5, t6⟩, r0, r3, r4, r6, r7, r8⟩ := W.2.1
  obtain ⟨hD, ⟨v0, v1, v2⟩, vh, vr, vw, vf⟩ := W.2.2.1
  have hs := W.2.2.2.1
  have hh := W.2.2.2.2
  have hn0 : _ ≤ 8 := hD.1
  have hn1 : _ ≤ 6 := hD.2.1.2
  have hn2 : _ ≤ 8 := hD.2.2.1
  have ha := ntz_lt p
  have hb := ntz_bit p hp h0
  have haD := ntz_2 (D 2) (by omega) p hp hpD h0
  have loop : ∀ r, r ≤ D 2 → ntzF p + 1 ≤ r → G C 10 (15, [some (.ref 89), some (.ref h), some (.int (nI p)), some (.int (nI t)), some (.int (nI (ntzF p))), some (.int (nI ((wyM D t (lwF D t) p (ntzF p) r)))), some (.int (nI r))], [], [], M) (fun w M' => w = some (.int (nI (lwF D t p))) ∧ M' = M) := by
    refine upto (fun r hr ih hra => ?_)
    have hx : r < D 2 → p.testBit r = true → cl (cl p (ntzF p)) r < 256 ∧ M.2.1 93 (cl (cl p (ntzF p)) r) = nI (lwF D t (cl (cl p (ntzF p)) r)) ∧ hf D (ntzF p) r ≤ 60 := by
      intro q hbr
      have hc := cl2 hp ha (by omega) hb hbr (by omega)
      exact ⟨hc.2.1, hT _ hc.1 (cl_sub (cl_sub hS)) (by omega), hf_le hD ha (by omega)⟩
    have es : wyM D t (lwF D t) p (ntzF p) (r + 1) = if (ntzF p < r ∧ p.testBit r = true) ∧ hf D (ntzF p) r ≤ t then wyM D t (lwF D t) p (ntzF p) r + lwF D t (cl (cl p (ntzF p)) r) else wyM D t (lwF D t) p (ntzF p) r := rfl
    refine G_S (pc := 15) f_10_15 rfl rfl rfl ?_
    refine G_S (pc := 17) f_10_17 rfl rfl rfl ?_
    refine G_gIv (pc := 18) f_10_18 (by decide) rfl (by decide) (by first | assumption | exact hK.1 _ _ rfl) (by first | assumption | exact mI_s | ((refine mI_o (by first | decide | omega) ?_); (repeat (refine mI_o (by first | decide | omega) ?_)); first | exact mI_s | assumption) | rfl) ?_
    refine G_jgeZ (pc := 21) f_10_21 rfl (by first | exact nI_toInt (by omega) | exact zI_toInt (by omega) (by omega) | rfl) (by first | exact nI_toInt (by omega) | exact zI_toInt (by omega) (by omega) | rfl) (fun b1 => ?_) (fun b1 => ?_)
    · refine G_S (pc := 69) f_10_69 rfl rfl rfl ?_
      refine G_ri (pc := 71) f_10_71 ?_
      rw [lwF_eq hp h0 hn2, show r = D 2 by omega]
      exact ⟨rfl, rfl⟩
    · refine G_S (pc := 24) f_10_24 rfl rfl rfl ?_
      refine G_S (pc := 25) f_10_25 rfl rfl rfl ?_
      refine G_CS (pc := 27) f_10_27 rfl rfl (by decide) rfl rfl ⟨Nat.le_of_ble_eq_true rfl, Nat.le_of_ble_eq_true rfl⟩ ?_
      refine CG.go (c_holds (by omega) (by omega)) ?_
      first | refine G_bEq (pc := 30) f_10_30 rfl (fun b2 => ?_) (fun b2 => ?_) | refine G_zeqZ (pc := 30) f_10_30 rfl (by first | exact nI_toInt (by omega) | exact zI_toInt (by omega) (by omega) | rfl) (fun b2 => ?_) (fun b2 => ?_)
      · first | refine G_inc1 (pc := 63) f_10_63 rfl ?_ | refine G_S (pc := 63) f_10_63 rfl rfl rfl ?_
        refine G_S (pc := 66) f_10_66 rfl rfl rfl ?_
        have e := ih (by omega) (by omega)
        first
          | (rw [es, if_neg (fun z => b2 z.1.2)] at e
             exact e)
          | (rw [es, if_pos ⟨⟨by omega, b2⟩, by omega⟩] at e
             exact e)
          | (rw [es, if_neg (fun z => absurd z.2 (by omega))] at e
             exact e)
      · obtain ⟨x1, x2, x4⟩ := hx (by omega) b2
        refine G_S (pc := 33) f_10_33 rfl rfl rfl ?_
        refine G_S (pc := 34) f_10_34 rfl rfl rfl ?_
        refine G_S (pc := 36) f_10_36 rfl rfl rfl ?_
        refine G_CS (pc := 38) f_10_38 rfl rfl (by decide) rfl rfl ⟨Nat.le_of_ble_eq_true rfl, Nat.le_of_ble_eq_true rfl⟩ ?_
        refine CG.go (b_borne W haD (by omega)) ?_
        refine G_S (pc := 41) f_10_41 rfl rfl rfl ?_
        refine G_jgtZ (pc := 42) f_10_42 rfl (by first | exact nI_toInt (by omega) | exact zI_toInt (by omega) (by omega) | rfl) (by first | exact nI_toInt (by omega) | exact zI_toInt (by omega) (by omega) | rfl) (fun b3 => ?_) (fun b3 => ?_)
        · first | refine G_inc1 (pc := 63) f_10_63 rfl ?_ | refine G_S (pc := 63) f_10_63 rfl rfl rfl ?_
          refine G_S (pc := 66) f_10_66 rfl rfl rfl ?_
          have e := ih (by omega) (by omega)
          first
            | (rw [es, if_neg (fun z => b2 z.1.2)] at e
               exact e)
            | (rw [es, if_pos ⟨⟨by omega, b2⟩, by omega⟩] at e
               exact e)
            | (rw [es, if_neg (fun z => absurd z.2 (by omega))] at e
               exact e)
        · refine G_S (pc := 45) f_10_45 rfl rfl rfl ?_
          refine G_S (pc := 47) f_10_47 rfl rfl rfl ?_
          refine G_gR (pc := 48) f_10_48 (by decide) rfl (by first | assumption | exact hK.1 _ _ rfl) (by first | assumption | exact hK.2 _ _ _ rfl | (try dsimp only) <;> (repeat (first | exact up2_s | refine up2_o (by first | decide | omega) ?_)) <;> first | assumption | exact hK.2 _ _ _ rfl) ?_
          refine G_S (pc := 51) f_10_51 rfl rfl rfl ?_
          refine G_S (pc := 52) f_10_52 rfl rfl rfl ?_
          refine G_S (pc := 54) f_10_54 rfl rfl rfl ?_
          refine G_CS (pc := 56) f_10_56 rfl rfl (by decide) rfl rfl ⟨Nat.le_of_ble_eq_true rfl, Nat.le_of_ble_eq_true rfl⟩ ?_
          refine CG.go (b_without ha (by omega)) ?_
          refine G_iaN (pc := 59) f_10_59 (by first | assumption | exact hK.1 _ _ rfl) (by omega) (by omega) (by first | exact x2 | rfl) ?_
          first | refine G_addN (pc := 60) f_10_60 ?_ | refine G_addZ (pc := 60) f_10_60 (by first | rfl | exact nI_zI _) (by first | rfl | exact nI_zI _) ?_ | refine G_S (pc := 60) f_10_60 rfl rfl rfl ?_
          refine G_S (pc := 61) f_10_61 rfl rfl rfl ?_
          first | refine G_inc1 (pc := 63) f_10_63 rfl ?_ | refine G_S (pc := 63) f_10_63 rfl rfl rfl ?_
          refine G_S (pc := 66) f_10_66 rfl rfl rfl ?_
          have e := ih (by omega) (by omega)
          first
            | (rw [es, if_neg (fun z => b2 z.1.2)] at e
               exact e)
            | (rw [es, if_pos ⟨⟨by omega, b2⟩, by omega⟩] at e
               exact e)
            | (rw [es, if_neg (fun z => absurd z.2 (by omega))] at e
               exact e)
  refine CG_in (mL := 7) (hl := false) (lv := [some (.ref 89), some (.ref h), some (.int (nI p)), some (.int (nI t)), none, none, none]) (ll := []) rfl rfl rfl ?_
  refine G_S (pc := 0) f_10_0 rfl rfl rfl ?_
  refine G_CS (pc := 1) f_10_1 rfl rfl (by decide) rfl rfl ⟨Nat.le_of_ble_eq_true rfl, Nat.le_of_ble_eq_true rfl⟩ ?_
  refine CG.go (j_ntz h0 hp) ?_
  refine G_S (pc := 4) f_10_4 rfl rfl rfl ?_
  refine G_ic (v := nI 0) (pc := 6) f_10_6 (by decide) ?_
  refine G_S (pc := 7) f_10_7 rfl rfl rfl ?_
  refine G_S (pc := 9) f_10_9 rfl rfl rfl ?_
  refine G_ic (v := nI 1) (pc := 11) f_10_11 (by decide) ?_
  first | refine G_addN (pc := 12) f_10_12 ?_ | refine G_addZ (pc := 12) f_10_12 (by first | rfl | exact nI_zI _) (by first | rfl | exact nI_zI _) ?_ | refine G_S (pc := 12) f_10_12 rfl rfl rfl ?_
  refine G_S (pc := 13) f_10_13 rfl rfl rfl ?_
  have e := loop (ntzF p + 1) (by omega) (Nat.le_refl _)
  rw [wyM_lo _ (Nat.le_refl _)] at e
  exact e
theorem and_0 (S : Nat) : 0 &&& S = 0 := Nat.zero_and S
theorem b_least (W : LW M h D) (hS : S < 256) (hSD : S < 2 ^ D 2) (h0 : 0 < S) (he : pc8 S % 2 = 0) : CG C 7 [.ref 89, .ref h, .int (nI S)] M (fun w M' => w = some (.int (nI (lcF D S))) ∧ Fo [93] M M') := by
  have loop : ∀ p, p ≤ S + 1 → 1 ≤ p → ∀ M1, Fo [93] M M1 → (∀ x, x < p → x &&& S = x → pc8 x % 2 = 0 → M1.2.1 93 x = nI (lcF D x)) → G C 7 (9, [some (.ref 89), some (.ref h), some (.int (nI S)), some (.int (nI p))], [], [], M1) (fun w M' => w = some (.int (nI (lcF D S))) ∧ Fo [93] M M') := by
    refine upto (fun p hp ih hp1 M1 hF hT => ?_)
    have W1 : LW M1 h D := W.fc hF.c (by decide)
    have hK := W1.1
    obtain ⟨⟨t0, t1, t2, t3, t4, t5, t6⟩, r0, r3, r4, r6, r7, r8⟩ := W1.2.1
    obtain ⟨hD, ⟨v0, v1, v2⟩, vh, vr, vw, vf⟩ := W1.2.2.1
    have hs := W1.2.2.2.1
    have hh := W1.2.2.2.2
    have hn0 : _ ≤ 8 := hD.1
    have hn1 : _ ≤ 6 := hD.2.1.2
    have hn2 : _ ≤ 8 := hD.2.2.1
    have hfin : S < p → M1.2.1 93 S = nI (lcF D S) := fun q => hT S q (Nat.and_self S) he
    refine G_S (pc := 9) f_7_9 rfl rfl rfl ?_
    refine G_S (pc := 10) f_7_10 rfl rfl rfl ?_
    refine G_jgtZ (pc := 11) f_7_11 rfl (by first | exact nI_toInt (by omega) | exact zI_toInt (by omega) (by omega) | rfl) (by first | exact nI_toInt (by omega) | exact zI_toInt (by omega) (by omega) | rfl) (fun b1 => ?_) (fun b1 => ?_)
    · have hfin := hfin (by omega)
      refine G_S (pc := 47) f_7_47 rfl rfl rfl ?_
      refine G_zleZ (pc := 48) f_7_48 rfl (by first | exact nI_toInt (by omega) | exact zI_toInt (by omega) (by omega) | rfl) (fun b4 => ?_) (fun b4 => ?_)
      · exfalso; omega
      · refine G_S (pc := 51) f_7_51 rfl rfl rfl ?_
        refine G_si (v := nI 256) (pc := 52) f_7_52 (by decide) ?_
        refine G_jgeZ (pc := 55) f_7_55 rfl (by first | exact nI_toInt (by omega) | exact zI_toInt (by omega) (by omega) | rfl) (by first | exact nI_toInt (by omega) | exact zI_toInt (by omega) (by omega) | rfl) (fun b5 => ?_) (fun b5 => ?_)
        · exfalso; omega
        · refine G_S (pc := 58) f_7_58 rfl rfl rfl ?_
          refine G_gR (pc := 59) f_7_59 (by decide) rfl (by first | assumption | exact hK.1 _ _ rfl) (by first | assumption | exact hK.2 _ _ _ rfl | (try dsimp only) <;> (repeat (first | exact up2_s | refine up2_o (by first | decide | omega) ?_)) <;> first | assumption | exact hK.2 _ _ _ rfl) ?_
          refine G_S (pc := 62) f_7_62 rfl rfl rfl ?_
          refine G_iaN (pc := 63) f_7_63 (by first | assumption | exact hK.1 _ _ rfl) (by omega) (by omega) (by first | exact hfin | rfl) ?_
          refine G_S (pc := 64) f_7_64 rfl rfl rfl ?_
          refine G_ri (pc := 68) f_7_68 ?_
          exact ⟨rfl, hF⟩
    · refine G_S (pc := 14) f_7_14 rfl rfl rfl ?_
      refine G_si (v := nI 256) (pc := 15) f_7_15 (by decide) ?_
      refine G_jgeZ (pc := 18) f_7_18 rfl (by first | exact nI_toInt (by omega) | exact zI_toInt (by omega) (by omega) | rfl) (by first | exact nI_toInt (by omega) | exact zI_toInt (by omega) (by omega) | rfl) (fun b2 => ?_) (fun b2 => ?_)
      · exfalso; omega
      · refine G_S (pc := 21) f_7_21 rfl rfl rfl ?_
        refine G_S (pc := 22) f_7_22 rfl rfl rfl ?_
        refine G_CS (pc := 23) f_7_23 rfl rfl (by decide) rfl rfl ⟨Nat.le_of_ble_eq_true rfl, Nat.le_of_ble_eq_true rfl⟩ ?_
        refine CG.go (b_even hS (by omega)) ?_
        first | refine G_bEq (pc := 26) f_7_26 rfl (fun b3 => ?_) (fun b3 => ?_) | refine G_zeqZ (pc := 26) f_7_26 rfl (by first | exact nI_toInt (by omega) | exact zI_toInt (by omega) (by omega) | rfl) (fun b3 => ?_) (fun b3 => ?_)
        · first | refine G_inc1 (pc := 41) f_7_41 rfl ?_ | refine G_S (pc := 41) f_7_41 rfl rfl rfl ?_
          refine G_S (pc := 44) f_7_44 rfl rfl rfl ?_
          first
            | (refine ih (by omega) (by omega) M1 hF (fun x hx h1 h2 => ?_)
               by_cases e : x = p
               · subst e
                 exact absurd ⟨h1, h2⟩ b3
               · exact hT x (by omega) h1 h2)
            | (refine ih (by omega) (by omega) _ (hF.tr (Fo.up (i := 93) (k := p) (x := nI (lcF D p)) (by decide))) (fun x hx h1 h2 => ?_)
               by_cases e : x = p
               · subst e
                 exact (by (try dsimp only); exact up2_s)
               · exact (by (try dsimp only); exact up2_o (by omega) (hT x (by omega) h1 h2)))
        · refine G_S (pc := 29) f_7_29 rfl rfl rfl ?_
          refine G_gR (pc := 30) f_7_30 (by decide) rfl (by first | assumption | exact hK.1 _ _ rfl) (by first | assumption | exact hK.2 _ _ _ rfl | (try dsimp only) <;> (repeat (first | exact up2_s | refine up2_o (by first | decide | omega) ?_)) <;> first | assumption | exact hK.2 _ _ _ rfl) ?_
          refine G_S (pc := 33) f_7_33 rfl rfl rfl ?_
          refine G_S (pc := 34) f_7_34 rfl rfl rfl ?_
          refine G_S (pc := 35) f_7_35 rfl rfl rfl ?_
          refine G_S (pc := 36) f_7_36 rfl rfl rfl ?_
          refine G_CV (pc := 37) f_7_37 rfl rfl (by decide) rfl rfl (by first | assumption | exact hK.1 _ _ rfl) (by decide) ⟨Nat.le_of_ble_eq_true rfl, Nat.le_of_ble_eq_true rfl⟩ ?_
          refine CG.go (b_leastOf W1 (by omega) (by omega) (by omega) b3.2 b3.1 hT) ?_
          refine G_isN (pc := 40) f_7_40 (by first | assumption | exact hK.1 _ _ rfl) (by omega) (by omega) ?_
          first | refine G_inc1 (pc := 41) f_7_41 rfl ?_ | refine G_S (pc := 41) f_7_41 rfl rfl rfl ?_
          refine G_S (pc := 44) f_7_44 rfl rfl rfl ?_
          first
            | (refine ih (by omega) (by omega) M1 hF (fun x hx h1 h2 => ?_)
               by_cases e : x = p
               · subst e
                 exact absurd ⟨h1, h2⟩ b3
               · exact hT x (by omega) h1 h2)
            | (refine ih (by omega) (by omega) _ (hF.tr (Fo.up (i := 93) (k := p) (x := nI (lcF D p)) (by decide))) (fun x hx h1 h2 => ?_)
               by_cases e : x = p
               · subst e
                 exact (by (try dsimp only); exact up2_s)
               · exact (by (try dsimp only); exact up2_o (by omega) (hT x (by omega) h1 h2)))
  have hK := W.1
  obtain ⟨⟨t0, t1, t2, t3, t4, t5, t6⟩, r0, r3, r4, r6, r7, r8⟩ := W.2.1
  obtain ⟨hD, ⟨v0, v1, v2⟩, vh, vr, vw, vf⟩ := W.2.2.1
  have hs := W.2.2.2.1
  have hh := W.2.2.2.2
  have hn0 : _ ≤ 8 := hD.1
  have hn1 : _ ≤ 6 := hD.2.1.2
  have hn2 : _ ≤ 8 := hD.2.2.1
  refine CG_in (mL := 4) (hl := false) (lv := [some (.ref 89), some (.ref h), some (.int (nI S)), none]) (ll := []) rfl rfl rfl ?_
  refine G_S (pc := 0) f_7_0 rfl rfl rfl ?_
  refine G_gR (pc := 1) f_7_1 (by decide) rfl (by first | assumption | exact hK.1 _ _ rfl) (by first | assumption | exact hK.2 _ _ _ rfl | (try dsimp only) <;> (repeat (first | exact up2_s | refine up2_o (by first | decide | omega) ?_)) <;> first | assumption | exact hK.2 _ _ _ rfl) ?_
  refine G_ic (v := nI 0) (pc := 4) f_7_4 (by decide) ?_
  refine G_ic (v := nI 0) (pc := 5) f_7_5 (by decide) ?_
  refine G_isN (pc := 6) f_7_6 (by first | assumption | exact hK.1 _ _ rfl) (by omega) (by omega) ?_
  refine G_ic (v := nI 1) (pc := 7) f_7_7 (by decide) ?_
  refine G_S (pc := 8) f_7_8 rfl rfl rfl ?_
  refine loop 1 (by omega) (Nat.le_refl _) _ (Fo.up (i := 93) (k := 0) (x := nI 0) (by decide)) (fun x hx h1 h2 => ?_)
  rw [show x = 0 by omega]
  exact (by (try dsimp only); exact up2_s)
theorem b_ways {t : Nat} (W : LW M h D) (ht : t ≤ 60) (hS : S < 256) (hSD : S < 2 ^ D 2) (h0 : 0 < S) (he : pc8 S % 2 = 0) : CG C 9 [.ref 89, .ref h, .int (nI S), .int (nI t)] M (fun w M' => w = some (.int (nI (lwF D t S))) ∧ Fo [93] M M') := by
  have loop : ∀ p, p ≤ S + 1 → 1 ≤ p → ∀ M1, Fo [93] M M1 → (∀ x, x < p → x &&& S = x → pc8 x % 2 = 0 → M1.2.1 93 x = nI (lwF D t x)) → G C 9 (10, [some (.ref 89), some (.ref h), some (.int (nI S)), some (.int (nI t)), some (.int (nI p))], [], [], M1) (fun w M' => w = some (.int (nI (lwF D t S))) ∧ Fo [93] M M') := by
    refine upto (fun p hp ih hp1 M1 hF hT => ?_)
    have W1 : LW M1 h D := W.fc hF.c (by decide)
    have hK := W1.1
    obtain ⟨⟨t0, t1, t2, t3, t4, t5, t6⟩, r0, r3, r4, r6, r7, r8⟩ := W1.2.1
    obtain ⟨hD, ⟨v0, v1, v2⟩, vh, vr, vw, vf⟩ := W1.2.2.1
    have hs := W1.2.2.2.1
    have hh := W1.2.2.2.2
    have hn0 : _ ≤ 8 := hD.1
    have hn1 : _ ≤ 6 := hD.2.1.2
    have hn2 : _ ≤ 8 := hD.2.2.1
    have hfin : S < p → M1.2.1 93 S = nI (lwF D t S) := fun q => hT S q (Nat.and_self S) he
    refine G_S (pc := 10) f_9_10 rfl rfl rfl ?_
    refine G_S (pc := 12) f_9_12 rfl rfl rfl ?_
    refine G_jgtZ (pc := 13) f_9_13 rfl (by first | exact nI_toInt (by omega) | exact zI_toInt (by omega) (by omega) | rfl) (by first | exact nI_toInt (by omega) | exact zI_toInt (by omega) (by omega) | rfl) (fun b1 => ?_) (fun b1 => ?_)
    · have hfin := hfin (by omega)
      refine G_S (pc := 54) f_9_54 rfl rfl rfl ?_
      refine G_zleZ (pc := 55) f_9_55 rfl (by first | exact nI_toInt (by omega) | exact zI_toInt (by omega) (by omega) | rfl) (fun b4 => ?_) (fun b4 => ?_)
      · exfalso; omega
      · refine G_S (pc := 58) f_9_58 rfl rfl rfl ?_
        refine G_si (v := nI 256) (pc := 59) f_9_59 (by decide) ?_
        refine G_jgeZ (pc := 62) f_9_62 rfl (by first | exact nI_toInt (by omega) | exact zI_toInt (by omega) (by omega) | rfl) (by first | exact nI_toInt (by omega) | exact zI_toInt (by omega) (by omega) | rfl) (fun b5 => ?_) (fun b5 => ?_)
        · exfalso; omega
        · refine G_S (pc := 65) f_9_65 rfl rfl rfl ?_
          refine G_gR (pc := 66) f_9_66 (by decide) rfl (by first | assumption | exact hK.1 _ _ rfl) (by first | assumption | exact hK.2 _ _ _ rfl | (try dsimp only) <;> (repeat (first | exact up2_s | refine up2_o (by first | decide | omega) ?_)) <;> first | assumption | exact hK.2 _ _ _ rfl) ?_
          refine G_S (pc := 69) f_9_69 rfl rfl rfl ?_
          refine G_iaN (pc := 70) f_9_70 (by first | assumption | exact hK.1 _ _ rfl) (by omega) (by omega) (by first | exact hfin | rfl) ?_
          refine G_S (pc := 71) f_9_71 rfl rfl rfl ?_
          refine G_ri (pc := 75) f_9_75 ?_
          exact ⟨rfl, hF⟩
    · refine G_S (pc := 16) f_9_16 rfl rfl rfl ?_
      refine G_si (v := nI 256) (pc := 18) f_9_18 (by decide) ?_
      refine G_jgeZ (pc := 21) f_9_21 rfl (by first | exact nI_toInt (by omega) | exact zI_toInt (by omega) (by omega) | rfl) (by first | exact nI_toInt (by omega) | exact zI_toInt (by omega) (by omega) | rfl) (fun b2 => ?_) (fun b2 => ?_)
      · exfalso; omega
      · refine G_S (pc := 24) f_9_24 rfl rfl rfl ?_
        refine G_S (pc := 26) f_9_26 rfl rfl rfl ?_
        refine G_CS (pc := 27) f_9_27 rfl rfl (by decide) rfl rfl ⟨Nat.le_of_ble_eq_true rfl, Nat.le_of_ble_eq_true rfl⟩ ?_
        refine CG.go (b_even hS (by omega)) ?_
        first | refine G_bEq (pc := 30) f_9_30 rfl (fun b3 => ?_) (fun b3 => ?_) | refine G_zeqZ (pc := 30) f_9_30 rfl (by first | exact nI_toInt (by omega) | exact zI_toInt (by omega) (by omega) | rfl) (fun b3 => ?_) (fun b3 => ?_)
        · first | refine G_inc1 (pc := 48) f_9_48 rfl ?_ | refine G_S (pc := 48) f_9_48 rfl rfl rfl ?_
          refine G_S (pc := 51) f_9_51 rfl rfl rfl ?_
          first
            | (refine ih (by omega) (by omega) M1 hF (fun x hx h1 h2 => ?_)
               by_cases e : x = p
               · subst e
                 exact absurd ⟨h1, h2⟩ b3
               · exact hT x (by omega) h1 h2)
            | (refine ih (by omega) (by omega) _ (hF.tr (Fo.up (i := 93) (k := p) (x := nI (lwF D t p)) (by decide))) (fun x hx h1 h2 => ?_)
               by_cases e : x = p
               · subst e
                 exact (by (try dsimp only); exact up2_s)
               · exact (by (try dsimp only); exact up2_o (by omega) (hT x (by omega) h1 h2)))
        · refine G_S (pc := 33) f_9_33 rfl rfl rfl ?_
          refine G_gR (pc := 34) f_9_34 (by decide) rfl (by first | assumption | exact hK.1 _ _ rfl) (by first | assumption | exact hK.2 _ _ _ rfl | (try dsimp only) <;> (repeat (first | exact up2_s | refine up2_o (by first | decide | omega) ?_)) <;> first | assumption | exact hK.2 _ _ _ rfl) ?_
          refine G_S (pc := 37) f_9_37 rfl rfl rfl ?_
          refine G_S (pc := 39) f_9_39 rfl rfl rfl ?_
          refine G_S (pc := 40) f_9_40 rfl rfl rfl ?_
          refine G_S (pc := 41) f_9_41 rfl rfl rfl ?_
          refine G_S (pc := 43) f_9_43 rfl rfl rfl ?_
          refine G_CV (pc := 44) f_9_44 rfl rfl (by decide) rfl rfl (by first | assumption | exact hK.1 _ _ rfl) (by decide) ⟨Nat.le_of_ble_eq_true rfl, Nat.le_of_ble_eq_true rfl⟩ ?_
          refine CG.go (b_waysOf W1 ht (by omega) (by omega) (by omega) b3.2 b3.1 hT) ?_
          refine G_isN (pc := 47) f_9_47 (by first | assumption | exact hK.1 _ _ rfl) (by omega) (by omega) ?_
          first | refine G_inc1 (pc := 48) f_9_48 rfl ?_ | refine G_S (pc := 48) f_9_48 rfl rfl rfl ?_
          refine G_S (pc := 51) f_9_51 rfl rfl rfl ?_
          first
            | (refine ih (by omega) (by omega) M1 hF (fun x hx h1 h2 => ?_)
               by_cases e : x = p
               · subst e
                 exact absurd ⟨h1, h2⟩ b3
               · exact hT x (by omega) h1 h2)
            | (refine ih (by omega) (by omega) _ (hF.tr (Fo.up (i := 93) (k := p) (x := nI (lwF D t p)) (by decide))) (fun x hx h1 h2 => ?_)
               by_cases e : x = p
               · subst e
                 exact (by (try dsimp only); exact up2_s)
               · exact (by (try dsimp only); exact up2_o (by omega) (hT x (by omega) h1 h2)))
  have hK := W.1
  obtain ⟨⟨t0, t1, t2, t3, t4, t5, t6⟩, r0, r3, r4, r6, r7, r8⟩ := W.2.1
  obtain ⟨hD, ⟨v0, v1, v2⟩, vh, vr, vw, vf⟩ := W.2.2.1
  have hs := W.2.2.2.1
  have hh := W.2.2.2.2
  have hn0 : _ ≤ 8 := hD.1
  have hn1 : _ ≤ 6 := hD.2.1.2
  have hn2 : _ ≤ 8 := hD.2.2.1
  refine CG_in (mL := 5) (hl := false) (lv := [some (.ref 89), some (.ref h), some (.int (nI S)), some (.int (nI t)), none]) (ll := []) rfl rfl rfl ?_
  refine G_S (pc := 0) f_9_0 rfl rfl rfl ?_
  refine G_gR (pc := 1) f_9_1 (by decide) rfl (by first | assumption | exact hK.1 _ _ rfl) (by first | assumption | exact hK.2 _ _ _ rfl | (try dsimp only) <;> (repeat (first | exact up2_s | refine up2_o (by first | decide | omega) ?_)) <;> first | assumption | exact hK.2 _ _ _ rfl) ?_
  refine G_ic (v := nI 0) (pc := 4) f_9_4 (by decide) ?_
  refine G_ic (v := nI 1) (pc := 5) f_9_5 (by decide) ?_
  refine G_isN (pc := 6) f_9_6 (by first | assumption | exact hK.1 _ _ rfl) (by omega) (by omega) ?_
  refine G_ic (v := nI 1) (pc := 7) f_9_7 (by decide) ?_
  refine G_S (pc := 8) f_9_8 rfl rfl rfl ?_
  refine loop 1 (by omega) (Nat.le_refl _) _ (Fo.up (i := 93) (k := 0) (x := nI 1) (by decide)) (fun x hx h1 h2 => ?_)
  rw [show x = 0 by omega]
  exact (by (try dsimp only); exact up2_s)
theorem c_couples (W : CLs M n L) : CG C 169 [.ref 0, .int k, .int x, .int y] M (fun w M' => w = some (.int (aLin (lin n L k) (zI (-1)) (fun D => cplF D x y))) ∧ Fc CS M M') := by
  have hK := W.1
  cases hl : lin n L k with
  | none =>
    refine CG_in (mL := 6) (hl := false) (lv := [some (.ref 0), some (.int k), some (.int x), some (.int y), none, none]) (ll := []) rfl rfl rfl ?_
    refine G_S (pc := 0) f_169_0 rfl rfl rfl ?_
    refine G_S (pc := 1) f_169_1 rfl rfl rfl ?_
    refine G_CV (pc := 2) f_169_2 rfl rfl (by decide) rfl rfl (by first | assumption | exact hK.1 _ _ rfl) (by decide) ⟨Nat.le_of_ble_eq_true rfl, Nat.le_of_ble_eq_true rfl⟩ ?_
    refine CG.go (c_lineAtN W hl) ?_
    refine G_S (pc := 5) f_169_5 rfl rfl rfl ?_
    refine G_S (pc := 7) f_169_7 rfl rfl rfl ?_
    refine G_S (pc := 9) f_169_9 rfl rfl rfl ?_
    refine G_ic (v := zI (-1)) (pc := 34) f_169_34 (by decide) ?_
    refine G_ri (pc := 35) f_169_35 ?_
    exact ⟨rfl, Fc.rf⟩
  | some D =>
    show CG C 169 [.ref 0, .int k, .int x, .int y] M (fun w M' => w = some (.int (cplF D x y)) ∧ Fc CS M M')
    cases hx : isS D x with
    | none =>
      have e0 : cplF D x y = zI (-1) := by
        unfold cplF
        rw [hx]
      rw [e0]
      refine CG_in (mL := 6) (hl := false) (lv := [some (.ref 0), some (.int k), some (.int x), some (.int y), none, none]) (ll := []) rfl rfl rfl ?_
      refine G_S (pc := 0) f_169_0 rfl rfl rfl ?_
      refine G_S (pc := 1) f_169_1 rfl rfl rfl ?_
      refine G_CV (pc := 2) f_169_2 rfl rfl (by decide) rfl rfl (by first | assumption | exact hK.1 _ _ rfl) (by decide) ⟨Nat.le_of_ble_eq_true rfl, Nat.le_of_ble_eq_true rfl⟩ ?_
      refine CG.mono (c_lineAtS W hl) ?_
      rintro _ M1 ⟨⟨h, rfl, W1⟩, rfl⟩
      have hK := W1.1
      obtain ⟨⟨t0, t1, t2, t3, t4, t5, t6⟩, r0, r3, r4, r6, r7, r8⟩ := W1.2.1
      obtain ⟨hD, ⟨v0, v1, v2⟩, vh, vr, vw, vf⟩ := W1.2.2.1
      have hs := W1.2.2.2.1
      have hh := W1.2.2.2.2
      have hn0 : _ ≤ 8 := hD.1
      have hn1 : _ ≤ 6 := hD.2.1.2
      have hn2 : _ ≤ 8 := hD.2.2.1
      refine G_S (pc := 5) f_169_5 rfl rfl rfl ?_
      refine G_S (pc := 7) f_169_7 rfl rfl rfl ?_
      refine G_S (pc := 9) f_169_9 rfl rfl (if_pos (by first | assumption | omega)) ?_
      refine G_S (pc := 12) f_169_12 rfl rfl rfl ?_
      refine G_S (pc := 14) f_169_14 rfl rfl rfl ?_
      refine G_CV (pc := 15) f_169_15 rfl rfl (by decide) rfl rfl (by first | assumption | exact hK.1 _ _ rfl) (by decide) ⟨Nat.le_of_ble_eq_true rfl, Nat.le_of_ble_eq_true rfl⟩ ?_
      refine CG.go (c_hasN W1) ?_
      first | refine G_bEq (pc := 18) f_169_18 rfl (fun b2 => ?_) (fun b2 => ?_) | refine G_zeqZ (pc := 18) f_169_18 rfl (by first | exact nI_toInt (by omega) | exact zI_toInt (by omega) (by omega) | rfl) (fun b2 => ?_) (fun b2 => ?_)
      · refine G_ic (v := zI (-1)) (pc := 34) f_169_34 (by decide) ?_
        refine G_ri (pc := 35) f_169_35 ?_
        exact ⟨rfl, Fc.rf⟩
      · rw [hx] at b2
        cases b2
    | some S =>
      obtain ⟨hSD, rfl⟩ := isS_some hx
      have e0 : cplF D (nI S) y = if S = 0 ∨ pc8 S % 2 = 1 then zI (-1) else if y = 0 then nI (lcF D S) else nI (lwF D (lcF D S) S) := by
        unfold cplF
        rw [hx]
      rw [e0]
      refine CG_in (mL := 6) (hl := false) (lv := [some (.ref 0), some (.int k), some (.int (nI S)), some (.int y), none, none]) (ll := []) rfl rfl rfl ?_
      refine G_S (pc := 0) f_169_0 rfl rfl rfl ?_
      refine G_S (pc := 1) f_169_1 rfl rfl rfl ?_
      refine G_CV (pc := 2) f_169_2 rfl rfl (by decide) rfl rfl (by first | assumption | exact hK.1 _ _ rfl) (by decide) ⟨Nat.le_of_ble_eq_true rfl, Nat.le_of_ble_eq_true rfl⟩ ?_
      refine CG.mono (c_lineAtS W hl) ?_
      rintro _ M1 ⟨⟨h, rfl, W1⟩, rfl⟩
      have hK := W1.1
      obtain ⟨⟨t0, t1, t2, t3, t4, t5, t6⟩, r0, r3, r4, r6, r7, r8⟩ := W1.2.1
      obtain ⟨hD, ⟨v0, v1, v2⟩, vh, vr, vw, vf⟩ := W1.2.2.1
      have hs := W1.2.2.2.1
      have hh := W1.2.2.2.2
      have hn0 : _ ≤ 8 := hD.1
      have hn1 : _ ≤ 6 := hD.2.1.2
      have hn2 : _ ≤ 8 := hD.2.2.1
      have hS8 := pw2 hn2 hSD
      have hpc := pc8_le S hS8
      refine G_S (pc := 5) f_169_5 rfl rfl rfl ?_
      refine G_S (pc := 7) f_169_7 rfl rfl rfl ?_
      refine G_S (pc := 9) f_169_9 rfl rfl (if_pos (by first | assumption | omega)) ?_
      refine G_S (pc := 12) f_169_12 rfl rfl rfl ?_
      refine G_S (pc := 14) f_169_14 rfl rfl rfl ?_
      refine G_CV (pc := 15) f_169_15 rfl rfl (by decide) rfl rfl (by first | assumption | exact hK.1 _ _ rfl) (by decide) ⟨Nat.le_of_ble_eq_true rfl, Nat.le_of_ble_eq_true rfl⟩ ?_
      refine CG.go (c_hasN W1) ?_
      first | refine G_bEq (pc := 18) f_169_18 rfl (fun b2 => ?_) (fun b2 => ?_) | refine G_zeqZ (pc := 18) f_169_18 rfl (by first | exact nI_toInt (by omega) | exact zI_toInt (by omega) (by omega) | rfl) (fun b2 => ?_) (fun b2 => ?_)
      · rw [hx] at b2
        exact absurd rfl b2
      · refine G_S (pc := 21) f_169_21 rfl rfl rfl ?_
        first | refine G_bEq (pc := 22) f_169_22 rfl (fun b3 => ?_) (fun b3 => ?_) | refine G_zeqZ (pc := 22) f_169_22 rfl (by first | exact nI_toInt (by omega) | exact zI_toInt (by omega) (by omega) | rfl) (fun b3 => ?_) (fun b3 => ?_)
        · refine G_ic (v := zI (-1)) (pc := 34) f_169_34 (by decide) ?_
          refine G_ri (pc := 35) f_169_35 ?_
          first
            | exact ⟨by rw [if_pos (by omega)], Fc.rf⟩
            | exact ⟨by rw [if_neg (by omega), if_pos b5], hF.c.sub (by decide)⟩
            | exact ⟨by rw [if_neg (by omega), if_neg b5], (hF.tr hF3).c.sub (by decide)⟩
        · refine G_S (pc := 25) f_169_25 rfl rfl rfl ?_
          refine G_CS (pc := 26) f_169_26 rfl rfl (by decide) rfl rfl ⟨Nat.le_of_ble_eq_true rfl, Nat.le_of_ble_eq_true rfl⟩ ?_
          refine CG.go (j_bitCount hS8) ?_
          refine G_ic (v := nI 2) (pc := 29) f_169_29 (by decide) ?_
          refine G_remN (pc := 30) f_169_30 (by omega) (by omega) (by omega) ?_
          first | refine G_bEq (pc := 31) f_169_31 rfl (fun b4 => ?_) (fun b4 => ?_) | refine G_zeqZ (pc := 31) f_169_31 rfl (by first | exact nI_toInt (by omega) | exact zI_toInt (by omega) (by omega) | rfl) (fun b4 => ?_) (fun b4 => ?_)
          · refine G_S (pc := 36) f_169_36 rfl rfl rfl ?_
            refine G_gR (pc := 37) f_169_37 (by decide) rfl (by first | assumption | exact hK.1 _ _ rfl) (by first | assumption | exact hK.2 _ _ _ rfl | (try dsimp only) <;> (repeat (first | exact up2_s | refine up2_o (by first | decide | omega) ?_)) <;> first | assumption | exact hK.2 _ _ _ rfl) ?_
            refine G_S (pc := 40) f_169_40 rfl rfl rfl ?_
            refine G_S (pc := 42) f_169_42 rfl rfl rfl ?_
            refine G_CV (pc := 43) f_169_43 rfl rfl (by decide) rfl rfl (by first | assumption | exact hK.1 _ _ rfl) (by decide) ⟨Nat.le_of_ble_eq_true rfl, Nat.le_of_ble_eq_true rfl⟩ ?_
            refine CG.mono (b_least W1 hS8 hSD (by omega) (by omega)) ?_
            rintro _ M2 ⟨rfl, hF⟩
            have hK := hF.K hK
            have W2 : LW M2 h D := W1.fc hF.c (by decide)
            have hle := lcF_even hD _ S (Nat.lt_succ_self _) hS8 hSD (by omega)
            refine G_S (pc := 46) f_169_46 rfl rfl rfl ?_
            refine G_S (pc := 48) f_169_48 rfl rfl rfl ?_
            refine G_zeq (pc := 49) f_169_49 rfl (fun b5 => ?_) (fun b5 => ?_)
            · refine G_S (pc := 67) f_169_67 rfl rfl rfl ?_
              refine G_ri (pc := 69) f_169_69 ?_
              first
                | exact ⟨by rw [if_pos (by omega)], Fc.rf⟩
                | exact ⟨by rw [if_neg (by omega), if_pos b5], hF.c.sub (by decide)⟩
                | exact ⟨by rw [if_neg (by omega), if_neg b5], (hF.tr hF3).c.sub (by decide)⟩
            · refine G_S (pc := 52) f_169_52 rfl rfl rfl ?_
              refine G_gR (pc := 53) f_169_53 (by decide) rfl (by first | assumption | exact hK.1 _ _ rfl) (by first | assumption | exact hK.2 _ _ _ rfl | (try dsimp only) <;> (repeat (first | exact up2_s | refine up2_o (by first | decide | omega) ?_)) <;> first | assumption | exact hK.2 _ _ _ rfl) ?_
              refine G_S (pc := 56) f_169_56 rfl rfl rfl ?_
              refine G_S (pc := 58) f_169_58 rfl rfl rfl ?_
              refine G_S (pc := 59) f_169_59 rfl rfl rfl ?_
              refine G_CV (pc := 61) f_169_61 rfl rfl (by decide) rfl rfl (by first | assumption | exact hK.1 _ _ rfl) (by decide) ⟨Nat.le_of_ble_eq_true rfl, Nat.le_of_ble_eq_true rfl⟩ ?_
              refine CG.mono (b_ways W2 hle hS8 hSD (by omega) (by omega)) ?_
              rintro _ M3 ⟨rfl, hF3⟩
              refine G_S (pc := 64) f_169_64 rfl rfl rfl ?_
              refine G_ri (pc := 69) f_169_69 ?_
              first
                | exact ⟨by rw [if_pos (by omega)], Fc.rf⟩
                | exact ⟨by rw [if_neg (by omega), if_pos b5], hF.c.sub (by decide)⟩
                | exact ⟨by rw [if_neg (by omega), if_neg b5], (hF.tr hF3).c.sub (by decide)⟩
          · refine G_ic (v := zI (-1)) (pc := 34) f_169_34 (by decide) ?_
            refine G_ri (pc := 35) f_169_35 ?_
            first
              | exact ⟨by rw [if_pos (by omega)], Fc.rf⟩
              | exact ⟨by rw [if_neg (by omega), if_pos b5], hF.c.sub (by decide)⟩
              | exact ⟨by rw [if_neg (by omega), if_neg b5], (hF.tr hF3).c.sub (by decide)⟩
end CPC
