/-! the reference: what is asked of a yard -/
section MZ
variable {C : Ct} {M : Mm} {n l S : Nat} {L : Nat → Nat → Nat} {k x : Int32} {D : Nat → Nat}
/-- the model's own form of what a yard answers -/
def upM (D : Nat → Nat) (x : Int32) : Int32 := if x.toInt = 0 then oI (bestF (uB D) fewL (2 ^ D 2)) else if x.toInt = 1 then oI (bestF (uB D) (lightL D) (2 ^ D 2)) else if x.toInt = 2 then loI D (bestF (uB D) (lightL D) (2 ^ D 2)) else if x.toInt = 3 then nI (trM (uB D) (2 ^ D 2) (2 ^ D 2 - 1)) else if x.toInt = 4 then nI (ndF (uB D) (2 ^ D 2) (D 2)) else zI (-1)
theorem upM_o (h : x.toInt < 0 ∨ 4 < x.toInt) : upM D x = zI (-1) := by
  unfold upM
  rw [if_neg (by omega), if_neg (by omega), if_neg (by omega), if_neg (by omega), if_neg (by omega)]
theorem g_upT (W : MLs M n L) : CG C 265 [.ref 98, .int k, .int x] M (fun w M' => w = some (.int (aLin (lin n L k) (zI (-1)) (fun D => upM D x))) ∧ mQ M M') := by
  have hK := W.1
  cases hl : lin n L k with
  | none =>
    refine CG_in (mL := 3) (hl := false) (lv := [some (.ref 98), some (.int k), some (.int x)]) (ll := []) rfl rfl rfl ?_
    refine G_S (pc := 0) f_265_0 rfl rfl rfl ?_
    refine G_ic (v := nI 0) (pc := 1) f_265_1 (by decide) ?_
    refine G_pI (pc := 2) f_265_2 rfl (by first | assumption | exact hK.1 _ _ rfl) ?_
    refine G_S (pc := 5) f_265_5 rfl rfl rfl ?_
    refine G_S (pc := 6) f_265_6 rfl rfl rfl ?_
    refine G_CV (pc := 7) f_265_7 rfl rfl (by decide) rfl rfl (by first | assumption | exact hK.1 _ _ rfl) (by decide) ⟨Nat.le_of_ble_eq_true rfl, Nat.le_of_ble_eq_true rfl⟩ ?_
    refine CG.go (g_handN (W.q mQ.cod) hl) ?_
    first | refine G_bNe (pc := 10) f_265_10 rfl (fun b1 => ?_) (fun b1 => ?_) | refine G_zneZ (pc := 10) f_265_10 rfl (by first | exact nI_toInt (by omega) | exact zI_toInt (by omega) (by omega) | rfl) (fun b1 => ?_) (fun b1 => ?_)
    · exact absurd b1 id
    · refine G_ic (v := zI (-1)) (pc := 13) f_265_13 (by decide) ?_
      refine G_ri (pc := 14) f_265_14 ?_
      exact ⟨rfl, mQ.cod⟩
  | some D =>
    show CG C 265 [.ref 98, .int k, .int x] M (fun w M' => w = some (.int (upM D x)) ∧ mQ M M')
    have q3 : ∀ c, bestF (uB D) (lightL D) (2 ^ D 2) = some c → c < 2 ^ D 2 ∧ uB D c = true := fun c hc => bestF_lt hc
    refine CG_in (mL := 3) (hl := false) (lv := [some (.ref 98), some (.int k), some (.int x)]) (ll := []) rfl rfl rfl ?_
    refine G_S (pc := 0) f_265_0 rfl rfl rfl ?_
    refine G_ic (v := nI 0) (pc := 1) f_265_1 (by decide) ?_
    refine G_pI (pc := 2) f_265_2 rfl (by first | assumption | exact hK.1 _ _ rfl) ?_
    refine G_S (pc := 5) f_265_5 rfl rfl rfl ?_
    refine G_S (pc := 6) f_265_6 rfl rfl rfl ?_
    refine G_CV (pc := 7) f_265_7 rfl rfl (by decide) rfl rfl (by first | assumption | exact hK.1 _ _ rfl) (by decide) ⟨Nat.le_of_ble_eq_true rfl, Nat.le_of_ble_eq_true rfl⟩ ?_
    refine CG.mono (g_handS (W.q mQ.cod) hl) ?_
    rintro _ M1 ⟨rfl, hQ, l, W1⟩
    have hK := W1.1
    have hH := W1.2
    obtain ⟨⟨a0, a1, a2, a3⟩, hl8, hD, ao⟩ := W1.2
    have hn0 : _ ≤ 8 := hD.1
    have hn1 : _ ≤ 6 := hD.2.1.2
    have hn2 : _ ≤ 8 := hD.2.2.1
    have hQ := mQ.cod.tr hQ
    first | refine G_bNe (pc := 10) f_265_10 rfl (fun b1 => ?_) (fun b1 => ?_) | refine G_zneZ (pc := 10) f_265_10 rfl (by first | exact nI_toInt (by omega) | exact zI_toInt (by omega) (by omega) | rfl) (fun b1 => ?_) (fun b1 => ?_)
    · refine G_S (pc := 15) f_265_15 rfl rfl rfl ?_
      refine G_CV (pc := 16) f_265_16 rfl rfl (by decide) rfl rfl (by first | assumption | exact hK.1 _ _ rfl) (by decide) ⟨Nat.le_of_ble_eq_true rfl, Nat.le_of_ble_eq_true rfl⟩ ?_
      refine CG.mono (g_findGets W1) ?_
      rintro _ M2 ⟨rfl, hF, Y⟩
      have hK := Y.1.1
      have hH := Y.1.2
      obtain ⟨⟨a0, a1, a2, a3⟩, hl8, hD, ao⟩ := Y.1.2
      have hn0 : _ ≤ 8 := hD.1
      have hn1 : _ ≤ 6 := hD.2.1.2
      have hn2 : _ ≤ 8 := hD.2.2.1
      have q1 := Y.2
      have hp := pw_le _ (Nat.lt_succ_of_le hn2)
      have hp1 := Nat.two_pow_pos (D 2)
      have hQ2 := hQ.tr (hF.q (by decide))
      refine G_S (pc := 19) f_265_19 rfl rfl rfl ?_
      rcases sw5 x with rfl | rfl | rfl | rfl | rfl | hw
      · refine G_S (pc := 20) f_265_20 rfl rfl rfl ?_
        refine G_S (pc := 56) f_265_56 rfl rfl rfl ?_
        refine G_CV (pc := 57) f_265_57 rfl rfl (by decide) rfl rfl (by first | assumption | exact hK.1 _ _ rfl) (by decide) ⟨Nat.le_of_ble_eq_true rfl, Nat.le_of_ble_eq_true rfl⟩ ?_
        refine CG.go (g_few Y) ?_
        refine G_ri (pc := 60) f_265_60 ?_
        first
          | exact ⟨rfl, hQ2⟩
          | exact ⟨rfl, hQ2.tr (hF2.q (by decide))⟩
          | exact ⟨by rw [upM_o (by omega)], hQ2⟩
          | exact ⟨by show _ = some (Value.int (loI D _)); rw [hc]; rfl, hQ2⟩
          | exact ⟨by show _ = some (Value.int (loI D _)); rw [oI_m1 (fun c hc => by have := (q3 c hc).1; omega) b2]; rfl, hQ2⟩
      · refine G_S (pc := 20) f_265_20 rfl rfl rfl ?_
        refine G_S (pc := 61) f_265_61 rfl rfl rfl ?_
        refine G_CV (pc := 62) f_265_62 rfl rfl (by decide) rfl rfl (by first | assumption | exact hK.1 _ _ rfl) (by decide) ⟨Nat.le_of_ble_eq_true rfl, Nat.le_of_ble_eq_true rfl⟩ ?_
        refine CG.go (g_light Y) ?_
        refine G_ri (pc := 65) f_265_65 ?_
        first
          | exact ⟨rfl, hQ2⟩
          | exact ⟨rfl, hQ2.tr (hF2.q (by decide))⟩
          | exact ⟨by rw [upM_o (by omega)], hQ2⟩
          | exact ⟨by show _ = some (Value.int (loI D _)); rw [hc]; rfl, hQ2⟩
          | exact ⟨by show _ = some (Value.int (loI D _)); rw [oI_m1 (fun c hc => by have := (q3 c hc).1; omega) b2]; rfl, hQ2⟩
      · refine G_S (pc := 20) f_265_20 rfl rfl rfl ?_
        refine G_S (pc := 66) f_265_66 rfl rfl rfl ?_
        refine G_CV (pc := 67) f_265_67 rfl rfl (by decide) rfl rfl (by first | assumption | exact hK.1 _ _ rfl) (by decide) ⟨Nat.le_of_ble_eq_true rfl, Nat.le_of_ble_eq_true rfl⟩ ?_
        refine CG.go (g_light Y) ?_
        refine G_ic (v := zI (-1)) (pc := 70) f_265_70 (by decide) ?_
        refine G_jneZ (pc := 71) f_265_71 rfl (by first | exact nI_toInt (by omega) | exact zI_toInt (by omega) (by omega) | rfl) (by first | exact nI_toInt (by omega) | exact zI_toInt (by omega) (by omega) | rfl) (fun b2 => ?_) (fun b2 => ?_)
        · obtain ⟨c, hc⟩ := oI_nn b2
          have hc2 := (q3 c hc).1
          refine G_S (pc := 78) f_265_78 rfl rfl rfl ?_
          refine G_S (pc := 79) f_265_79 rfl rfl rfl ?_
          refine G_CV (pc := 80) f_265_80 rfl rfl (by decide) rfl rfl (by first | assumption | exact hK.1 _ _ rfl) (by decide) ⟨Nat.le_of_ble_eq_true rfl, Nat.le_of_ble_eq_true rfl⟩ ?_
          refine CG.go (g_light Y) ?_
          refine G_CV (pc := 83) f_265_83 rfl rfl (by decide) rfl rfl (by first | assumption | exact hK.1 _ _ rfl) (by decide) ⟨Nat.le_of_ble_eq_true rfl, Nat.le_of_ble_eq_true rfl⟩ ?_
          refine CG.go ((by rw [hc, oI_some]; exact g_ounces Y.1 (by omega))) ?_
          refine G_ri (pc := 86) f_265_86 ?_
          first
            | exact ⟨rfl, hQ2⟩
            | exact ⟨rfl, hQ2.tr (hF2.q (by decide))⟩
            | exact ⟨by rw [upM_o (by omega)], hQ2⟩
            | exact ⟨by show _ = some (Value.int (loI D _)); rw [hc]; rfl, hQ2⟩
            | exact ⟨by show _ = some (Value.int (loI D _)); rw [oI_m1 (fun c hc => by have := (q3 c hc).1; omega) b2]; rfl, hQ2⟩
        · refine G_ic (v := zI (-1)) (pc := 74) f_265_74 (by decide) ?_
          refine G_S (pc := 75) f_265_75 rfl rfl rfl ?_
          refine G_ri (pc := 86) f_265_86 ?_
          first
            | exact ⟨rfl, hQ2⟩
            | exact ⟨rfl, hQ2.tr (hF2.q (by decide))⟩
            | exact ⟨by rw [upM_o (by omega)], hQ2⟩
            | exact ⟨by show _ = some (Value.int (loI D _)); rw [hc]; rfl, hQ2⟩
            | exact ⟨by show _ = some (Value.int (loI D _)); rw [oI_m1 (fun c hc => by have := (q3 c hc).1; omega) b2]; rfl, hQ2⟩
      · refine G_S (pc := 20) f_265_20 rfl rfl rfl ?_
        refine G_S (pc := 87) f_265_87 rfl rfl rfl ?_
        refine G_CV (pc := 88) f_265_88 rfl rfl (by decide) rfl rfl (by first | assumption | exact hK.1 _ _ rfl) (by decide) ⟨Nat.le_of_ble_eq_true rfl, Nat.le_of_ble_eq_true rfl⟩ ?_
        refine CG.mono (g_trams Y) ?_
        rintro _ M3 ⟨rfl, hF2⟩
        refine G_ri (pc := 91) f_265_91 ?_
        first
          | exact ⟨rfl, hQ2⟩
          | exact ⟨rfl, hQ2.tr (hF2.q (by decide))⟩
          | exact ⟨by rw [upM_o (by omega)], hQ2⟩
          | exact ⟨by show _ = some (Value.int (loI D _)); rw [hc]; rfl, hQ2⟩
          | exact ⟨by show _ = some (Value.int (loI D _)); rw [oI_m1 (fun c hc => by have := (q3 c hc).1; omega) b2]; rfl, hQ2⟩
      · refine G_S (pc := 20) f_265_20 rfl rfl rfl ?_
        refine G_S (pc := 92) f_265_92 rfl rfl rfl ?_
        refine G_CV (pc := 93) f_265_93 rfl rfl (by decide) rfl rfl (by first | assumption | exact hK.1 _ _ rfl) (by decide) ⟨Nat.le_of_ble_eq_true rfl, Nat.le_of_ble_eq_true rfl⟩ ?_
        refine CG.go (g_needed Y) ?_
        refine G_ri (pc := 96) f_265_96 ?_
        first
          | exact ⟨rfl, hQ2⟩
          | exact ⟨rfl, hQ2.tr (hF2.q (by decide))⟩
          | exact ⟨by rw [upM_o (by omega)], hQ2⟩
          | exact ⟨by show _ = some (Value.int (loI D _)); rw [hc]; rfl, hQ2⟩
          | exact ⟨by show _ = some (Value.int (loI D _)); rw [oI_m1 (fun c hc => by have := (q3 c hc).1; omega) b2]; rfl, hQ2⟩
      · refine G_tsO (pc := 20) f_265_20 rfl (hw) ?_
        refine G_ic (v := zI (-1)) (pc := 97) f_265_97 (by decide) ?_
        refine G_ri (pc := 98) f_265_98 ?_
        first
          | exact ⟨rfl, hQ2⟩
          | exact ⟨rfl, hQ2.tr (hF2.q (by decide))⟩
          | exact ⟨by rw [upM_o (by omega)], hQ2⟩
          | exact ⟨by show _ = some (Value.int (loI D _)); rw [hc]; rfl, hQ2⟩
          | exact ⟨by show _ = some (Value.int (loI D _)); rw [oI_m1 (fun c hc => by have := (q3 c hc).1; omega) b2]; rfl, hQ2⟩
    · exact absurd trivial b1
theorem g_against (W : MLs M n L) : CG C 312 [.ref 98, .int k, .int x] M (fun w M' => w = some (.int (aLin (lin n L k) (zI (-1)) (fun D => agF D x))) ∧ mQ M M') := by
  have hK := W.1
  cases hl : lin n L k with
  | none =>
    refine CG_in (mL := 6) (hl := false) (lv := [some (.ref 98), some (.int k), some (.int x), none, none, none]) (ll := []) rfl rfl rfl ?_
    refine G_S (pc := 0) f_312_0 rfl rfl rfl ?_
    refine G_ic (v := nI 0) (pc := 1) f_312_1 (by decide) ?_
    refine G_pI (pc := 2) f_312_2 rfl (by first | assumption | exact hK.1 _ _ rfl) ?_
    refine G_S (pc := 5) f_312_5 rfl rfl rfl ?_
    refine G_S (pc := 6) f_312_6 rfl rfl rfl ?_
    refine G_CV (pc := 7) f_312_7 rfl rfl (by decide) rfl rfl (by first | assumption | exact hK.1 _ _ rfl) (by decide) ⟨Nat.le_of_ble_eq_true rfl, Nat.le_of_ble_eq_true rfl⟩ ?_
    refine CG.go (g_handN (W.q mQ.cod) hl) ?_
    first | refine G_bEq (pc := 10) f_312_10 rfl (fun b1 => ?_) (fun b1 => ?_) | refine G_zeqZ (pc := 10) f_312_10 rfl (by first | exact nI_toInt (by omega) | exact zI_toInt (by omega) (by omega) | rfl) (fun b1 => ?_) (fun b1 => ?_)
    · refine G_ic (v := zI (-1)) (pc := 27) f_312_27 (by decide) ?_
      refine G_ri (pc := 28) f_312_28 ?_
      exact ⟨rfl, mQ.cod⟩
    · exact absurd b1 id
  | some D =>
    show CG C 312 [.ref 98, .int k, .int x] M (fun w M' => w = some (.int (agF D x)) ∧ mQ M M')
    have loop : ∀ y, y < D 0 → ∀ l M1, MB M1 l D (layN D 0) → ∀ i, i ≤ 2 ^ D 2 → ∀ a, G C 312 (39, [some (.ref 98), some (.int k), some (.int (nI y)), some (.int ((oI (bestF (agP D (D (3 + y))) fewL i)))), some (.int (nI i)), a], [], [], M1) (fun w M' => w = some (.int (oI (bestF (agP D (D (3 + y))) fewL (2 ^ D 2)))) ∧ M' = M1) := by
      intro y hy l M1 W1
      have W0 := W1.1
      have hK := W0.1
      have hH := W0.2
      obtain ⟨⟨a0, a1, a2, a3⟩, hl8, hD, ao⟩ := W0.2
      have hn0 : _ ≤ 8 := hD.1
      have hn1 : _ ≤ 6 := hD.2.1.2
      have hn2 : _ ≤ 8 := hD.2.2.1
      have hp := pw_le _ (Nat.lt_succ_of_le hn2)
      have h99 := hD.2.2.2.1 y (by omega)
      refine upto (fun i hi ih a => ?_)
      have q3 : ∀ c, bestF (agP D (D (3 + y))) fewL i = some c → c < i ∧ agP D (D (3 + y)) c = true := fun c hc => bestF_lt hc
      have hpl := plS_le D (S := i) (n := D 2) (fun r hr => (W1.2 r hr).2)
      have q4 : i < 256 → pc8 i ≤ 8 := fun q => pc8_le i q
      refine G_S (pc := 39) f_312_39 rfl rfl rfl ?_
      refine G_ic (v := nI 1) (pc := 41) f_312_41 (by decide) ?_
      refine G_S (pc := 42) f_312_42 rfl rfl rfl ?_
      refine G_gIv (pc := 43) f_312_43 (by decide) rfl (by decide) (by first | assumption | exact hK.1 _ _ rfl) (by first | assumption | (try dsimp only) <;> (repeat (first | exact up2_s | refine up2_o (by first | decide | omega) ?_)) <;> first | assumption | rfl) ?_
      first | refine G_shl1 (pc := 46) f_312_46 (by omega) ?_ | refine G_S (pc := 46) f_312_46 rfl rfl rfl ?_
      refine G_jgeZ (pc := 47) f_312_47 rfl (by first | exact nI_toInt (by omega) | exact zI_toInt (by omega) (by omega) | rfl) (by first | exact nI_toInt (by omega) | exact zI_toInt (by omega) (by omega) | rfl) (fun b3 => ?_) (fun b3 => ?_)
      · refine G_S (pc := 117) f_312_117 rfl rfl rfl ?_
        refine G_ri (pc := 118) f_312_118 ?_
        rw [show i = 2 ^ D 2 by omega]
        exact ⟨rfl, rfl⟩
      · have q4 := q4 (by omega)
        refine G_S (pc := 50) f_312_50 rfl rfl rfl ?_
        refine G_S (pc := 51) f_312_51 rfl rfl rfl ?_
        refine G_CV (pc := 53) f_312_53 rfl rfl (by decide) rfl rfl (by first | assumption | exact hK.1 _ _ rfl) (by decide) ⟨Nat.le_of_ble_eq_true rfl, Nat.le_of_ble_eq_true rfl⟩ ?_
        refine CG.go (m_isSeated hK hH (by omega)) ?_
        first | refine G_bEq (pc := 56) f_312_56 rfl (fun b4 => ?_) (fun b4 => ?_) | refine G_zeqZ (pc := 56) f_312_56 rfl (by first | exact nI_toInt (by omega) | exact zI_toInt (by omega) (by omega) | rfl) (fun b4 => ?_) (fun b4 => ?_)
        · refine G_ic (v := nI 0) (pc := 79) f_312_79 (by decide) ?_
          refine G_S (pc := 80) f_312_80 rfl rfl rfl ?_
          refine G_S (pc := 82) f_312_82 rfl rfl rfl ?_
          refine G_S (pc := 84) f_312_84 rfl rfl rfl ?_
          refine G_S (pc := 109) f_312_109 rfl rfl rfl ?_
          refine G_S (pc := 110) f_312_110 rfl rfl rfl ?_
          first | refine G_inc1 (pc := 111) f_312_111 rfl ?_ | refine G_S (pc := 111) f_312_111 rfl rfl rfl ?_
          refine G_S (pc := 114) f_312_114 rfl rfl rfl ?_
          first
            | (have e := ih (by omega) (some (.int (nI 0)))
               rw [bestF_no (show ¬ agP D (D (3 + y)) i = true from fun q => b4 (of_decide_eq_true (band.mp q).1))] at e; exact e)
            | (have e := ih (by omega) (some (.int (nI 0)))
               rw [bestF_no (show ¬ agP D (D (3 + y)) i = true from fun q => by have := of_decide_eq_true (band.mp q).2; omega)] at e; exact e)
            | (have e := ih (by omega) (some (.int (nI 1)))
               have hag : agP D (D (3 + y)) i = true := band.mpr ⟨decide_eq_true b4, decide_eq_true (by omega)⟩
               first
                 | (rw [bestF_first hag (oI_m1 (fun c hc => by have := (q3 c hc).1; omega) b7)] at e; exact e)
                 | (rw [bestF_new hag hc (decide_eq_true (by omega))] at e; exact e)
                 | (rw [bestF_keep hc (fun q => absurd (of_decide_eq_true q) (by omega))] at e; exact e))
        · refine G_S (pc := 59) f_312_59 rfl rfl rfl ?_
          refine G_S (pc := 60) f_312_60 rfl rfl rfl ?_
          refine G_CV (pc := 62) f_312_62 rfl rfl (by decide) rfl rfl (by first | assumption | exact hK.1 _ _ rfl) (by decide) ⟨Nat.le_of_ble_eq_true rfl, Nat.le_of_ble_eq_true rfl⟩ ?_
          refine CG.go (g_pull W1 (by omega)) ?_
          refine G_S (pc := 65) f_312_65 rfl rfl rfl ?_
          refine G_ic (v := nI 3) (pc := 66) f_312_66 (by decide) ?_
          refine G_S (pc := 67) f_312_67 rfl rfl rfl ?_
          first | refine G_addN (pc := 68) f_312_68 ?_ | refine G_addZ (pc := 68) f_312_68 (by first | rfl | exact nI_zI _) (by first | rfl | exact nI_zI _) ?_ | refine G_S (pc := 68) f_312_68 rfl rfl rfl ?_
          refine G_CV (pc := 69) f_312_69 rfl rfl (by decide) rfl rfl (by first | assumption | exact hK.1 _ _ rfl) (by decide) ⟨Nat.le_of_ble_eq_true rfl, Nat.le_of_ble_eq_true rfl⟩ ?_
          refine CG.go (m_ofD hK hH (by omega)) ?_
          refine G_jltZ (pc := 72) f_312_72 rfl (by first | exact nI_toInt (by omega) | exact zI_toInt (by omega) (by omega) | rfl) (by first | exact nI_toInt (by omega) | exact zI_toInt (by omega) (by omega) | rfl) (fun b5 => ?_) (fun b5 => ?_)
          · refine G_ic (v := nI 0) (pc := 79) f_312_79 (by decide) ?_
            refine G_S (pc := 80) f_312_80 rfl rfl rfl ?_
            refine G_S (pc := 82) f_312_82 rfl rfl rfl ?_
            refine G_S (pc := 84) f_312_84 rfl rfl rfl ?_
            refine G_S (pc := 109) f_312_109 rfl rfl rfl ?_
            refine G_S (pc := 110) f_312_110 rfl rfl rfl ?_
            first | refine G_inc1 (pc := 111) f_312_111 rfl ?_ | refine G_S (pc := 111) f_312_111 rfl rfl rfl ?_
            refine G_S (pc := 114) f_312_114 rfl rfl rfl ?_
            first
              | (have e := ih (by omega) (some (.int (nI 0)))
                 rw [bestF_no (show ¬ agP D (D (3 + y)) i = true from fun q => b4 (of_decide_eq_true (band.mp q).1))] at e; exact e)
              | (have e := ih (by omega) (some (.int (nI 0)))
                 rw [bestF_no (show ¬ agP D (D (3 + y)) i = true from fun q => by have := of_decide_eq_true (band.mp q).2; omega)] at e; exact e)
              | (have e := ih (by omega) (some (.int (nI 1)))
                 have hag : agP D (D (3 + y)) i = true := band.mpr ⟨decide_eq_true b4, decide_eq_true (by omega)⟩
                 first
                   | (rw [bestF_first hag (oI_m1 (fun c hc => by have := (q3 c hc).1; omega) b7)] at e; exact e)
                   | (rw [bestF_new hag hc (decide_eq_true (by omega))] at e; exact e)
                   | (rw [bestF_keep hc (fun q => absurd (of_decide_eq_true q) (by omega))] at e; exact e))
          · refine G_ic (v := nI 1) (pc := 75) f_312_75 (by decide) ?_
            refine G_S (pc := 76) f_312_76 rfl rfl rfl ?_
            refine G_S (pc := 80) f_312_80 rfl rfl rfl ?_
            refine G_S (pc := 82) f_312_82 rfl rfl rfl ?_
            refine G_S (pc := 84) f_312_84 rfl rfl rfl ?_
            refine G_S (pc := 87) f_312_87 rfl rfl rfl ?_
            refine G_ic (v := zI (-1)) (pc := 88) f_312_88 (by decide) ?_
            refine G_jeqZ (pc := 89) f_312_89 rfl (by first | exact nI_toInt (by omega) | exact zI_toInt (by omega) (by omega) | rfl) (by first | exact nI_toInt (by omega) | exact zI_toInt (by omega) (by omega) | rfl) (fun b7 => ?_) (fun b7 => ?_)
            · refine G_S (pc := 104) f_312_104 rfl rfl rfl ?_
              refine G_S (pc := 106) f_312_106 rfl rfl rfl ?_
              refine G_S (pc := 110) f_312_110 rfl rfl rfl ?_
              first | refine G_inc1 (pc := 111) f_312_111 rfl ?_ | refine G_S (pc := 111) f_312_111 rfl rfl rfl ?_
              refine G_S (pc := 114) f_312_114 rfl rfl rfl ?_
              first
                | (have e := ih (by omega) (some (.int (nI 0)))
                   rw [bestF_no (show ¬ agP D (D (3 + y)) i = true from fun q => b4 (of_decide_eq_true (band.mp q).1))] at e; exact e)
                | (have e := ih (by omega) (some (.int (nI 0)))
                   rw [bestF_no (show ¬ agP D (D (3 + y)) i = true from fun q => by have := of_decide_eq_true (band.mp q).2; omega)] at e; exact e)
                | (have e := ih (by omega) (some (.int (nI 1)))
                   have hag : agP D (D (3 + y)) i = true := band.mpr ⟨decide_eq_true b4, decide_eq_true (by omega)⟩
                   first
                     | (rw [bestF_first hag (oI_m1 (fun c hc => by have := (q3 c hc).1; omega) b7)] at e; exact e)
                     | (rw [bestF_new hag hc (decide_eq_true (by omega))] at e; exact e)
                     | (rw [bestF_keep hc (fun q => absurd (of_decide_eq_true q) (by omega))] at e; exact e))
            · obtain ⟨c, hc⟩ := oI_nn b7
              have hc2 := (q3 c hc).1
              have q5 := pc8_le c (by omega)
              rw [hc, oI_some]
              refine G_S (pc := 92) f_312_92 rfl rfl rfl ?_
              refine G_CS (pc := 94) f_312_94 rfl rfl (by decide) rfl rfl ⟨Nat.le_of_ble_eq_true rfl, Nat.le_of_ble_eq_true rfl⟩ ?_
              refine CG.go (m_onesN (by omega)) ?_
              refine G_S (pc := 97) f_312_97 rfl rfl rfl ?_
              refine G_CS (pc := 98) f_312_98 rfl rfl (by decide) rfl rfl ⟨Nat.le_of_ble_eq_true rfl, Nat.le_of_ble_eq_true rfl⟩ ?_
              refine CG.go (m_onesN (by omega)) ?_
              refine G_jgeZ (pc := 101) f_312_101 rfl (by first | exact nI_toInt (by omega) | exact zI_toInt (by omega) (by omega) | rfl) (by first | exact nI_toInt (by omega) | exact zI_toInt (by omega) (by omega) | rfl) (fun b8 => ?_) (fun b8 => ?_)
              · refine G_S (pc := 109) f_312_109 rfl rfl rfl ?_
                refine G_S (pc := 110) f_312_110 rfl rfl rfl ?_
                first | refine G_inc1 (pc := 111) f_312_111 rfl ?_ | refine G_S (pc := 111) f_312_111 rfl rfl rfl ?_
                refine G_S (pc := 114) f_312_114 rfl rfl rfl ?_
                first
                  | (have e := ih (by omega) (some (.int (nI 0)))
                     rw [bestF_no (show ¬ agP D (D (3 + y)) i = true from fun q => b4 (of_decide_eq_true (band.mp q).1))] at e; exact e)
                  | (have e := ih (by omega) (some (.int (nI 0)))
                     rw [bestF_no (show ¬ agP D (D (3 + y)) i = true from fun q => by have := of_decide_eq_true (band.mp q).2; omega)] at e; exact e)
                  | (have e := ih (by omega) (some (.int (nI 1)))
                     have hag : agP D (D (3 + y)) i = true := band.mpr ⟨decide_eq_true b4, decide_eq_true (by omega)⟩
                     first
                       | (rw [bestF_first hag (oI_m1 (fun c hc => by have := (q3 c hc).1; omega) b7)] at e; exact e)
                       | (rw [bestF_new hag hc (decide_eq_true (by omega))] at e; exact e)
                       | (rw [bestF_keep hc (fun q => absurd (of_decide_eq_true q) (by omega))] at e; exact e))
              · refine G_S (pc := 104) f_312_104 rfl rfl rfl ?_
                refine G_S (pc := 106) f_312_106 rfl rfl rfl ?_
                refine G_S (pc := 110) f_312_110 rfl rfl rfl ?_
                first | refine G_inc1 (pc := 111) f_312_111 rfl ?_ | refine G_S (pc := 111) f_312_111 rfl rfl rfl ?_
                refine G_S (pc := 114) f_312_114 rfl rfl rfl ?_
                first
                  | (have e := ih (by omega) (some (.int (nI 0)))
                     rw [bestF_no (show ¬ agP D (D (3 + y)) i = true from fun q => b4 (of_decide_eq_true (band.mp q).1))] at e; exact e)
                  | (have e := ih (by omega) (some (.int (nI 0)))
                     rw [bestF_no (show ¬ agP D (D (3 + y)) i = true from fun q => by have := of_decide_eq_true (band.mp q).2; omega)] at e; exact e)
                  | (have e := ih (by omega) (some (.int (nI 1)))
                     have hag : agP D (D (3 + y)) i = true := band.mpr ⟨decide_eq_true b4, decide_eq_true (by omega)⟩
                     first
                       | (rw [bestF_first hag (oI_m1 (fun c hc => by have := (q3 c hc).1; omega) b7)] at e; exact e)
                       | (rw [bestF_new hag hc (decide_eq_true (by omega))] at e; exact e)
                       | (rw [bestF_keep hc (fun q => absurd (of_decide_eq_true q) (by omega))] at e; exact e))
    refine CG_in (mL := 6) (hl := false) (lv := [some (.ref 98), some (.int k), some (.int x), none, none, none]) (ll := []) rfl rfl rfl ?_
    refine G_S (pc := 0) f_312_0 rfl rfl rfl ?_
    refine G_ic (v := nI 0) (pc := 1) f_312_1 (by decide) ?_
    refine G_pI (pc := 2) f_312_2 rfl (by first | assumption | exact hK.1 _ _ rfl) ?_
    refine G_S (pc := 5) f_312_5 rfl rfl rfl ?_
    refine G_S (pc := 6) f_312_6 rfl rfl rfl ?_
    refine G_CV (pc := 7) f_312_7 rfl rfl (by decide) rfl rfl (by first | assumption | exact hK.1 _ _ rfl) (by decide) ⟨Nat.le_of_ble_eq_true rfl, Nat.le_of_ble_eq_true rfl⟩ ?_
    refine CG.mono (g_handS (W.q mQ.cod) hl) ?_
    rintro _ M1 ⟨rfl, hQ, l, W1⟩
    have hK := W1.1
    have hH := W1.2
    obtain ⟨⟨a0, a1, a2, a3⟩, hl8, hD, ao⟩ := W1.2
    have hn0 : _ ≤ 8 := hD.1
    have hn1 : _ ≤ 6 := hD.2.1.2
    have hn2 : _ ≤ 8 := hD.2.2.1
    have hQ := mQ.cod.tr hQ
    first | refine G_bEq (pc := 10) f_312_10 rfl (fun b1 => ?_) (fun b1 => ?_) | refine G_zeqZ (pc := 10) f_312_10 rfl (by first | exact nI_toInt (by omega) | exact zI_toInt (by omega) (by omega) | rfl) (fun b1 => ?_) (fun b1 => ?_)
    · exact absurd trivial b1
    · refine G_S (pc := 13) f_312_13 rfl rfl rfl ?_
      refine G_ic (v := nI 0) (pc := 14) f_312_14 (by decide) ?_
      refine G_S (pc := 15) f_312_15 rfl rfl rfl ?_
      refine G_gIv (pc := 16) f_312_16 (by decide) rfl (by decide) (by first | assumption | exact hK.1 _ _ rfl) (by first | assumption | (try dsimp only) <;> (repeat (first | exact up2_s | refine up2_o (by first | decide | omega) ?_)) <;> first | assumption | rfl) ?_
      refine G_ic (v := nI 1) (pc := 19) f_312_19 (by decide) ?_
      first | refine G_subN (pc := 20) f_312_20 (by omega) ?_ | refine G_subZ (pc := 20) f_312_20 (by first | rfl | exact nI_zI _) (by first | rfl | exact nI_zI _) ?_ | refine G_S (pc := 20) f_312_20 rfl rfl rfl ?_
      refine G_CS (pc := 21) f_312_21 rfl rfl (by decide) rfl rfl ⟨Nat.le_of_ble_eq_true rfl, Nat.le_of_ble_eq_true rfl⟩ ?_
      refine CG.go (m_inZ (by first | exact nI_toInt (by omega) | exact zI_toInt (by omega) (by omega) | rfl) (by first | exact nI_toInt (by omega) | exact zI_toInt (by omega) (by omega) | rfl) (by first | exact nI_toInt (by omega) | exact zI_toInt (by omega) (by omega) | rfl)) ?_
      first | refine G_bNe (pc := 24) f_312_24 rfl (fun b2 => ?_) (fun b2 => ?_) | refine G_zneZ (pc := 24) f_312_24 rfl (by first | exact nI_toInt (by omega) | exact zI_toInt (by omega) (by omega) | rfl) (fun b2 => ?_) (fun b2 => ?_)
      · obtain ⟨c, hc, rfl⟩ := i_nat (n := D 0) b2.1 (by omega)
        refine G_S (pc := 29) f_312_29 rfl rfl rfl ?_
        refine G_ic (v := nI 0) (pc := 30) f_312_30 (by decide) ?_
        refine G_CV (pc := 31) f_312_31 rfl rfl (by decide) rfl rfl (by first | assumption | exact hK.1 _ _ rfl) (by decide) ⟨Nat.le_of_ble_eq_true rfl, Nat.le_of_ble_eq_true rfl⟩ ?_
        refine CG.mono (g_lay W1 nI_z0 (by omega) (by omega)) ?_
        rintro _ M2 ⟨rfl, hF, W2⟩
        refine G_ic (v := zI (-1)) (pc := 34) f_312_34 (by decide) ?_
        refine G_S (pc := 35) f_312_35 rfl rfl rfl ?_
        refine G_ic (v := nI 0) (pc := 36) f_312_36 (by decide) ?_
        refine G_S (pc := 37) f_312_37 rfl rfl rfl ?_
        refine G.mono (loop c hc l M2 W2 0 (Nat.zero_le _) _) ?_
        rintro w M9 ⟨g1, rfl⟩
        refine ⟨?_, hQ.tr (hF.q (by decide))⟩
        rw [g1]
        unfold agF
        rw [nI_toInt (by omega), Int.toNat_natCast, if_pos (by omega)]
      · refine G_ic (v := zI (-1)) (pc := 27) f_312_27 (by decide) ?_
        refine G_ri (pc := 28) f_312_28 ?_
        exact ⟨by unfold agF; rw [if_neg (by omega)], hQ⟩
theorem g_sets (W : MLs M n L) : CG C 313 [.ref 98, .int k, .int x] M (fun w M' => w = some (.int (aLin (lin n L k) (zI (-2)) (fun D => setsF D x))) ∧ mQ M M') := by
  have hK := W.1
  cases hl : lin n L k with
  | none =>
    refine CG_in (mL := 5) (hl := false) (lv := [some (.ref 98), some (.int k), some (.int x), none, none]) (ll := []) rfl rfl rfl ?_
    refine G_S (pc := 0) f_313_0 rfl rfl rfl ?_
    refine G_ic (v := nI 0) (pc := 1) f_313_1 (by decide) ?_
    refine G_pI (pc := 2) f_313_2 rfl (by first | assumption | exact hK.1 _ _ rfl) ?_
    refine G_S (pc := 5) f_313_5 rfl rfl rfl ?_
    refine G_S (pc := 6) f_313_6 rfl rfl rfl ?_
    refine G_CV (pc := 7) f_313_7 rfl rfl (by decide) rfl rfl (by first | assumption | exact hK.1 _ _ rfl) (by decide) ⟨Nat.le_of_ble_eq_true rfl, Nat.le_of_ble_eq_true rfl⟩ ?_
    refine CG.go (g_handN (W.q mQ.cod) hl) ?_
    first | refine G_bEq (pc := 10) f_313_10 rfl (fun b1 => ?_) (fun b1 => ?_) | refine G_zeqZ (pc := 10) f_313_10 rfl (by first | exact nI_toInt (by omega) | exact zI_toInt (by omega) (by omega) | rfl) (fun b1 => ?_) (fun b1 => ?_)
    · refine G_bi (v := zI (-2)) (pc := 22) f_313_22 (by decide) ?_
      refine G_ri (pc := 24) f_313_24 ?_
      exact ⟨rfl, mQ.cod⟩
    · exact absurd b1 id
  | some D =>
    show CG C 313 [.ref 98, .int k, .int x] M (fun w M' => w = some (.int (setsF D x)) ∧ mQ M M')
    have l3 : ∀ l M1, 0 ≤ x.toInt → x.toInt ≤ 2 → mH M1 l D → (∀ k, k ≤ 8 → M1.2.1 127 k = nI (cntF (stopB D k) (2 ^ D 2))) → ∀ i, i ≤ D 0 → G C 313 (97, [some (.ref 98), some (.int k), some (.int x), some (.int ((oI (bestF (wrP D) (wrL D) i)))), some (.int (nI i))], [], [], M1) (fun w M' => w = some (.int (setsF D x)) ∧ mQ M1 M') := by
      intro l M1 hx1 hx2 W1 q2
      have hK := W1.1
      have hH := W1.2
      obtain ⟨⟨a0, a1, a2, a3⟩, hl8, hD, ao⟩ := W1.2
      have hn0 : _ ≤ 8 := hD.1
      have hn1 : _ ≤ 6 := hD.2.1.2
      have hn2 : _ ≤ 8 := hD.2.2.1
      have hp := pw_le _ (Nat.lt_succ_of_le hn2)
      refine upto (fun i hi ih => ?_)
      have q3 : ∀ c, bestF (wrP D) (wrL D) i = some c → c < i ∧ wrP D c = true := fun c hc => bestF_lt hc
      have hc : ∀ k, cntF (stopB D k) (2 ^ D 2) ≤ 256 := fun k => by have := cntF_le (U := stopB D k) (2 ^ D 2); omega
      have hc1 := hc i
      have hi0 : i = D 0 ∨ i < D 0 := by omega
      refine G_S (pc := 97) f_313_97 rfl rfl rfl ?_
      refine G_S (pc := 99) f_313_99 rfl rfl rfl ?_
      refine G_gIv (pc := 100) f_313_100 (by decide) rfl (by decide) (by first | assumption | exact hK.1 _ _ rfl) (by first | assumption | (try dsimp only) <;> (repeat (first | exact up2_s | refine up2_o (by first | decide | omega) ?_)) <;> first | assumption | rfl) ?_
      refine G_jgeZ (pc := 103) f_313_103 rfl (by first | exact nI_toInt (by omega) | exact zI_toInt (by omega) (by omega) | rfl) (by first | exact nI_toInt (by omega) | exact zI_toInt (by omega) (by omega) | rfl) (fun b6 => ?_) (fun b6 => ?_)
      · have e : i = D 0 := by omega
        subst e
        refine G_S (pc := 144) f_313_144 rfl rfl rfl ?_
        first | refine G_bNe (pc := 145) f_313_145 rfl (fun b9 => ?_) (fun b9 => ?_) | refine G_zneZ (pc := 145) f_313_145 rfl (by first | exact nI_toInt (by omega) | exact zI_toInt (by omega) (by omega) | rfl) (fun b9 => ?_) (fun b9 => ?_)
        · refine G_S (pc := 160) f_313_160 rfl rfl rfl ?_
          refine G_ic (v := zI (-1)) (pc := 161) f_313_161 (by decide) ?_
          refine G_jeqZ (pc := 162) f_313_162 rfl (by first | exact nI_toInt (by omega) | exact zI_toInt (by omega) (by omega) | rfl) (by first | exact nI_toInt (by omega) | exact zI_toInt (by omega) (by omega) | rfl) (fun b10 => ?_) (fun b10 => ?_)
          · refine G_S (pc := 170) f_313_170 rfl rfl rfl ?_
            refine G_S (pc := 171) f_313_171 rfl rfl rfl ?_
            refine G_ri (pc := 180) f_313_180 ?_
            refine ⟨?_, mQ.rf⟩
            congr 2
            unfold setsF
            first
              | (rw [if_pos b9]; rfl)
              | (rw [if_neg b9, if_pos (by omega)])
              | (rw [if_neg b9, if_neg (by omega), if_pos (by omega), hb]; rfl)
              | (rw [if_neg b9, oI_m1 (fun c hc => by have := (q3 c hc).1; omega) b10]
                 split
                 · rfl
                 · rw [if_pos (by omega)]
                   rfl)
          · refine G_S (pc := 165) f_313_165 rfl rfl rfl ?_
            refine G_ic (v := nI 1) (pc := 166) f_313_166 (by decide) ?_
            refine G_jneZ (pc := 167) f_313_167 rfl (by first | exact nI_toInt (by omega) | exact zI_toInt (by omega) (by omega) | rfl) (by first | exact nI_toInt (by omega) | exact zI_toInt (by omega) (by omega) | rfl) (fun b11 => ?_) (fun b11 => ?_)
            · obtain ⟨c, hb⟩ := oI_nn b10
              have hc2 := (q3 c hb).1
              rw [hb, oI_some]
              refine G_S (pc := 174) f_313_174 rfl rfl rfl ?_
              refine G_gR (pc := 175) f_313_175 (by decide) rfl (by first | assumption | exact hK.1 _ _ rfl) (by first | assumption | exact hK.2 _ _ _ rfl | (try dsimp only) <;> (repeat (first | exact up2_s | refine up2_o (by first | decide | omega) ?_)) <;> first | assumption | exact hK.2 _ _ _ rfl) ?_
              refine G_S (pc := 178) f_313_178 rfl rfl rfl ?_
              refine G_iaN (pc := 179) f_313_179 (by first | assumption | exact hK.1 _ _ rfl) (by omega) (by omega) (by first | assumption | exact q1 _ (by omega) | exact q2 _ (by omega) | exact q3 _ (by omega) | exact q4 _ (by omega) | exact q5 _ (by omega) | exact vh _ (by omega) | exact (vr _ (by omega)).1 | exact (vr _ (by omega)).2 | exact vw _ (by omega) | exact vf _ (by omega) (by omega) | rfl) ?_
              refine G_ri (pc := 180) f_313_180 ?_
              refine ⟨?_, mQ.rf⟩
              congr 2
              unfold setsF
              first
                | (rw [if_pos b9]; rfl)
                | (rw [if_neg b9, if_pos (by omega)])
                | (rw [if_neg b9, if_neg (by omega), if_pos (by omega), hb]; rfl)
                | (rw [if_neg b9, oI_m1 (fun c hc => by have := (q3 c hc).1; omega) b10]
                   split
                   · rfl
                   · rw [if_pos (by omega)]
                     rfl)
            · refine G_S (pc := 170) f_313_170 rfl rfl rfl ?_
              refine G_S (pc := 171) f_313_171 rfl rfl rfl ?_
              refine G_ri (pc := 180) f_313_180 ?_
              refine ⟨?_, mQ.rf⟩
              congr 2
              unfold setsF
              first
                | (rw [if_pos b9]; rfl)
                | (rw [if_neg b9, if_pos (by omega)])
                | (rw [if_neg b9, if_neg (by omega), if_pos (by omega), hb]; rfl)
                | (rw [if_neg b9, oI_m1 (fun c hc => by have := (q3 c hc).1; omega) b10]
                   split
                   · rfl
                   · rw [if_pos (by omega)]
                     rfl)
        · refine G_S (pc := 148) f_313_148 rfl rfl rfl ?_
          refine G_gR (pc := 149) f_313_149 (by decide) rfl (by first | assumption | exact hK.1 _ _ rfl) (by first | assumption | exact hK.2 _ _ _ rfl | (try dsimp only) <;> (repeat (first | exact up2_s | refine up2_o (by first | decide | omega) ?_)) <;> first | assumption | exact hK.2 _ _ _ rfl) ?_
          refine G_S (pc := 152) f_313_152 rfl rfl rfl ?_
          refine G_gIv (pc := 153) f_313_153 (by decide) rfl (by decide) (by first | assumption | exact hK.1 _ _ rfl) (by first | assumption | (try dsimp only) <;> (repeat (first | exact up2_s | refine up2_o (by first | decide | omega) ?_)) <;> first | assumption | rfl) ?_
          refine G_iaN (pc := 156) f_313_156 (by first | assumption | exact hK.1 _ _ rfl) (by omega) (by omega) (by first | assumption | exact q1 _ (by omega) | exact q2 _ (by omega) | exact q3 _ (by omega) | exact q4 _ (by omega) | exact q5 _ (by omega) | exact vh _ (by omega) | exact (vr _ (by omega)).1 | exact (vr _ (by omega)).2 | exact vw _ (by omega) | exact vf _ (by omega) (by omega) | rfl) ?_
          refine G_S (pc := 157) f_313_157 rfl rfl rfl ?_
          refine G_ri (pc := 180) f_313_180 ?_
          refine ⟨?_, mQ.rf⟩
          congr 2
          unfold setsF
          first
            | (rw [if_pos b9]; rfl)
            | (rw [if_neg b9, if_pos (by omega)])
            | (rw [if_neg b9, if_neg (by omega), if_pos (by omega), hb]; rfl)
            | (rw [if_neg b9, oI_m1 (fun c hc => by have := (q3 c hc).1; omega) b10]
               split
               · rfl
               · rw [if_pos (by omega)]
                 rfl)
      · refine G_S (pc := 106) f_313_106 rfl rfl rfl ?_
        refine G_gR (pc := 107) f_313_107 (by decide) rfl (by first | assumption | exact hK.1 _ _ rfl) (by first | assumption | exact hK.2 _ _ _ rfl | (try dsimp only) <;> (repeat (first | exact up2_s | refine up2_o (by first | decide | omega) ?_)) <;> first | assumption | exact hK.2 _ _ _ rfl) ?_
        refine G_S (pc := 110) f_313_110 rfl rfl rfl ?_
        refine G_iaN (pc := 112) f_313_112 (by first | assumption | exact hK.1 _ _ rfl) (by omega) (by omega) (by first | assumption | exact q1 _ (by omega) | exact q2 _ (by omega) | exact q3 _ (by omega) | exact q4 _ (by omega) | exact q5 _ (by omega) | exact vh _ (by omega) | exact (vr _ (by omega)).1 | exact (vr _ (by omega)).2 | exact vw _ (by omega) | exact vf _ (by omega) (by omega) | rfl) ?_
        refine G_S (pc := 113) f_313_113 rfl rfl rfl ?_
        refine G_ic (v := zI (-1)) (pc := 114) f_313_114 (by decide) ?_
        refine G_jneZ (pc := 115) f_313_115 rfl (by first | exact nI_toInt (by omega) | exact zI_toInt (by omega) (by omega) | rfl) (by first | exact nI_toInt (by omega) | exact zI_toInt (by omega) (by omega) | rfl) (fun b7 => ?_) (fun b7 => ?_)
        · obtain ⟨c, hb⟩ := oI_nn b7
          obtain ⟨hc2, hc3⟩ := q3 c hb
          have hc4 := hc c
          have hc5 := of_decide_eq_true hc3
          rw [hb, oI_some]
          refine G_S (pc := 122) f_313_122 rfl rfl rfl ?_
          refine G_gR (pc := 123) f_313_123 (by decide) rfl (by first | assumption | exact hK.1 _ _ rfl) (by first | assumption | exact hK.2 _ _ _ rfl | (try dsimp only) <;> (repeat (first | exact up2_s | refine up2_o (by first | decide | omega) ?_)) <;> first | assumption | exact hK.2 _ _ _ rfl) ?_
          refine G_S (pc := 126) f_313_126 rfl rfl rfl ?_
          refine G_iaN (pc := 127) f_313_127 (by first | assumption | exact hK.1 _ _ rfl) (by omega) (by omega) (by first | assumption | exact q1 _ (by omega) | exact q2 _ (by omega) | exact q3 _ (by omega) | exact q4 _ (by omega) | exact q5 _ (by omega) | exact vh _ (by omega) | exact (vr _ (by omega)).1 | exact (vr _ (by omega)).2 | exact vw _ (by omega) | exact vf _ (by omega) (by omega) | rfl) ?_
          refine G_jleZ (pc := 128) f_313_128 rfl (by first | exact nI_toInt (by omega) | exact zI_toInt (by omega) (by omega) | rfl) (by first | exact nI_toInt (by omega) | exact zI_toInt (by omega) (by omega) | rfl) (fun b8 => ?_) (fun b8 => ?_)
          · refine G_S (pc := 136) f_313_136 rfl rfl rfl ?_
            refine G_S (pc := 137) f_313_137 rfl rfl rfl ?_
            first | refine G_inc1 (pc := 138) f_313_138 rfl ?_ | refine G_S (pc := 138) f_313_138 rfl rfl rfl ?_
            refine G_S (pc := 141) f_313_141 rfl rfl rfl ?_
            have e := ih (by omega)
            first
              | (rw [bestF_first (decide_eq_true (by omega)) (oI_m1 (fun c hc => by have := (q3 c hc).1; omega) b7)] at e; exact e)
              | (rw [bestF_no (fun q => absurd (of_decide_eq_true q) (by omega))] at e; exact e)
              | (rw [bestF_new (decide_eq_true (by omega)) hb (decide_eq_true (by omega))] at e; exact e)
              | (rw [bestF_keep hb (fun q => absurd (of_decide_eq_true q) (by omega))] at e; exact e)
          · refine G_S (pc := 131) f_313_131 rfl rfl rfl ?_
            refine G_S (pc := 133) f_313_133 rfl rfl rfl ?_
            refine G_S (pc := 137) f_313_137 rfl rfl rfl ?_
            first | refine G_inc1 (pc := 138) f_313_138 rfl ?_ | refine G_S (pc := 138) f_313_138 rfl rfl rfl ?_
            refine G_S (pc := 141) f_313_141 rfl rfl rfl ?_
            have e := ih (by omega)
            first
              | (rw [bestF_first (decide_eq_true (by omega)) (oI_m1 (fun c hc => by have := (q3 c hc).1; omega) b7)] at e; exact e)
              | (rw [bestF_no (fun q => absurd (of_decide_eq_true q) (by omega))] at e; exact e)
              | (rw [bestF_new (decide_eq_true (by omega)) hb (decide_eq_true (by omega))] at e; exact e)
              | (rw [bestF_keep hb (fun q => absurd (of_decide_eq_true q) (by omega))] at e; exact e)
        · refine G_ic (v := nI 0) (pc := 118) f_313_118 (by decide) ?_
          refine G_S (pc := 119) f_313_119 rfl rfl rfl ?_
          refine G_jleZ (pc := 128) f_313_128 rfl (by first | exact nI_toInt (by omega) | exact zI_toInt (by omega) (by omega) | rfl) (by first | exact nI_toInt (by omega) | exact zI_toInt (by omega) (by omega) | rfl) (fun b8 => ?_) (fun b8 => ?_)
          · refine G_S (pc := 136) f_313_136 rfl rfl rfl ?_
            refine G_S (pc := 137) f_313_137 rfl rfl rfl ?_
            first | refine G_inc1 (pc := 138) f_313_138 rfl ?_ | refine G_S (pc := 138) f_313_138 rfl rfl rfl ?_
            refine G_S (pc := 141) f_313_141 rfl rfl rfl ?_
            have e := ih (by omega)
            first
              | (rw [bestF_first (decide_eq_true (by omega)) (oI_m1 (fun c hc => by have := (q3 c hc).1; omega) b7)] at e; exact e)
              | (rw [bestF_no (fun q => absurd (of_decide_eq_true q) (by omega))] at e; exact e)
              | (rw [bestF_new (decide_eq_true (by omega)) hb (decide_eq_true (by omega))] at e; exact e)
              | (rw [bestF_keep hb (fun q => absurd (of_decide_eq_true q) (by omega))] at e; exact e)
          · refine G_S (pc := 131) f_313_131 rfl rfl rfl ?_
            refine G_S (pc := 133) f_313_133 rfl rfl rfl ?_
            refine G_S (pc := 137) f_313_137 rfl rfl rfl ?_
            first | refine G_inc1 (pc := 138) f_313_138 rfl ?_ | refine G_S (pc := 138) f_313_138 rfl rfl rfl ?_
            refine G_S (pc := 141) f_313_141 rfl rfl rfl ?_
            have e := ih (by omega)
            first
              | (rw [bestF_first (decide_eq_true (by omega)) (oI_m1 (fun c hc => by have := (q3 c hc).1; omega) b7)] at e; exact e)
              | (rw [bestF_no (fun q => absurd (of_decide_eq_true q) (by omega))] at e; exact e)
              | (rw [bestF_new (decide_eq_true (by omega)) hb (decide_eq_true (by omega))] at e; exact e)
              | (rw [bestF_keep hb (fun q => absurd (of_decide_eq_true q) (by omega))] at e; exact e)
    have l2 : ∀ l, 0 ≤ x.toInt → x.toInt ≤ 2 → ∀ i, i ≤ 2 ^ D 2 → ∀ M1, mH M1 l D → (∀ k, k ≤ 8 → M1.2.1 127 k = nI (cntF (stopB D k) i)) → G C 313 (48, [some (.ref 98), some (.int k), some (.int x), some (.int (nI i)), none], [], [], M1) (fun w M' => w = some (.int (setsF D x)) ∧ mQ M1 M') := by
      intro l hx1 hx2
      refine upto (fun i hi ih M1 W1 q2 => ?_)
      have hK := W1.1
      have hH := W1.2
      obtain ⟨⟨a0, a1, a2, a3⟩, hl8, hD, ao⟩ := W1.2
      have hn0 : _ ≤ 8 := hD.1
      have hn1 : _ ≤ 6 := hD.2.1.2
      have hn2 : _ ≤ 8 := hD.2.2.1
      have hp := pw_le _ (Nat.lt_succ_of_le hn2)
      have hle := (cmF_le D i (D 0) 0 (layN D 0)).2.1
      have hc : ∀ k, cntF (stopB D k) i ≤ i := fun k => cntF_le i
      have hcc := hc (cmF D i (D 0) 0 (layN D 0)).1
      refine G_S (pc := 48) f_313_48 rfl rfl rfl ?_
      refine G_ic (v := nI 1) (pc := 49) f_313_49 (by decide) ?_
      refine G_S (pc := 50) f_313_50 rfl rfl rfl ?_
      refine G_gIv (pc := 51) f_313_51 (by decide) rfl (by decide) (by first | assumption | exact hK.1 _ _ rfl) (by first | assumption | (try dsimp only) <;> (repeat (first | exact up2_s | refine up2_o (by first | decide | omega) ?_)) <;> first | assumption | rfl) ?_
      first | refine G_shl1 (pc := 54) f_313_54 (by omega) ?_ | refine G_S (pc := 54) f_313_54 rfl rfl rfl ?_
      refine G_jgeZ (pc := 55) f_313_55 rfl (by first | exact nI_toInt (by omega) | exact zI_toInt (by omega) (by omega) | rfl) (by first | exact nI_toInt (by omega) | exact zI_toInt (by omega) (by omega) | rfl) (fun b4 => ?_) (fun b4 => ?_)
      · refine G_ic (v := zI (-1)) (pc := 92) f_313_92 (by decide) ?_
        refine G_S (pc := 93) f_313_93 rfl rfl rfl ?_
        refine G_ic (v := nI 0) (pc := 94) f_313_94 (by decide) ?_
        refine G_S (pc := 95) f_313_95 rfl rfl rfl ?_
        rw [show i = 2 ^ D 2 by omega] at q2
        exact l3 l M1 hx1 hx2 W1 q2 0 (Nat.zero_le _)
      · refine G_S (pc := 58) f_313_58 rfl rfl rfl ?_
        refine G_S (pc := 59) f_313_59 rfl rfl rfl ?_
        refine G_CV (pc := 60) f_313_60 rfl rfl (by decide) rfl rfl (by first | assumption | exact hK.1 _ _ rfl) (by decide) ⟨Nat.le_of_ble_eq_true rfl, Nat.le_of_ble_eq_true rfl⟩ ?_
        refine CG.go (m_isSeated hK hH (by omega)) ?_
        first | refine G_bEq (pc := 63) f_313_63 rfl (fun b5 => ?_) (fun b5 => ?_) | refine G_zeqZ (pc := 63) f_313_63 rfl (by first | exact nI_toInt (by omega) | exact zI_toInt (by omega) (by omega) | rfl) (fun b5 => ?_) (fun b5 => ?_)
        · first | refine G_inc1 (pc := 86) f_313_86 rfl ?_ | refine G_S (pc := 86) f_313_86 rfl rfl rfl ?_
          refine G_S (pc := 89) f_313_89 rfl rfl rfl ?_
          first
            | (refine ih (by omega) _ W1 (fun k hk => ?_)
               have hn : ¬ stopB D k i = true := fun q => b5 (of_decide_eq_true (band.mp q).1)
               rw [cntF, if_neg hn]
               exact q2 k hk)
            | (have hF4 : Fo [127] M3 _ := Fo.up (i := 127) (k := (cmF D i (D 0) 0 (layN D 0)).1) (x := nI (cntF (stopB D (cmF D i (D 0) 0 (layN D 0)).1) i + 1)) (by decide)
               refine G.mono (ih (by omega) _ (W3.1.fo hF4 (by decide) (by decide)) (fun k hk => ?_)) (fun w M9 g => ⟨g.1, (((hF2.q (by decide)).tr (hF3.q (by decide))).tr (hF4.q (by decide))).tr g.2⟩)
               by_cases q : k = (cmF D i (D 0) 0 (layN D 0)).1
               · rw [cntF, if_pos (show stopB D k i = true from band.mpr ⟨decide_eq_true b5, decide_eq_true q.symm⟩), q]
                 exact (by dsimp only; exact up2_s)
               · have hn : ¬ stopB D k i = true := fun q3 => q (of_decide_eq_true (band.mp q3).2).symm
                 rw [cntF, if_neg hn]
                 exact (by dsimp only; exact up2_o (by omega) (q2' k hk)))
        · refine G_S (pc := 66) f_313_66 rfl rfl rfl ?_
          refine G_ic (v := nI 0) (pc := 67) f_313_67 (by decide) ?_
          refine G_CV (pc := 68) f_313_68 rfl rfl (by decide) rfl rfl (by first | assumption | exact hK.1 _ _ rfl) (by decide) ⟨Nat.le_of_ble_eq_true rfl, Nat.le_of_ble_eq_true rfl⟩ ?_
          refine CG.mono (g_lay W1 nI_z0 (by omega) (by omega)) ?_
          rintro _ M2 ⟨rfl, hF2, W2⟩
          have hK := W2.1.1
          refine G_S (pc := 71) f_313_71 rfl rfl rfl ?_
          refine G_gR (pc := 72) f_313_72 (by decide) rfl (by first | assumption | exact hK.1 _ _ rfl) (by first | assumption | exact hK.2 _ _ _ rfl | (try dsimp only) <;> (repeat (first | exact up2_s | refine up2_o (by first | decide | omega) ?_)) <;> first | assumption | exact hK.2 _ _ _ rfl) ?_
          refine G_S (pc := 75) f_313_75 rfl rfl rfl ?_
          refine G_S (pc := 76) f_313_76 rfl rfl rfl ?_
          refine G_ic (v := nI 0) (pc := 77) f_313_77 (by decide) ?_
          refine G_CV (pc := 78) f_313_78 rfl rfl (by decide) rfl rfl (by first | assumption | exact hK.1 _ _ rfl) (by decide) ⟨Nat.le_of_ble_eq_true rfl, Nat.le_of_ble_eq_true rfl⟩ ?_
          refine CG.mono (g_comes0 W2 (by omega)) ?_
          rintro _ M3 ⟨rfl, hF3, W3⟩
          have hK := W3.1.1
          have q2' : ∀ k, k ≤ 8 → M3.2.1 127 k = nI (cntF (stopB D k) i) := fun k hk => by
            rw [(hF3.2 127 (by decide)).1, (hF2.2 127 (by decide)).1]
            exact q2 k hk
          refine G_S (pc := 81) f_313_81 rfl rfl rfl ?_
          refine G_iaN (pc := 82) f_313_82 (by first | assumption | exact hK.1 _ _ rfl) (by omega) (by omega) (by first | exact q2' _ (by omega) | rfl) ?_
          refine G_ic (v := nI 1) (pc := 83) f_313_83 (by decide) ?_
          first | refine G_addN (pc := 84) f_313_84 ?_ | refine G_addZ (pc := 84) f_313_84 (by first | rfl | exact nI_zI _) (by first | rfl | exact nI_zI _) ?_ | refine G_S (pc := 84) f_313_84 rfl rfl rfl ?_
          refine G_isN (pc := 85) f_313_85 (by first | assumption | exact hK.1 _ _ rfl) (by omega) (by omega) ?_
          first | refine G_inc1 (pc := 86) f_313_86 rfl ?_ | refine G_S (pc := 86) f_313_86 rfl rfl rfl ?_
          refine G_S (pc := 89) f_313_89 rfl rfl rfl ?_
          first
            | (refine ih (by omega) _ W1 (fun k hk => ?_)
               have hn : ¬ stopB D k i = true := fun q => b5 (of_decide_eq_true (band.mp q).1)
               rw [cntF, if_neg hn]
               exact q2 k hk)
            | (have hF4 : Fo [127] M3 _ := Fo.up (i := 127) (k := (cmF D i (D 0) 0 (layN D 0)).1) (x := nI (cntF (stopB D (cmF D i (D 0) 0 (layN D 0)).1) i + 1)) (by decide)
               refine G.mono (ih (by omega) _ (W3.1.fo hF4 (by decide) (by decide)) (fun k hk => ?_)) (fun w M9 g => ⟨g.1, (((hF2.q (by decide)).tr (hF3.q (by decide))).tr (hF4.q (by decide))).tr g.2⟩)
               by_cases q : k = (cmF D i (D 0) 0 (layN D 0)).1
               · rw [cntF, if_pos (show stopB D k i = true from band.mpr ⟨decide_eq_true b5, decide_eq_true q.symm⟩), q]
                 exact (by dsimp only; exact up2_s)
               · have hn : ¬ stopB D k i = true := fun q3 => q (of_decide_eq_true (band.mp q3).2).symm
                 rw [cntF, if_neg hn]
                 exact (by dsimp only; exact up2_o (by omega) (q2' k hk)))
    have l1 : ∀ l, 0 ≤ x.toInt → x.toInt ≤ 2 → ∀ i, i ≤ 9 → ∀ M1, mH M1 l D → (∀ k, k < i → M1.2.1 127 k = nI 0) → G C 313 (27, [some (.ref 98), some (.int k), some (.int x), some (.int (nI i)), none], [], [], M1) (fun w M' => w = some (.int (setsF D x)) ∧ mQ M1 M') := by
      intro l hx1 hx2
      refine upto (fun i hi ih M1 W1 q2 => ?_)
      have hK := W1.1
      have hH := W1.2
      obtain ⟨⟨a0, a1, a2, a3⟩, hl8, hD, ao⟩ := W1.2
      have hn0 : _ ≤ 8 := hD.1
      have hn1 : _ ≤ 6 := hD.2.1.2
      have hn2 : _ ≤ 8 := hD.2.2.1
      refine G_S (pc := 27) f_313_27 rfl rfl rfl ?_
      refine G_bi (v := nI 8) (pc := 28) f_313_28 (by decide) ?_
      refine G_jgtZ (pc := 30) f_313_30 rfl (by first | exact nI_toInt (by omega) | exact zI_toInt (by omega) (by omega) | rfl) (by first | exact nI_toInt (by omega) | exact zI_toInt (by omega) (by omega) | rfl) (fun b3 => ?_) (fun b3 => ?_)
      · refine G_ic (v := nI 0) (pc := 46) f_313_46 (by decide) ?_
        refine G_S (pc := 47) f_313_47 rfl rfl rfl ?_
        exact l2 l hx1 hx2 0 (Nat.zero_le _) M1 W1 (fun k hk => q2 k (by omega))
      · refine G_S (pc := 33) f_313_33 rfl rfl rfl ?_
        refine G_gR (pc := 34) f_313_34 (by decide) rfl (by first | assumption | exact hK.1 _ _ rfl) (by first | assumption | exact hK.2 _ _ _ rfl | (try dsimp only) <;> (repeat (first | exact up2_s | refine up2_o (by first | decide | omega) ?_)) <;> first | assumption | exact hK.2 _ _ _ rfl) ?_
        refine G_S (pc := 37) f_313_37 rfl rfl rfl ?_
        refine G_ic (v := nI 0) (pc := 38) f_313_38 (by decide) ?_
        refine G_isN (pc := 39) f_313_39 (by first | assumption | exact hK.1 _ _ rfl) (by omega) (by omega) ?_
        first | refine G_inc1 (pc := 40) f_313_40 rfl ?_ | refine G_S (pc := 40) f_313_40 rfl rfl rfl ?_
        refine G_S (pc := 43) f_313_43 rfl rfl rfl ?_
        have hF4 : Fo [127] M1 _ := Fo.up (i := 127) (k := i) (x := nI 0) (by decide)
        refine G.mono (ih (by omega) _ (W1.fo hF4 (by decide) (by decide)) (fun k hk => ?_)) (fun w M9 g => ⟨g.1, (hF4.q (by decide)).tr g.2⟩)
        by_cases q : k = i
        · subst q
          exact (by dsimp only; exact up2_s)
        · exact (by dsimp only; exact up2_o (by omega) (q2 k (by omega)))
    refine CG_in (mL := 5) (hl := false) (lv := [some (.ref 98), some (.int k), some (.int x), none, none]) (ll := []) rfl rfl rfl ?_
    refine G_S (pc := 0) f_313_0 rfl rfl rfl ?_
    refine G_ic (v := nI 0) (pc := 1) f_313_1 (by decide) ?_
    refine G_pI (pc := 2) f_313_2 rfl (by first | assumption | exact hK.1 _ _ rfl) ?_
    refine G_S (pc := 5) f_313_5 rfl rfl rfl ?_
    refine G_S (pc := 6) f_313_6 rfl rfl rfl ?_
    refine G_CV (pc := 7) f_313_7 rfl rfl (by decide) rfl rfl (by first | assumption | exact hK.1 _ _ rfl) (by decide) ⟨Nat.le_of_ble_eq_true rfl, Nat.le_of_ble_eq_true rfl⟩ ?_
    refine CG.mono (g_handS (W.q mQ.cod) hl) ?_
    rintro _ M1 ⟨rfl, hQ, l, W1⟩
    have hK := W1.1
    have hH := W1.2
    obtain ⟨⟨a0, a1, a2, a3⟩, hl8, hD, ao⟩ := W1.2
    have hn0 : _ ≤ 8 := hD.1
    have hn1 : _ ≤ 6 := hD.2.1.2
    have hn2 : _ ≤ 8 := hD.2.2.1
    have hQ := mQ.cod.tr hQ
    first | refine G_bEq (pc := 10) f_313_10 rfl (fun b1 => ?_) (fun b1 => ?_) | refine G_zeqZ (pc := 10) f_313_10 rfl (by first | exact nI_toInt (by omega) | exact zI_toInt (by omega) (by omega) | rfl) (fun b1 => ?_) (fun b1 => ?_)
    · exact absurd trivial b1
    · refine G_S (pc := 13) f_313_13 rfl rfl rfl ?_
      refine G_ic (v := nI 0) (pc := 14) f_313_14 (by decide) ?_
      refine G_ic (v := nI 2) (pc := 15) f_313_15 (by decide) ?_
      refine G_CS (pc := 16) f_313_16 rfl rfl (by decide) rfl rfl ⟨Nat.le_of_ble_eq_true rfl, Nat.le_of_ble_eq_true rfl⟩ ?_
      refine CG.go (m_inZ (by first | exact nI_toInt (by omega) | exact zI_toInt (by omega) (by omega) | rfl) (by first | exact nI_toInt (by omega) | exact zI_toInt (by omega) (by omega) | rfl) (by first | exact nI_toInt (by omega) | exact zI_toInt (by omega) (by omega) | rfl)) ?_
      first | refine G_bNe (pc := 19) f_313_19 rfl (fun b2 => ?_) (fun b2 => ?_) | refine G_zneZ (pc := 19) f_313_19 rfl (by first | exact nI_toInt (by omega) | exact zI_toInt (by omega) (by omega) | rfl) (fun b2 => ?_) (fun b2 => ?_)
      · refine G_ic (v := nI 0) (pc := 25) f_313_25 (by decide) ?_
        refine G_S (pc := 26) f_313_26 rfl rfl rfl ?_
        exact G.mono (l1 l (by omega) (by omega) 0 (Nat.zero_le _) M1 W1 (fun k hk => absurd hk (by omega))) (fun w M9 g => ⟨g.1, hQ.tr g.2⟩)
      · refine G_bi (v := zI (-2)) (pc := 22) f_313_22 (by decide) ?_
        refine G_ri (pc := 24) f_313_24 ?_
        exact ⟨by rw [setsF_o (by omega)], hQ⟩
theorem g_halves (W : MLs M n L) : CG C 318 [.ref 98, .int k, .int x] M (fun w M' => w = some (.int (aLin (lin n L k) (zI (-1)) (fun D => halfF D x))) ∧ mQ M M') := by
  have hK := W.1
  cases hl : lin n L k with
  | none =>
    refine CG_in (mL := 9) (hl := false) (lv := [some (.ref 98), some (.int k), some (.int x), none, none, none, none, none, none]) (ll := []) rfl rfl rfl ?_
    refine G_S (pc := 0) f_318_0 rfl rfl rfl ?_
    refine G_ic (v := nI 0) (pc := 1) f_318_1 (by decide) ?_
    refine G_pI (pc := 2) f_318_2 rfl (by first | assumption | exact hK.1 _ _ rfl) ?_
    refine G_S (pc := 5) f_318_5 rfl rfl rfl ?_
    refine G_S (pc := 6) f_318_6 rfl rfl rfl ?_
    refine G_CV (pc := 7) f_318_7 rfl rfl (by decide) rfl rfl (by first | assumption | exact hK.1 _ _ rfl) (by decide) ⟨Nat.le_of_ble_eq_true rfl, Nat.le_of_ble_eq_true rfl⟩ ?_
    refine CG.go (g_handN (W.q mQ.cod) hl) ?_
    first | refine G_bNe (pc := 10) f_318_10 rfl (fun b1 => ?_) (fun b1 => ?_) | refine G_zneZ (pc := 10) f_318_10 rfl (by first | exact nI_toInt (by omega) | exact zI_toInt (by omega) (by omega) | rfl) (fun b1 => ?_) (fun b1 => ?_)
    · exact absurd b1 id
    · refine G_ic (v := zI (-1)) (pc := 13) f_318_13 (by decide) ?_
      refine G_ri (pc := 14) f_318_14 ?_
      exact ⟨rfl, mQ.cod⟩
  | some D =>
    show CG C 318 [.ref 98, .int k, .int x] M (fun w M' => w = some (.int (halfF D x)) ∧ mQ M M')
    have loop : ∀ l M1, YM M1 l D → ∀ i, i ≤ (2 ^ D 2 - 1) / 2 → ∀ a b, G C 318 (39, [some (.ref 98), some (.int k), some (.int x), some (.int (nI (2 ^ D 2 - 1))), some (.int ((hI (bestF (haP D) (haL D) i)))), some (.int ((lsH D (bestF (haP D) (haL D) i)))), some (.int (nI (2 * i + 1))), a, b], [], [], M1) (fun w M' => w = some (.int (halfF D x)) ∧ M' = M1) := by
      intro l M1 Y
      have hK := Y.1.1
      have hH := Y.1.2
      obtain ⟨⟨a0, a1, a2, a3⟩, hl8, hD, ao⟩ := Y.1.2
      have hn0 : _ ≤ 8 := hD.1
      have hn1 : _ ≤ 6 := hD.2.1.2
      have hn2 : _ ≤ 8 := hD.2.2.1
      have q1 := Y.2
      have hp := pw_le _ (Nat.lt_succ_of_le hn2)
      have hp1 := Nat.two_pow_pos (D 2)
      have hod := odd_all (D 2) (by omega)
      refine upto (fun i hi ih a b => ?_)
      have q3 : ∀ c, bestF (haP D) (haL D) i = some c → c < i ∧ haP D c = true := fun c hc => bestF_lt hc
      have hd1 := difF_le hD (S := 2 * i + 1)
      have hd3 : difF D (2 * i + 1) = ((ozS D (2 * i + 1) : Int) - (ozS D ((2 ^ D 2 - 1) ^^^ (2 * i + 1)) : Int)).natAbs := rfl
      have hx : 2 * i + 1 < 2 ^ D 2 → (2 ^ D 2 - 1) ^^^ (2 * i + 1) < 2 ^ D 2 := fun q => (xor_all (D 2) (by omega) _ q).1
      have xa : 2 * i + 1 < 2 ^ D 2 → (2 ^ D 2 - 1) ^^^ ((2 ^ D 2 - 1) &&& (2 * i + 1)) = (2 ^ D 2 - 1) ^^^ (2 * i + 1) := fun q => (xor_all (D 2) (by omega) _ q).2.symm
      have ho1 := ozS_le hD (S := 2 * i + 1)
      have ho2 := ozS_le hD (S := (2 ^ D 2 - 1) ^^^ (2 * i + 1))
      have hls : (lsH D (bestF (haP D) (haL D) i)).toInt = (match bestF (haP D) (haL D) i with
          | none => 1000000
          | some c => (difF D (2 * c + 1) : Int)) := by
        cases hb : bestF (haP D) (haL D) i with
        | none => rfl
        | some c =>
          have := difF_le hD (S := 2 * c + 1)
          exact nI_toInt (by omega)
      refine G_S (pc := 39) f_318_39 rfl rfl rfl ?_
      refine G_S (pc := 41) f_318_41 rfl rfl rfl ?_
      refine G_jgeZ (pc := 42) f_318_42 rfl (by first | exact nI_toInt (by omega) | exact zI_toInt (by omega) (by omega) | rfl) (by first | exact nI_toInt (by omega) | exact zI_toInt (by omega) (by omega) | rfl) (fun b2 => ?_) (fun b2 => ?_)
      · refine G_S (pc := 151) f_318_151 rfl rfl rfl ?_
        refine G_ic (v := zI (-1)) (pc := 153) f_318_153 (by decide) ?_
        refine G_jeqZ (pc := 154) f_318_154 rfl (by first | exact nI_toInt (by omega) | exact zI_toInt (by omega) (by omega) | rfl) (by first | exact nI_toInt (by omega) | exact zI_toInt (by omega) (by omega) | rfl) (fun b9 => ?_) (fun b9 => ?_)
        · refine G_S (pc := 161) f_318_161 rfl rfl rfl ?_
          refine G_S (pc := 163) f_318_163 rfl rfl rfl ?_
          refine G_ri (pc := 168) f_318_168 ?_
          have e : i = (2 ^ D 2 - 1) / 2 := by omega
          subst e
          refine ⟨?_, rfl⟩
          congr 2
          unfold halfF
          cases hb : bestF (haP D) (haL D) ((2 ^ D 2 - 1) / 2) with
          | none =>
            rw [hb] at b9
            first
              | rfl
              | exact absurd rfl b9
          | some c =>
            have hc := (q3 c hb).1
            rw [hb, show hI (some c) = nI (2 * c + 1) from rfl, nI_toInt (by omega)] at b9
            first
              | (exfalso; omega)
              | exact (if_pos b10).symm
              | exact (if_neg b10).symm
        · refine G_S (pc := 157) f_318_157 rfl rfl rfl ?_
          first | refine G_bEq (pc := 158) f_318_158 rfl (fun b10 => ?_) (fun b10 => ?_) | refine G_zeqZ (pc := 158) f_318_158 rfl (by first | exact nI_toInt (by omega) | exact zI_toInt (by omega) (by omega) | rfl) (fun b10 => ?_) (fun b10 => ?_)
          · refine G_S (pc := 166) f_318_166 rfl rfl rfl ?_
            refine G_ri (pc := 168) f_318_168 ?_
            have e : i = (2 ^ D 2 - 1) / 2 := by omega
            subst e
            refine ⟨?_, rfl⟩
            congr 2
            unfold halfF
            cases hb : bestF (haP D) (haL D) ((2 ^ D 2 - 1) / 2) with
            | none =>
              rw [hb] at b9
              first
                | rfl
                | exact absurd rfl b9
            | some c =>
              have hc := (q3 c hb).1
              rw [hb, show hI (some c) = nI (2 * c + 1) from rfl, nI_toInt (by omega)] at b9
              first
                | (exfalso; omega)
                | exact (if_pos b10).symm
                | exact (if_neg b10).symm
          · refine G_S (pc := 161) f_318_161 rfl rfl rfl ?_
            refine G_S (pc := 163) f_318_163 rfl rfl rfl ?_
            refine G_ri (pc := 168) f_318_168 ?_
            have e : i = (2 ^ D 2 - 1) / 2 := by omega
            subst e
            refine ⟨?_, rfl⟩
            congr 2
            unfold halfF
            cases hb : bestF (haP D) (haL D) ((2 ^ D 2 - 1) / 2) with
            | none =>
              rw [hb] at b9
              first
                | rfl
                | exact absurd rfl b9
            | some c =>
              have hc := (q3 c hb).1
              rw [hb, show hI (some c) = nI (2 * c + 1) from rfl, nI_toInt (by omega)] at b9
              first
                | (exfalso; omega)
                | exact (if_pos b10).symm
                | exact (if_neg b10).symm
      · have hx := hx (by omega)
        have xa := xa (by omega)
        have q6 : M1.2.1 113 ((2 ^ D 2 - 1) ^^^ ((2 ^ D 2 - 1) &&& (2 * i + 1))) = b2i (uB D ((2 ^ D 2 - 1) ^^^ (2 * i + 1)) = true) := by
          rw [xa]
          exact q1 _ hx
        refine G_S (pc := 45) f_318_45 rfl rfl rfl ?_
        refine G_S (pc := 46) f_318_46 rfl rfl rfl ?_
        refine G_CV (pc := 48) f_318_48 rfl rfl (by decide) rfl rfl (by first | assumption | exact hK.1 _ _ rfl) (by decide) ⟨Nat.le_of_ble_eq_true rfl, Nat.le_of_ble_eq_true rfl⟩ ?_
        refine CG.go (g_ounces Y.1 (by omega)) ?_
        refine G_S (pc := 51) f_318_51 rfl rfl rfl ?_
        refine G_S (pc := 52) f_318_52 rfl rfl rfl ?_
        refine G_S (pc := 53) f_318_53 rfl rfl rfl ?_
        refine G_ic (v := zI (-1)) (pc := 55) f_318_55 (by decide) ?_
        first | refine G_xorN (pc := 56) f_318_56 ?_ | refine G_S (pc := 56) f_318_56 rfl rfl rfl ?_
        first | refine G_andN (pc := 57) f_318_57 ?_ | refine G_andnN (pc := 57) f_318_57 ?_ | refine G_S (pc := 57) f_318_57 rfl rfl rfl ?_
        refine G_CV (pc := 58) f_318_58 rfl rfl (by decide) rfl rfl (by first | assumption | exact hK.1 _ _ rfl) (by decide) ⟨Nat.le_of_ble_eq_true rfl, Nat.le_of_ble_eq_true rfl⟩ ?_
        refine CG.go ((by rw [xa]; exact g_ounces Y.1 (by omega))) ?_
        first | refine G_subN (pc := 61) f_318_61 (by omega) ?_ | refine G_subZ (pc := 61) f_318_61 (by first | rfl | exact nI_zI _) (by first | rfl | exact nI_zI _) ?_ | refine G_S (pc := 61) f_318_61 rfl rfl rfl ?_
        refine G_S (pc := 62) f_318_62 rfl rfl rfl ?_
        refine G_S (pc := 64) f_318_64 rfl rfl rfl ?_
        refine G_zgeZ (pc := 66) f_318_66 rfl (by first | exact nI_toInt (by omega) | exact zI_toInt (by omega) (by omega) | rfl) (fun b3 => ?_) (fun b3 => ?_)
        · refine G_S (pc := 75) f_318_75 rfl rfl rfl ?_
          refine G_S (pc := 77) f_318_77 rfl rfl rfl ?_
          first | rw [absP b3] | rw [absN b3]
          rw [← hd3]
          refine G_S (pc := 79) f_318_79 rfl rfl rfl ?_
          refine G_gR (pc := 80) f_318_80 (by decide) rfl (by first | assumption | exact hK.1 _ _ rfl) (by first | assumption | exact hK.2 _ _ _ rfl | (try dsimp only) <;> (repeat (first | exact up2_s | refine up2_o (by first | decide | omega) ?_)) <;> first | assumption | exact hK.2 _ _ _ rfl) ?_
          refine G_S (pc := 83) f_318_83 rfl rfl rfl ?_
          refine G_baN (pc := 85) f_318_85 (by first | assumption | exact hK.1 _ _ rfl) (by decide) (by omega) (by omega) (by first | assumption | exact q1 _ (by omega) | exact q2 _ (by omega) | exact q3 _ (by omega) | exact q4 _ (by omega) | exact q5 _ (by omega) | exact vh _ (by omega) | exact (vr _ (by omega)).1 | exact (vr _ (by omega)).2 | exact vw _ (by omega) | exact vf _ (by omega) (by omega) | rfl) ?_
          first | refine G_bEq (pc := 86) f_318_86 rfl (fun b4 => ?_) (fun b4 => ?_) | refine G_zeqZ (pc := 86) f_318_86 rfl (by first | exact nI_toInt (by omega) | exact zI_toInt (by omega) (by omega) | rfl) (fun b4 => ?_) (fun b4 => ?_)
          · refine G_ic (v := nI 0) (pc := 114) f_318_114 (by decide) ?_
            refine G_S (pc := 115) f_318_115 rfl rfl rfl ?_
            refine G_S (pc := 117) f_318_117 rfl rfl rfl ?_
            refine G_S (pc := 119) f_318_119 rfl rfl rfl ?_
            refine G_S (pc := 127) f_318_127 rfl rfl rfl ?_
            refine G_S (pc := 129) f_318_129 rfl rfl rfl ?_
            refine G_S (pc := 131) f_318_131 rfl rfl rfl ?_
            refine G_S (pc := 133) f_318_133 rfl rfl rfl ?_
            refine G_S (pc := 141) f_318_141 rfl rfl rfl ?_
            refine G_S (pc := 143) f_318_143 rfl rfl rfl ?_
            first | refine G_incN (pc := 145) f_318_145 rfl (by decide) ?_ | refine G_incZ (pc := 145) f_318_145 rfl (by first | rfl | exact nI_zI _) ?_ | refine G_S (pc := 145) f_318_145 rfl rfl rfl ?_
            refine G_S (pc := 148) f_318_148 rfl rfl rfl ?_
            have e := ih (by omega)
            rw [show 2 * (i + 1) + 1 = 2 * i + 1 + Int.toNat 2 by omega] at e
            first
              | (rw [bestF_no (show ¬ haP D i = true from fun q => b4 (band.mp q).1)] at e; exact e _ _)
              | (rw [bestF_no (show ¬ haP D i = true from fun q => b5 (band.mp q).2)] at e; exact e _ _)
              | (cases hb : bestF (haP D) (haL D) i with
                 | none =>
                   rw [hb] at b6
                   dsimp only at b6
                   rw [bestF_first (show haP D i = true from band.mpr ⟨b4, b5⟩) hb] at e
                   first
                     | exact e _ _
                     | (exfalso; omega)
                 | some c =>
                   rw [hb] at b6
                   dsimp only at b6
                   first
                     | (rw [bestF_new (show haP D i = true from band.mpr ⟨b4, b5⟩) hb (decide_eq_true (by omega))] at e; exact e _ _)
                     | (rw [bestF_keep hb (fun q => absurd (of_decide_eq_true q) (by omega))] at e; exact e _ _))
          · refine G_S (pc := 89) f_318_89 rfl rfl rfl ?_
            refine G_gR (pc := 90) f_318_90 (by decide) rfl (by first | assumption | exact hK.1 _ _ rfl) (by first | assumption | exact hK.2 _ _ _ rfl | (try dsimp only) <;> (repeat (first | exact up2_s | refine up2_o (by first | decide | omega) ?_)) <;> first | assumption | exact hK.2 _ _ _ rfl) ?_
            refine G_S (pc := 93) f_318_93 rfl rfl rfl ?_
            refine G_S (pc := 94) f_318_94 rfl rfl rfl ?_
            refine G_ic (v := zI (-1)) (pc := 96) f_318_96 (by decide) ?_
            first | refine G_xorN (pc := 97) f_318_97 ?_ | refine G_S (pc := 97) f_318_97 rfl rfl rfl ?_
            first | refine G_andN (pc := 98) f_318_98 ?_ | refine G_andnN (pc := 98) f_318_98 ?_ | refine G_S (pc := 98) f_318_98 rfl rfl rfl ?_
            refine G_baN (pc := 99) f_318_99 (by first | assumption | exact hK.1 _ _ rfl) (by decide) (by rw [xa]; omega) (by omega) (by first | assumption | exact q1 _ (by omega) | exact q2 _ (by omega) | exact q3 _ (by omega) | exact q4 _ (by omega) | exact q5 _ (by omega) | exact vh _ (by omega) | exact (vr _ (by omega)).1 | exact (vr _ (by omega)).2 | exact vw _ (by omega) | exact vf _ (by omega) (by omega) | rfl) ?_
            first | refine G_bEq (pc := 100) f_318_100 rfl (fun b5 => ?_) (fun b5 => ?_) | refine G_zeqZ (pc := 100) f_318_100 rfl (by first | exact nI_toInt (by omega) | exact zI_toInt (by omega) (by omega) | rfl) (fun b5 => ?_) (fun b5 => ?_)
            · refine G_ic (v := nI 0) (pc := 114) f_318_114 (by decide) ?_
              refine G_S (pc := 115) f_318_115 rfl rfl rfl ?_
              refine G_S (pc := 117) f_318_117 rfl rfl rfl ?_
              refine G_S (pc := 119) f_318_119 rfl rfl rfl ?_
              refine G_S (pc := 127) f_318_127 rfl rfl rfl ?_
              refine G_S (pc := 129) f_318_129 rfl rfl rfl ?_
              refine G_S (pc := 131) f_318_131 rfl rfl rfl ?_
              refine G_S (pc := 133) f_318_133 rfl rfl rfl ?_
              refine G_S (pc := 141) f_318_141 rfl rfl rfl ?_
              refine G_S (pc := 143) f_318_143 rfl rfl rfl ?_
              first | refine G_incN (pc := 145) f_318_145 rfl (by decide) ?_ | refine G_incZ (pc := 145) f_318_145 rfl (by first | rfl | exact nI_zI _) ?_ | refine G_S (pc := 145) f_318_145 rfl rfl rfl ?_
              refine G_S (pc := 148) f_318_148 rfl rfl rfl ?_
              have e := ih (by omega)
              rw [show 2 * (i + 1) + 1 = 2 * i + 1 + Int.toNat 2 by omega] at e
              first
                | (rw [bestF_no (show ¬ haP D i = true from fun q => b4 (band.mp q).1)] at e; exact e _ _)
                | (rw [bestF_no (show ¬ haP D i = true from fun q => b5 (band.mp q).2)] at e; exact e _ _)
                | (cases hb : bestF (haP D) (haL D) i with
                   | none =>
                     rw [hb] at b6
                     dsimp only at b6
                     rw [bestF_first (show haP D i = true from band.mpr ⟨b4, b5⟩) hb] at e
                     first
                       | exact e _ _
                       | (exfalso; omega)
                   | some c =>
                     rw [hb] at b6
                     dsimp only at b6
                     first
                       | (rw [bestF_new (show haP D i = true from band.mpr ⟨b4, b5⟩) hb (decide_eq_true (by omega))] at e; exact e _ _)
                       | (rw [bestF_keep hb (fun q => absurd (of_decide_eq_true q) (by omega))] at e; exact e _ _))
            · refine G_S (pc := 103) f_318_103 rfl rfl rfl ?_
              refine G_S (pc := 105) f_318_105 rfl rfl rfl ?_
              refine G_jgeZ (pc := 107) f_318_107 rfl (by first | exact nI_toInt (by omega) | exact zI_toInt (by omega) (by omega) | rfl) hls (fun b6 => ?_) (fun b6 => ?_)
              · refine G_ic (v := nI 0) (pc := 114) f_318_114 (by decide) ?_
                refine G_S (pc := 115) f_318_115 rfl rfl rfl ?_
                refine G_S (pc := 117) f_318_117 rfl rfl rfl ?_
                refine G_S (pc := 119) f_318_119 rfl rfl rfl ?_
                refine G_S (pc := 127) f_318_127 rfl rfl rfl ?_
                refine G_S (pc := 129) f_318_129 rfl rfl rfl ?_
                refine G_S (pc := 131) f_318_131 rfl rfl rfl ?_
                refine G_S (pc := 133) f_318_133 rfl rfl rfl ?_
                refine G_S (pc := 141) f_318_141 rfl rfl rfl ?_
                refine G_S (pc := 143) f_318_143 rfl rfl rfl ?_
                first | refine G_incN (pc := 145) f_318_145 rfl (by decide) ?_ | refine G_incZ (pc := 145) f_318_145 rfl (by first | rfl | exact nI_zI _) ?_ | refine G_S (pc := 145) f_318_145 rfl rfl rfl ?_
                refine G_S (pc := 148) f_318_148 rfl rfl rfl ?_
                have e := ih (by omega)
                rw [show 2 * (i + 1) + 1 = 2 * i + 1 + Int.toNat 2 by omega] at e
                first
                  | (rw [bestF_no (show ¬ haP D i = true from fun q => b4 (band.mp q).1)] at e; exact e _ _)
                  | (rw [bestF_no (show ¬ haP D i = true from fun q => b5 (band.mp q).2)] at e; exact e _ _)
                  | (cases hb : bestF (haP D) (haL D) i with
                     | none =>
                       rw [hb] at b6
                       dsimp only at b6
                       rw [bestF_first (show haP D i = true from band.mpr ⟨b4, b5⟩) hb] at e
                       first
                         | exact e _ _
                         | (exfalso; omega)
                     | some c =>
                       rw [hb] at b6
                       dsimp only at b6
                       first
                         | (rw [bestF_new (show haP D i = true from band.mpr ⟨b4, b5⟩) hb (decide_eq_true (by omega))] at e; exact e _ _)
                         | (rw [bestF_keep hb (fun q => absurd (of_decide_eq_true q) (by omega))] at e; exact e _ _))
              · refine G_ic (v := nI 1) (pc := 110) f_318_110 (by decide) ?_
                refine G_S (pc := 111) f_318_111 rfl rfl rfl ?_
                refine G_S (pc := 115) f_318_115 rfl rfl rfl ?_
                refine G_S (pc := 117) f_318_117 rfl rfl rfl ?_
                refine G_S (pc := 119) f_318_119 rfl rfl rfl ?_
                refine G_S (pc := 122) f_318_122 rfl rfl rfl ?_
                refine G_S (pc := 124) f_318_124 rfl rfl rfl ?_
                refine G_S (pc := 129) f_318_129 rfl rfl rfl ?_
                refine G_S (pc := 131) f_318_131 rfl rfl rfl ?_
                refine G_S (pc := 133) f_318_133 rfl rfl rfl ?_
                refine G_S (pc := 136) f_318_136 rfl rfl rfl ?_
                refine G_S (pc := 138) f_318_138 rfl rfl rfl ?_
                refine G_S (pc := 143) f_318_143 rfl rfl rfl ?_
                first | refine G_incN (pc := 145) f_318_145 rfl (by decide) ?_ | refine G_incZ (pc := 145) f_318_145 rfl (by first | rfl | exact nI_zI _) ?_ | refine G_S (pc := 145) f_318_145 rfl rfl rfl ?_
                refine G_S (pc := 148) f_318_148 rfl rfl rfl ?_
                have e := ih (by omega)
                rw [show 2 * (i + 1) + 1 = 2 * i + 1 + Int.toNat 2 by omega] at e
                first
                  | (rw [bestF_no (show ¬ haP D i = true from fun q => b4 (band.mp q).1)] at e; exact e _ _)
                  | (rw [bestF_no (show ¬ haP D i = true from fun q => b5 (band.mp q).2)] at e; exact e _ _)
                  | (cases hb : bestF (haP D) (haL D) i with
                     | none =>
                       rw [hb] at b6
                       dsimp only at b6
                       rw [bestF_first (show haP D i = true from band.mpr ⟨b4, b5⟩) hb] at e
                       first
                         | exact e _ _
                         | (exfalso; omega)
                     | some c =>
                       rw [hb] at b6
                       dsimp only at b6
                       first
                         | (rw [bestF_new (show haP D i = true from band.mpr ⟨b4, b5⟩) hb (decide_eq_true (by omega))] at e; exact e _ _)
                         | (rw [bestF_keep hb (fun q => absurd (of_decide_eq_true q) (by omega))] at e; exact e _ _))
        · refine G_S (pc := 69) f_318_69 rfl rfl rfl ?_
          first | refine G_negZ (pc := 71) f_318_71 (by first | rfl | exact nI_zI _) ?_ | refine G_S (pc := 71) f_318_71 rfl rfl rfl ?_
          refine G_S (pc := 72) f_318_72 rfl rfl rfl ?_
          refine G_S (pc := 77) f_318_77 rfl rfl rfl ?_
          first | rw [absP b3] | rw [absN b3]
          rw [← hd3]
          refine G_S (pc := 79) f_318_79 rfl rfl rfl ?_
          refine G_gR (pc := 80) f_318_80 (by decide) rfl (by first | assumption | exact hK.1 _ _ rfl) (by first | assumption | exact hK.2 _ _ _ rfl | (try dsimp only) <;> (repeat (first | exact up2_s | refine up2_o (by first | decide | omega) ?_)) <;> first | assumption | exact hK.2 _ _ _ rfl) ?_
          refine G_S (pc := 83) f_318_83 rfl rfl rfl ?_
          refine G_baN (pc := 85) f_318_85 (by first | assumption | exact hK.1 _ _ rfl) (by decide) (by omega) (by omega) (by first | assumption | exact q1 _ (by omega) | exact q2 _ (by omega) | exact q3 _ (by omega) | exact q4 _ (by omega) | exact q5 _ (by omega) | exact vh _ (by omega) | exact (vr _ (by omega)).1 | exact (vr _ (by omega)).2 | exact vw _ (by omega) | exact vf _ (by omega) (by omega) | rfl) ?_
          first | refine G_bEq (pc := 86) f_318_86 rfl (fun b4 => ?_) (fun b4 => ?_) | refine G_zeqZ (pc := 86) f_318_86 rfl (by first | exact nI_toInt (by omega) | exact zI_toInt (by omega) (by omega) | rfl) (fun b4 => ?_) (fun b4 => ?_)
          · refine G_ic (v := nI 0) (pc := 114) f_318_114 (by decide) ?_
            refine G_S (pc := 115) f_318_115 rfl rfl rfl ?_
            refine G_S (pc := 117) f_318_117 rfl rfl rfl ?_
            refine G_S (pc := 119) f_318_119 rfl rfl rfl ?_
            refine G_S (pc := 127) f_318_127 rfl rfl rfl ?_
            refine G_S (pc := 129) f_318_129 rfl rfl rfl ?_
            refine G_S (pc := 131) f_318_131 rfl rfl rfl ?_
            refine G_S (pc := 133) f_318_133 rfl rfl rfl ?_
            refine G_S (pc := 141) f_318_141 rfl rfl rfl ?_
            refine G_S (pc := 143) f_318_143 rfl rfl rfl ?_
            first | refine G_incN (pc := 145) f_318_145 rfl (by decide) ?_ | refine G_incZ (pc := 145) f_318_145 rfl (by first | rfl | exact nI_zI _) ?_ | refine G_S (pc := 145) f_318_145 rfl rfl rfl ?_
            refine G_S (pc := 148) f_318_148 rfl rfl rfl ?_
            have e := ih (by omega)
            rw [show 2 * (i + 1) + 1 = 2 * i + 1 + Int.toNat 2 by omega] at e
            first
              | (rw [bestF_no (show ¬ haP D i = true from fun q => b4 (band.mp q).1)] at e; exact e _ _)
              | (rw [bestF_no (show ¬ haP D i = true from fun q => b5 (band.mp q).2)] at e; exact e _ _)
              | (cases hb : bestF (haP D) (haL D) i with
                 | none =>
                   rw [hb] at b6
                   dsimp only at b6
                   rw [bestF_first (show haP D i = true from band.mpr ⟨b4, b5⟩) hb] at e
                   first
                     | exact e _ _
                     | (exfalso; omega)
                 | some c =>
                   rw [hb] at b6
                   dsimp only at b6
                   first
                     | (rw [bestF_new (show haP D i = true from band.mpr ⟨b4, b5⟩) hb (decide_eq_true (by omega))] at e; exact e _ _)
                     | (rw [bestF_keep hb (fun q => absurd (of_decide_eq_true q) (by omega))] at e; exact e _ _))
          · refine G_S (pc := 89) f_318_89 rfl rfl rfl ?_
            refine G_gR (pc := 90) f_318_90 (by decide) rfl (by first | assumption | exact hK.1 _ _ rfl) (by first | assumption | exact hK.2 _ _ _ rfl | (try dsimp only) <;> (repeat (first | exact up2_s | refine up2_o (by first | decide | omega) ?_)) <;> first | assumption | exact hK.2 _ _ _ rfl) ?_
            refine G_S (pc := 93) f_318_93 rfl rfl rfl ?_
            refine G_S (pc := 94) f_318_94 rfl rfl rfl ?_
            refine G_ic (v := zI (-1)) (pc := 96) f_318_96 (by decide) ?_
            first | refine G_xorN (pc := 97) f_318_97 ?_ | refine G_S (pc := 97) f_318_97 rfl rfl rfl ?_
            first | refine G_andN (pc := 98) f_318_98 ?_ | refine G_andnN (pc := 98) f_318_98 ?_ | refine G_S (pc := 98) f_318_98 rfl rfl rfl ?_
            refine G_baN (pc := 99) f_318_99 (by first | assumption | exact hK.1 _ _ rfl) (by decide) (by rw [xa]; omega) (by omega) (by first | assumption | exact q1 _ (by omega) | exact q2 _ (by omega) | exact q3 _ (by omega) | exact q4 _ (by omega) | exact q5 _ (by omega) | exact vh _ (by omega) | exact (vr _ (by omega)).1 | exact (vr _ (by omega)).2 | exact vw _ (by omega) | exact vf _ (by omega) (by omega) | rfl) ?_
            first | refine G_bEq (pc := 100) f_318_100 rfl (fun b5 => ?_) (fun b5 => ?_) | refine G_zeqZ (pc := 100) f_318_100 rfl (by first | exact nI_toInt (by omega) | exact zI_toInt (by omega) (by omega) | rfl) (fun b5 => ?_) (fun b5 => ?_)
            · refine G_ic (v := nI 0) (pc := 114) f_318_114 (by decide) ?_
              refine G_S (pc := 115) f_318_115 rfl rfl rfl ?_
              refine G_S (pc := 117) f_318_117 rfl rfl rfl ?_
              refine G_S (pc := 119) f_318_119 rfl rfl rfl ?_
              refine G_S (pc := 127) f_318_127 rfl rfl rfl ?_
              refine G_S (pc := 129) f_318_129 rfl rfl rfl ?_
              refine G_S (pc := 131) f_318_131 rfl rfl rfl ?_
              refine G_S (pc := 133) f_318_133 rfl rfl rfl ?_
              refine G_S (pc := 141) f_318_141 rfl rfl rfl ?_
              refine G_S (pc := 143) f_318_143 rfl rfl rfl ?_
              first | refine G_incN (pc := 145) f_318_145 rfl (by decide) ?_ | refine G_incZ (pc := 145) f_318_145 rfl (by first | rfl | exact nI_zI _) ?_ | refine G_S (pc := 145) f_318_145 rfl rfl rfl ?_
              refine G_S (pc := 148) f_318_148 rfl rfl rfl ?_
              have e := ih (by omega)
              rw [show 2 * (i + 1) + 1 = 2 * i + 1 + Int.toNat 2 by omega] at e
              first
                | (rw [bestF_no (show ¬ haP D i = true from fun q => b4 (band.mp q).1)] at e; exact e _ _)
                | (rw [bestF_no (show ¬ haP D i = true from fun q => b5 (band.mp q).2)] at e; exact e _ _)
                | (cases hb : bestF (haP D) (haL D) i with
                   | none =>
                     rw [hb] at b6
                     dsimp only at b6
                     rw [bestF_first (show haP D i = true from band.mpr ⟨b4, b5⟩) hb] at e
                     first
                       | exact e _ _
                       | (exfalso; omega)
                   | some c =>
                     rw [hb] at b6
                     dsimp only at b6
                     first
                       | (rw [bestF_new (show haP D i = true from band.mpr ⟨b4, b5⟩) hb (decide_eq_true (by omega))] at e; exact e _ _)
                       | (rw [bestF_keep hb (fun q => absurd (of_decide_eq_true q) (by omega))] at e; exact e _ _))
            · refine G_S (pc := 103) f_318_103 rfl rfl rfl ?_
              refine G_S (pc := 105) f_318_105 rfl rfl rfl ?_
              refine G_jgeZ (pc := 107) f_318_107 rfl (by first | exact nI_toInt (by omega) | exact zI_toInt (by omega) (by omega) | rfl) hls (fun b6 => ?_) (fun b6 => ?_)
              · refine G_ic (v := nI 0) (pc := 114) f_318_114 (by decide) ?_
                refine G_S (pc := 115) f_318_115 rfl rfl rfl ?_
                refine G_S (pc := 117) f_318_117 rfl rfl rfl ?_
                refine G_S (pc := 119) f_318_119 rfl rfl rfl ?_
                refine G_S (pc := 127) f_318_127 rfl rfl rfl ?_
                refine G_S (pc := 129) f_318_129 rfl rfl rfl ?_
                refine G_S (pc := 131) f_318_131 rfl rfl rfl ?_
                refine G_S (pc := 133) f_318_133 rfl rfl rfl ?_
                refine G_S (pc := 141) f_318_141 rfl rfl rfl ?_
                refine G_S (pc := 143) f_318_143 rfl rfl rfl ?_
                first | refine G_incN (pc := 145) f_318_145 rfl (by decide) ?_ | refine G_incZ (pc := 145) f_318_145 rfl (by first | rfl | exact nI_zI _) ?_ | refine G_S (pc := 145) f_318_145 rfl rfl rfl ?_
                refine G_S (pc := 148) f_318_148 rfl rfl rfl ?_
                have e := ih (by omega)
                rw [show 2 * (i + 1) + 1 = 2 * i + 1 + Int.toNat 2 by omega] at e
                first
                  | (rw [bestF_no (show ¬ haP D i = true from fun q => b4 (band.mp q).1)] at e; exact e _ _)
                  | (rw [bestF_no (show ¬ haP D i = true from fun q => b5 (band.mp q).2)] at e; exact e _ _)
                  | (cases hb : bestF (haP D) (haL D) i with
                     | none =>
                       rw [hb] at b6
                       dsimp only at b6
                       rw [bestF_first (show haP D i = true from band.mpr ⟨b4, b5⟩) hb] at e
                       first
                         | exact e _ _
                         | (exfalso; omega)
                     | some c =>
                       rw [hb] at b6
                       dsimp only at b6
                       first
                         | (rw [bestF_new (show haP D i = true from band.mpr ⟨b4, b5⟩) hb (decide_eq_true (by omega))] at e; exact e _ _)
                         | (rw [bestF_keep hb (fun q => absurd (of_decide_eq_true q) (by omega))] at e; exact e _ _))
              · refine G_ic (v := nI 1) (pc := 110) f_318_110 (by decide) ?_
                refine G_S (pc := 111) f_318_111 rfl rfl rfl ?_
                refine G_S (pc := 115) f_318_115 rfl rfl rfl ?_
                refine G_S (pc := 117) f_318_117 rfl rfl rfl ?_
                refine G_S (pc := 119) f_318_119 rfl rfl rfl ?_
                refine G_S (pc := 122) f_318_122 rfl rfl rfl ?_
                refine G_S (pc := 124) f_318_124 rfl rfl rfl ?_
                refine G_S (pc := 129) f_318_129 rfl rfl rfl ?_
                refine G_S (pc := 131) f_318_131 rfl rfl rfl ?_
                refine G_S (pc := 133) f_318_133 rfl rfl rfl ?_
                refine G_S (pc := 136) f_318_136 rfl rfl rfl ?_
                refine G_S (pc := 138) f_318_138 rfl rfl rfl ?_
                refine G_S (pc := 143) f_318_143 rfl rfl rfl ?_
                first | refine G_incN (pc := 145) f_318_145 rfl (by decide) ?_ | refine G_incZ (pc := 145) f_318_145 rfl (by first | rfl | exact nI_zI _) ?_ | refine G_S (pc := 145) f_318_145 rfl rfl rfl ?_
                refine G_S (pc := 148) f_318_148 rfl rfl rfl ?_
                have e := ih (by omega)
                rw [show 2 * (i + 1) + 1 = 2 * i + 1 + Int.toNat 2 by omega] at e
                first
                  | (rw [bestF_no (show ¬ haP D i = true from fun q => b4 (band.mp q).1)] at e; exact e _ _)
                  | (rw [bestF_no (show ¬ haP D i = true from fun q => b5 (band.mp q).2)] at e; exact e _ _)
                  | (cases hb : bestF (haP D) (haL D) i with
                     | none =>
                       rw [hb] at b6
                       dsimp only at b6
                       rw [bestF_first (show haP D i = true from band.mpr ⟨b4, b5⟩) hb] at e
                       first
                         | exact e _ _
                         | (exfalso; omega)
                     | some c =>
                       rw [hb] at b6
                       dsimp only at b6
                       first
                         | (rw [bestF_new (show haP D i = true from band.mpr ⟨b4, b5⟩) hb (decide_eq_true (by omega))] at e; exact e _ _)
                         | (rw [bestF_keep hb (fun q => absurd (of_decide_eq_true q) (by omega))] at e; exact e _ _))
    refine CG_in (mL := 9) (hl := false) (lv := [some (.ref 98), some (.int k), some (.int x), none, none, none, none, none, none]) (ll := []) rfl rfl rfl ?_
    refine G_S (pc := 0) f_318_0 rfl rfl rfl ?_
    refine G_ic (v := nI 0) (pc := 1) f_318_1 (by decide) ?_
    refine G_pI (pc := 2) f_318_2 rfl (by first | assumption | exact hK.1 _ _ rfl) ?_
    refine G_S (pc := 5) f_318_5 rfl rfl rfl ?_
    refine G_S (pc := 6) f_318_6 rfl rfl rfl ?_
    refine G_CV (pc := 7) f_318_7 rfl rfl (by decide) rfl rfl (by first | assumption | exact hK.1 _ _ rfl) (by decide) ⟨Nat.le_of_ble_eq_true rfl, Nat.le_of_ble_eq_true rfl⟩ ?_
    refine CG.mono (g_handS (W.q mQ.cod) hl) ?_
    rintro _ M1 ⟨rfl, hQ, l, W1⟩
    have hK := W1.1
    have hH := W1.2
    obtain ⟨⟨a0, a1, a2, a3⟩, hl8, hD, ao⟩ := W1.2
    have hn0 : _ ≤ 8 := hD.1
    have hn1 : _ ≤ 6 := hD.2.1.2
    have hn2 : _ ≤ 8 := hD.2.2.1
    have hQ := mQ.cod.tr hQ
    first | refine G_bNe (pc := 10) f_318_10 rfl (fun b1 => ?_) (fun b1 => ?_) | refine G_zneZ (pc := 10) f_318_10 rfl (by first | exact nI_toInt (by omega) | exact zI_toInt (by omega) (by omega) | rfl) (fun b1 => ?_) (fun b1 => ?_)
    · refine G_S (pc := 15) f_318_15 rfl rfl rfl ?_
      refine G_CV (pc := 16) f_318_16 rfl rfl (by decide) rfl rfl (by first | assumption | exact hK.1 _ _ rfl) (by decide) ⟨Nat.le_of_ble_eq_true rfl, Nat.le_of_ble_eq_true rfl⟩ ?_
      refine CG.mono (g_findGets W1) ?_
      rintro _ M2 ⟨rfl, hF, Y⟩
      have hK := Y.1.1
      have hH := Y.1.2
      obtain ⟨⟨a0, a1, a2, a3⟩, hl8, hD, ao⟩ := Y.1.2
      have hn0 : _ ≤ 8 := hD.1
      have hn1 : _ ≤ 6 := hD.2.1.2
      have hn2 : _ ≤ 8 := hD.2.2.1
      have q1 := Y.2
      have hp := pw_le _ (Nat.lt_succ_of_le hn2)
      have hp1 := Nat.two_pow_pos (D 2)
      refine G_ic (v := nI 1) (pc := 19) f_318_19 (by decide) ?_
      refine G_S (pc := 20) f_318_20 rfl rfl rfl ?_
      refine G_gIv (pc := 21) f_318_21 (by decide) rfl (by decide) (by first | assumption | exact hK.1 _ _ rfl) (by first | assumption | (try dsimp only) <;> (repeat (first | exact up2_s | refine up2_o (by first | decide | omega) ?_)) <;> first | assumption | rfl) ?_
      first | refine G_shl1 (pc := 24) f_318_24 (by omega) ?_ | refine G_S (pc := 24) f_318_24 rfl rfl rfl ?_
      refine G_ic (v := nI 1) (pc := 25) f_318_25 (by decide) ?_
      first | refine G_subN (pc := 26) f_318_26 (by omega) ?_ | refine G_subZ (pc := 26) f_318_26 (by first | rfl | exact nI_zI _) (by first | rfl | exact nI_zI _) ?_ | refine G_S (pc := 26) f_318_26 rfl rfl rfl ?_
      refine G_S (pc := 27) f_318_27 rfl rfl rfl ?_
      refine G_ic (v := zI (-1)) (pc := 28) f_318_28 (by decide) ?_
      refine G_S (pc := 29) f_318_29 rfl rfl rfl ?_
      refine G_lc (v := zI 1000000) (pc := 31) f_318_31 rfl (by decide) ?_
      refine G_S (pc := 34) f_318_34 rfl rfl rfl ?_
      refine G_ic (v := nI 1) (pc := 36) f_318_36 (by decide) ?_
      refine G_S (pc := 37) f_318_37 rfl rfl rfl ?_
      exact G.mono (loop l M2 Y 0 (Nat.zero_le _) _ _) (fun w M9 g => ⟨g.1, by rw [g.2]; exact hQ.tr (hF.q (by decide))⟩)
    · exact absurd trivial b1
end MZ
