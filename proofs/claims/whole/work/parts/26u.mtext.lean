/-! the reference: text put at a place; text whole -/
section MTU
variable {C : Ct} {M : Mm} {s : Sg} {so m : Nat} {x y : Int32}
theorem m_textP2 (hK : KM M.1 M.2.2.2) (h : MSl M 0 s) (hs : SgOK s) (hso : so < 4) (hm : m < s.ct so) (hf : (rdF s.tp s.len so).1.1 = 0) (hE : EOs so (rdF s.tp s.len so).2) : CG C 223 [.ref 98, .int (nI so), .int (nI m)] M (fun w M' => w = some (.int (nI m)) ∧ RMq M M' (ptF (txE s (rdF s.tp s.len so).1) so m (rdF s.tp s.len so).2)) := by
  have h1 := h.1.1
  have h2 := hs.2.2.2.2 so
  have q := hdX_q (n := s.len) h
  have hc := q.2.1.2.2.1 so hso
  rw [Nat.mul_zero, Nat.zero_add] at hc
  have hm2 : m < 2 := by omega
  have hi : 0 ≤ (nI m).toInt ∧ (nI m).toInt < (s.ct so : Int) := by
    rw [nI_toInt (by omega)]
    omega
  have W : MTp (M.1, hdX M.2.1 s.len, M.2.2.1, M.2.2.2) s.tp s.len := ⟨hK, (hdX_0 (X := M.2.1) (n := s.len)).2.2.2, hs.1, fun i hi => ⟨by
    dsimp only
    rw [hdX_o (i := 99) (by decide)]
    have a := h.2.1 i hi
    rwa [Nat.mul_zero, Nat.zero_add] at a, hs.2.1 i hi⟩⟩
  unfold hdX at q hc W
  refine CG_in (mL := 4) (hl := false) (lv := [some (.ref 98), some (.int (nI so)), some (.int (nI m)), none]) (ll := []) rfl rfl rfl ?_
  refine G_S (pc := 0) f_223_0 rfl rfl rfl ?_
  refine G_ic (v := nI 0) (pc := 1) f_223_1 (by decide) ?_
  refine G_pI (pc := 2) f_223_2 rfl (by first | assumption | exact hK.1 _ _ rfl) ?_
  refine G_S (pc := 5) f_223_5 rfl rfl rfl ?_
  refine G_S (pc := 6) f_223_6 rfl rfl rfl ?_
  refine G_gR (pc := 7) f_223_7 (by decide) rfl (by first | assumption | exact hK.1 _ _ rfl) (by first | assumption | exact hK.2 _ _ _ rfl | (try dsimp only) <;> (repeat (first | exact up2_s | refine up2_o (by first | decide | omega) ?_)) <;> first | assumption | exact hK.2 _ _ _ rfl) ?_
  refine G_ic (v := nI 0) (pc := 10) f_223_10 (by decide) ?_
  refine G_iaN (pc := 11) f_223_11 (by first | assumption | exact hK.1 _ _ rfl) (by omega) (by omega) (by first | exact (mI_o (by omega) h1) | rfl) ?_
  refine G_pI (pc := 12) f_223_12 rfl (by first | assumption | exact hK.1 _ _ rfl) ?_
  refine G_S (pc := 15) f_223_15 rfl rfl rfl ?_
  refine G_gR (pc := 16) f_223_16 (by decide) rfl (by first | assumption | exact hK.1 _ _ rfl) (by first | assumption | exact hK.2 _ _ _ rfl | (try dsimp only) <;> (repeat (first | exact up2_s | refine up2_o (by first | decide | omega) ?_)) <;> first | assumption | exact hK.2 _ _ _ rfl) ?_
  refine G_ic (v := nI 0) (pc := 19) f_223_19 (by decide) ?_
  refine G_ic (v := nI 0) (pc := 20) f_223_20 (by decide) ?_
  refine G_isN (pc := 21) f_223_21 (by first | assumption | exact hK.1 _ _ rfl) (by omega) (by omega) ?_
  refine G_S (pc := 22) f_223_22 rfl rfl rfl ?_
  refine G_gR (pc := 23) f_223_23 (by decide) rfl (by first | assumption | exact hK.1 _ _ rfl) (by first | assumption | exact hK.2 _ _ _ rfl | (try dsimp only) <;> (repeat (first | exact up2_s | refine up2_o (by first | decide | omega) ?_)) <;> first | assumption | exact hK.2 _ _ _ rfl) ?_
  refine G_ic (v := nI 0) (pc := 26) f_223_26 (by decide) ?_
  refine G_ic (v := nI 0) (pc := 27) f_223_27 (by decide) ?_
  refine G_isN (pc := 28) f_223_28 (by first | assumption | exact hK.1 _ _ rfl) (by omega) (by omega) ?_
  refine G_S (pc := 29) f_223_29 rfl rfl rfl ?_
  refine G_gR (pc := 30) f_223_30 (by decide) rfl (by first | assumption | exact hK.1 _ _ rfl) (by first | assumption | exact hK.2 _ _ _ rfl | (try dsimp only) <;> (repeat (first | exact up2_s | refine up2_o (by first | decide | omega) ?_)) <;> first | assumption | exact hK.2 _ _ _ rfl) ?_
  refine G_ic (v := nI 0) (pc := 33) f_223_33 (by decide) ?_
  refine G_ic (v := zI (-1)) (pc := 34) f_223_34 (by decide) ?_
  refine G_isN (pc := 35) f_223_35 (by first | assumption | exact hK.1 _ _ rfl) (by omega) (by omega) ?_
  refine G_S (pc := 36) f_223_36 rfl rfl rfl ?_
  refine G_ic (v := nI 0) (pc := 37) f_223_37 (by decide) ?_
  refine G_ic (v := nI 3) (pc := 38) f_223_38 (by decide) ?_
  refine G_CS (pc := 39) f_223_39 rfl rfl (by decide) rfl rfl ⟨Nat.le_of_ble_eq_true rfl, Nat.le_of_ble_eq_true rfl⟩ ?_
  refine CG.go (m_inZ (by first | exact nI_toInt (by omega) | exact zI_toInt (by omega) (by omega) | rfl) (by first | exact nI_toInt (by omega) | exact zI_toInt (by omega) (by omega) | rfl) (by first | exact nI_toInt (by omega) | exact zI_toInt (by omega) (by omega) | rfl)) ?_
  first | refine G_bEq (pc := 42) f_223_42 rfl (fun b1 => ?_) (fun b1 => ?_) | refine G_zeqZ (pc := 42) f_223_42 rfl (by first | exact nI_toInt (by omega) | exact zI_toInt (by omega) (by omega) | rfl) (fun b1 => ?_) (fun b1 => ?_)
  · exfalso; omega
  · refine G_S (pc := 45) f_223_45 rfl rfl rfl ?_
    refine G_ic (v := zI (-1)) (pc := 46) f_223_46 (by decide) ?_
    refine G_jneZ (pc := 47) f_223_47 rfl (by first | exact nI_toInt (by omega) | exact zI_toInt (by omega) (by omega) | rfl) (by first | exact nI_toInt (by omega) | exact zI_toInt (by omega) (by omega) | rfl) (fun b2 => ?_) (fun b2 => ?_)
    · refine G_S (pc := 63) f_223_63 rfl rfl rfl ?_
      refine G_S (pc := 64) f_223_64 rfl rfl rfl ?_
      refine G_S (pc := 65) f_223_65 rfl rfl rfl ?_
      refine G_CV (pc := 66) f_223_66 rfl rfl (by decide) rfl rfl (by first | assumption | exact hK.1 _ _ rfl) (by decide) ⟨Nat.le_of_ble_eq_true rfl, Nat.le_of_ble_eq_true rfl⟩ ?_
      refine CG.mono (m_isT (n := s.ct so) hK hso hc h2) ?_
      rintro _ M0 ⟨rfl, rfl⟩
      rw [b2i_pos hi]
      first | refine G_bNe (pc := 69) f_223_69 rfl (fun b4 => ?_) (fun b4 => ?_) | refine G_zneZ (pc := 69) f_223_69 rfl (by first | exact nI_toInt (by omega) | exact zI_toInt (by omega) (by omega) | rfl) (fun b4 => ?_) (fun b4 => ?_)
      · refine G_S (pc := 75) f_223_75 rfl rfl rfl ?_
        refine G_S (pc := 76) f_223_76 rfl rfl rfl ?_
        refine G_CV (pc := 77) f_223_77 rfl rfl (by decide) rfl rfl (by first | assumption | exact hK.1 _ _ rfl) (by decide) ⟨Nat.le_of_ble_eq_true rfl, Nat.le_of_ble_eq_true rfl⟩ ?_
        refine CG.mono (m_readText W hso) ?_
        rintro _ M1 ⟨rfl, r2⟩
        rw [b2i_pos hf]
        have q5 := rd_q q (w := some (.int (b2i ((rdF s.tp s.len so).1.1 = 0)))) ⟨rfl, r2⟩
        have hK := r2.1.K hK
        have hc5 := q5.2.1.2.2.1 so hso
        rw [Nat.mul_zero, Nat.zero_add] at hc5
        have T := r2.2.2.2.1 hf
        first | refine G_bNe (pc := 80) f_223_80 rfl (fun b5 => ?_) (fun b5 => ?_) | refine G_zneZ (pc := 80) f_223_80 rfl (by first | exact nI_toInt (by omega) | exact zI_toInt (by omega) (by omega) | rfl) (fun b5 => ?_) (fun b5 => ?_)
        · refine G_S (pc := 85) f_223_85 rfl rfl rfl ?_
          refine G_ic (v := zI (-1)) (pc := 86) f_223_86 (by decide) ?_
          refine G_jneZ (pc := 87) f_223_87 rfl (by first | exact nI_toInt (by omega) | exact zI_toInt (by omega) (by omega) | rfl) (by first | exact nI_toInt (by omega) | exact zI_toInt (by omega) (by omega) | rfl) (fun b6 => ?_) (fun b6 => ?_)
          · refine G_S (pc := 99) f_223_99 rfl rfl rfl ?_
            refine G_S (pc := 100) f_223_100 rfl rfl rfl ?_
            refine G_S (pc := 101) f_223_101 rfl rfl rfl ?_
            refine G_gR (pc := 102) f_223_102 (by decide) rfl (by first | assumption | exact hK.1 _ _ rfl) (by first | assumption | exact hK.2 _ _ _ rfl | (try dsimp only) <;> (repeat (first | exact up2_s | refine up2_o (by first | decide | omega) ?_)) <;> first | assumption | exact hK.2 _ _ _ rfl) ?_
            refine G_S (pc := 105) f_223_105 rfl rfl rfl ?_
            refine G_S (pc := 106) f_223_106 rfl rfl rfl ?_
            refine G_iaN (pc := 107) f_223_107 (by first | assumption | exact hK.1 _ _ rfl) (by omega) (by omega) (by first | exact (show _ = nI (s.ct so) from hc5) | rfl) ?_
            refine G_S (pc := 108) f_223_108 rfl rfl rfl ?_
            refine G_ic (v := zI (-1)) (pc := 109) f_223_109 (by decide) ?_
            refine G_jneZ (pc := 110) f_223_110 rfl (by first | exact nI_toInt (by omega) | exact zI_toInt (by omega) (by omega) | rfl) (by first | exact nI_toInt (by omega) | exact zI_toInt (by omega) (by omega) | rfl) (fun b7 => ?_) (fun b7 => ?_)
            · refine G_ic (v := nI 0) (pc := 117) f_223_117 (by decide) ?_
              first | refine G_addN (pc := 118) f_223_118 ?_ | refine G_addZ (pc := 118) f_223_118 (by first | rfl | exact nI_zI _) (by first | rfl | exact nI_zI _) ?_ | refine G_S (pc := 118) f_223_118 rfl rfl rfl ?_
              refine G_isN (pc := 119) f_223_119 (by first | assumption | exact hK.1 _ _ rfl) (by omega) (by omega) ?_
              refine G_S (pc := 120) f_223_120 rfl rfl rfl ?_
              refine G_S (pc := 121) f_223_121 rfl rfl rfl ?_
              refine G_S (pc := 122) f_223_122 rfl rfl rfl ?_
              refine G_CV (pc := 123) f_223_123 rfl rfl (by decide) rfl rfl (by first | assumption | exact hK.1 _ _ rfl) (by decide) ⟨Nat.le_of_ble_eq_true rfl, Nat.le_of_ble_eq_true rfl⟩ ?_
              refine CG.mono (m_storeAll hK hso hm2) ?_
              rintro _ M2 ⟨rfl, X, rfl, p1, p2, p3⟩
              dsimp only at p1 p2 p3
              refine G_S (pc := 126) f_223_126 rfl rfl rfl ?_
              refine G_ri (pc := 127) f_223_127 ?_
              have p2' : ∀ j, j < wdN so → X (104 + so) (wdN so * m + j) = M1.2.1 108 j := fun j hj => (p2 j hj).trans (by rw [up2_ne (by decide)])
              have p3' : ∀ j, j < wdN so * m ∨ wdN so * m + wdN so ≤ j → X (104 + so) j = M1.2.1 (104 + so) j := fun j hj => (p3 j hj).trans (by rw [up2_ne (by omega)])
              refine ⟨rfl, pt_q (M1 := M1) q5 hso hm2 (Nat.le_of_lt hm) hE T (fun i hi => ?_) p2' p3'⟩
              have e : max ((txE s (rdF s.tp s.len so).1).ct so) (m + 1) = s.ct so := Nat.max_eq_left hm
              rw [e]
              exact p1 i hi
            · exfalso; omega
          · exfalso; omega
        · exact absurd b5 (by decide)
      · exact absurd b4 (by decide)
    · exfalso; omega
theorem m_text (hK : KM M.1 M.2.2.2) (h : MSl M 0 s) (hs : SgOK s) (hp : TXp s x y) : CG C 223 [.ref 98, .int x, .int y] M (fun w M' => w = some (.int (txF s x y).1) ∧ RMq M M' (txF s x y).2) := by
  by_cases ht : tkQ s x y = true
  · have hq := of_decide_eq_true ht
    obtain ⟨so, rfl, ex, -⟩ := nI_tt (x := x) hq.1.1
    have hso : so < 4 := by omega
    have e : txF s (nI so) y = if (rdF s.tp s.len so).1.1 = 0 then (nI (txN s so y), ptF (txE s (rdF s.tp s.len so).1) so (txN s so y) (rdF s.tp s.len so).2) else (zI (-1), txE s (rdF s.tp s.len so).1) := by
      unfold txF
      rw [if_pos ht, ex, Int.toNat_natCast]
    have hq2 := hq.2
    rw [ex, Int.toNat_natCast] at hq2
    unfold TXp at hp
    rw [ex, Int.toNat_natCast] at hp
    have h2 := hs.2.2.2.2 so
    rw [e]
    by_cases h0 : (rdF s.tp s.len so).1.1 = 0
    · rw [if_pos h0]
      have hE := hp ht h0
      by_cases hy : y.toInt = -1
      · have em : txN s so y = s.ct so := if_pos hy
        rw [em]
        exact m_textP1 hK h hs hso hy (by omega) h0 hE
      · obtain ⟨m, rfl, ey, -⟩ := nI_tt (x := y) (by omega)
        have em : txN s so (nI m) = m := by unfold txN; rw [if_neg hy, ey, Int.toNat_natCast]
        rw [em]
        exact m_textP2 hK h hs hso (by omega) h0 hE
    · rw [if_neg h0]
      by_cases hy : y.toInt = -1
      · exact m_textE1 hK h hs hso hy (by omega) h0
      · exact m_textE2 hK h hs hso hy (by omega) h0
  · have e : txF s x y = (zI (-2), txE s (0, 0)) := if_neg ht
    rw [e]
    by_cases hx : 0 ≤ x.toInt ∧ x.toInt ≤ 3
    · obtain ⟨so, rfl, ex, -⟩ := nI_tt (x := x) hx.1
      have hso : so < 4 := by omega
      have h2 := hs.2.2.2.2 so
      have hn : ¬ ((y.toInt = -1 ∧ s.ct so < 2) ∨ (0 ≤ y.toInt ∧ y.toInt < (s.ct so : Int))) := fun z => ht (decide_eq_true ⟨hx, by rw [ex, Int.toNat_natCast]; exact z⟩)
      by_cases hy : y.toInt = -1
      · exact m_textF hK h hso hy (by omega)
      · exact m_textI hK h hs hso hy (by omega)
    · exact m_textX hK h hs hx
end MTU
