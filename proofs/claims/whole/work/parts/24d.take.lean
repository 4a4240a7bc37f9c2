/-! the class takes what was read: rides, flows, sights -/
section CTD
variable {C : Ct} {M : Mm} {E : Nat → Int} {c g kd : Nat} {x y z : Int32}
theorem ad3_c {c a : Nat} {x y z : Int} : ad3 E c a x y z c = E c + 1 := up1_s
theorem ad3_x {c a : Nat} {x y z : Int} (h : a ≠ c) : ad3 E c a x y z a = x := up1_o h (up1_o (by omega) (up1_o (by omega) up1_s))
theorem ad3_y {c a : Nat} {x y z : Int} (h : a + 1 ≠ c) : ad3 E c a x y z (a + 1) = y := up1_o h (up1_o (by omega) up1_s)
theorem ad3_z {c a : Nat} {x y z : Int} (h : a + 2 ≠ c) : ad3 E c a x y z (a + 2) = z := up1_o h up1_s
theorem ad3_o {c a j : Nat} {x y z : Int} (h : j ≠ c) (h1 : j ≠ a) (h2 : j ≠ a + 1) (h3 : j ≠ a + 2) : ad3 E c a x y z j = E j := up1_o h (up1_o h3 (up1_o h2 (up1_o h1 rfl)))
theorem c_take1 {V1 V2 : Int} {gd : Bool} (hK : KM M.1 M.2.2.2) (hD : CD1 M E) (hE : ROK E) (hg : 5 ≤ g ∧ g ≤ 12) (h1 : M.2.1 77 0 = zI V1) (h2 : M.2.1 77 1 = zI V2) (hful : fulB g E = false) (hb1 : -1 ≤ V1 ∧ V1 ≤ 99) (hb2 : -1 ≤ V2 ∧ V2 ≤ 99) : CG C 77 [.ref 53, .int (nI g)] M (fun w M' => w = none ∧ Fp 53 RDo [] M M' ∧ CD1 M' (tkE g kd V1 V2 gd E) ∧ ROK (tkE g kd V1 V2 gd E)) := by
  obtain ⟨a0, d1, d2, d3⟩ := hD
  obtain ⟨e0, e1⟩ := hE
  have hlt : E 0 < 40 := by
    unfold fulB at hful
    rw [if_neg (by omega), if_neg (by omega), if_pos hg] at hful
    have := of_decide_eq_false hful
    omega
  obtain ⟨c, hc⟩ : ∃ c : Nat, E 0 = (c : Int) := ⟨(E 0).toNat, by omega⟩
  have a0' : M.2.1 61 3 = nI c := by rw [a0, hc, nI_zI]
  have hE1 : tkE g kd V1 V2 gd E = ad3 E 0 (1 + 3 * c) ((g : Int) - 5) V1 V2 := by
    unfold tkE
    rw [if_neg (by omega), if_neg (by omega), if_neg (by omega), if_neg (by omega), if_neg (by omega), if_pos (by omega), if_neg (by omega), hc, Int.toNat_natCast]
  have hz : zI ((g : Int) - 5) = nI (g - 5) := by
    rw [nI_zI]
    congr 1
    omega
  have ev0 : ad3 E 0 (1 + 3 * c) ((g : Int) - 5) V1 V2 0 = E 0 + 1 := ad3_c
  have ev1 : ad3 E 0 (1 + 3 * c) ((g : Int) - 5) V1 V2 (1 + 3 * c) = (g : Int) - 5 := ad3_x (by omega)
  have ev2 : ad3 E 0 (1 + 3 * c) ((g : Int) - 5) V1 V2 (2 + 3 * c) = V1 := by
    rw [show 2 + 3 * c = 1 + 3 * c + 1 by omega]
    exact ad3_y (by omega)
  have ev3 : ad3 E 0 (1 + 3 * c) ((g : Int) - 5) V1 V2 (3 + 3 * c) = V2 := by
    rw [show 3 + 3 * c = 1 + 3 * c + 2 by omega]
    exact ad3_z (by omega)
  have evo : ∀ j, j ≠ 0 → j < 1 + 3 * c → ad3 E 0 (1 + 3 * c) ((g : Int) - 5) V1 V2 j = E j := fun j q1 q2 => ad3_o q1 (by omega) (by omega) (by omega)
  rw [hE1]
  have fin : CD1 (M.1, up2 (up2 (up2 (up2 M.2.1 62 c (nI (g - 5))) 63 c (zI V1)) 64 c (zI V2)) 61 3 (nI (c + 1)), M.2.2.1, M.2.2.2) (ad3 E 0 (1 + 3 * c) ((g : Int) - 5) V1 V2) ∧ ROK (ad3 E 0 (1 + 3 * c) ((g : Int) - 5) V1 V2) := by
    refine ⟨⟨?_, fun k hk => ?_, fun k hk => ?_, fun k hk => ?_⟩, ⟨by rw [ev0]; omega, fun k hk => ?_⟩⟩
    · rw [ev0, ← zn' (z := E 0 + 1) (m := c + 1) (by omega)]
      exact (by (try dsimp only); exact up2_s)
    · rw [ev0] at hk
      by_cases q : k = c
      · subst q
        rw [ev1, hz]
        exact (by (try dsimp only); exact up2_o (by omega) (by (try dsimp only); exact up2_o (by omega) (by (try dsimp only); exact up2_o (by omega) (by (try dsimp only); exact up2_s))))
      · rw [evo _ (by omega) (by omega)]
        exact (by (try dsimp only); exact up2_o (by omega) (by (try dsimp only); exact up2_o (by omega) (by (try dsimp only); exact up2_o (by omega) (by (try dsimp only); exact up2_o (by omega) (d1 k (by omega))))))
    · rw [ev0] at hk
      by_cases q : k = c
      · subst q
        rw [ev2]
        exact (by (try dsimp only); exact up2_o (by omega) (by (try dsimp only); exact up2_o (by omega) (by (try dsimp only); exact up2_s)))
      · rw [evo _ (by omega) (by omega)]
        exact (by (try dsimp only); exact up2_o (by omega) (by (try dsimp only); exact up2_o (by omega) (by (try dsimp only); exact up2_o (by omega) (by (try dsimp only); exact up2_o (by omega) (d2 k (by omega))))))
    · rw [ev0] at hk
      by_cases q : k = c
      · subst q
        rw [ev3]
        exact (by (try dsimp only); exact up2_o (by omega) (by (try dsimp only); exact up2_s))
      · rw [evo _ (by omega) (by omega)]
        exact (by (try dsimp only); exact up2_o (by omega) (by (try dsimp only); exact up2_o (by omega) (by (try dsimp only); exact up2_o (by omega) (by (try dsimp only); exact up2_o (by omega) (d3 k (by omega))))))
    · rw [ev0] at hk
      by_cases q : k = c
      · subst q
        rw [ev1, ev2, ev3]
        omega
      · rw [evo _ (by omega) (by omega), evo _ (by omega) (by omega), evo _ (by omega) (by omega)]
        exact e1 k (by omega)
  have hF : Fp 53 RDo [] M (M.1, up2 (up2 (up2 (up2 M.2.1 62 c (nI (g - 5))) 63 c (zI V1)) 64 c (zI V2)) 61 3 (nI (c + 1)), M.2.2.1, M.2.2.2) := (((Fp.up (i := 62) (k := c) (x := nI (g - 5)) (by decide) (by decide)).tr (Fp.up (i := 63) (k := c) (x := zI V1) (by decide) (by decide))).tr (Fp.up (i := 64) (k := c) (x := zI V2) (by decide) (by decide))).tr (Fp.up (i := 61) (k := 3) (x := nI (c + 1)) (by decide) (by decide))
  generalize ad3 E 0 (1 + 3 * c) ((g : Int) - 5) V1 V2 = E' at fin
  refine CG_in (mL := 4) (hl := false) (lv := [some (.ref 53), some (.int (nI g)), none, none]) (ll := []) rfl rfl rfl ?_
  refine G_S (pc := 0) f_77_0 rfl rfl rfl ?_
  refine G_gR (pc := 1) f_77_1 (by decide) rfl (by first | assumption | exact hK.1 _ _ rfl) (by first | assumption | exact hK.2 _ _ _ rfl | (try dsimp only) <;> (repeat (first | exact up2_s | refine up2_o (by first | decide | omega) ?_)) <;> first | assumption | exact hK.2 _ _ _ rfl) ?_
  refine G_ic (v := nI 0) (pc := 4) f_77_4 (by decide) ?_
  refine G_iaN (pc := 5) f_77_5 (by first | assumption | exact hK.1 _ _ rfl) (by omega) (by omega) (by first | exact h1 | rfl) ?_
  refine G_S (pc := 6) f_77_6 rfl rfl rfl ?_
  refine G_S (pc := 7) f_77_7 rfl rfl rfl ?_
  refine G_gR (pc := 8) f_77_8 (by decide) rfl (by first | assumption | exact hK.1 _ _ rfl) (by first | assumption | exact hK.2 _ _ _ rfl | (try dsimp only) <;> (repeat (first | exact up2_s | refine up2_o (by first | decide | omega) ?_)) <;> first | assumption | exact hK.2 _ _ _ rfl) ?_
  refine G_ic (v := nI 1) (pc := 11) f_77_11 (by decide) ?_
  refine G_iaN (pc := 12) f_77_12 (by first | assumption | exact hK.1 _ _ rfl) (by omega) (by omega) (by first | exact h2 | rfl) ?_
  refine G_S (pc := 13) f_77_13 rfl rfl rfl ?_
  refine G_S (pc := 14) f_77_14 rfl rfl rfl ?_
  rcases (show g = 5 ∨ g = 6 ∨ g = 7 ∨ g = 8 ∨ g = 9 ∨ g = 10 ∨ g = 11 ∨ g = 12 by omega) with rfl | rfl | rfl | rfl | rfl | rfl | rfl | rfl
  · refine G_S (pc := 15) f_77_15 rfl rfl rfl ?_
    refine G_S (pc := 227) f_77_227 rfl rfl rfl ?_
    refine G_gR (pc := 228) f_77_228 (by decide) rfl (by first | assumption | exact hK.1 _ _ rfl) (by first | assumption | exact hK.2 _ _ _ rfl | (try dsimp only) <;> (repeat (first | exact up2_s | refine up2_o (by first | decide | omega) ?_)) <;> first | assumption | exact hK.2 _ _ _ rfl) ?_
    refine G_S (pc := 231) f_77_231 rfl rfl rfl ?_
    refine G_ic (v := nI 5) (pc := 232) f_77_232 (by decide) ?_
    first | refine G_subN (pc := 233) f_77_233 (by omega) ?_ | refine G_subZ (pc := 233) f_77_233 (by first | rfl | exact nI_zI _) (by first | rfl | exact nI_zI _) ?_ | refine G_S (pc := 233) f_77_233 rfl rfl rfl ?_
    refine G_S (pc := 234) f_77_234 rfl rfl rfl ?_
    refine G_S (pc := 235) f_77_235 rfl rfl rfl ?_
    refine G_CV (pc := 236) f_77_236 rfl rfl (by decide) rfl rfl (by first | assumption | exact hK.1 _ _ rfl) (by decide) ⟨Nat.le_of_ble_eq_true rfl, Nat.le_of_ble_eq_true rfl⟩ ?_
    refine CG.mono (c_addDeed hK a0' (by omega)) ?_
    rintro _ M2 ⟨rfl, rfl⟩
    refine G_rv (pc := 239) f_77_239 ?_
    exact ⟨rfl, hF, fin.1, fin.2⟩
  · refine G_S (pc := 15) f_77_15 rfl rfl rfl ?_
    refine G_S (pc := 227) f_77_227 rfl rfl rfl ?_
    refine G_gR (pc := 228) f_77_228 (by decide) rfl (by first | assumption | exact hK.1 _ _ rfl) (by first | assumption | exact hK.2 _ _ _ rfl | (try dsimp only) <;> (repeat (first | exact up2_s | refine up2_o (by first | decide | omega) ?_)) <;> first | assumption | exact hK.2 _ _ _ rfl) ?_
    refine G_S (pc := 231) f_77_231 rfl rfl rfl ?_
    refine G_ic (v := nI 5) (pc := 232) f_77_232 (by decide) ?_
    first | refine G_subN (pc := 233) f_77_233 (by omega) ?_ | refine G_subZ (pc := 233) f_77_233 (by first | rfl | exact nI_zI _) (by first | rfl | exact nI_zI _) ?_ | refine G_S (pc := 233) f_77_233 rfl rfl rfl ?_
    refine G_S (pc := 234) f_77_234 rfl rfl rfl ?_
    refine G_S (pc := 235) f_77_235 rfl rfl rfl ?_
    refine G_CV (pc := 236) f_77_236 rfl rfl (by decide) rfl rfl (by first | assumption | exact hK.1 _ _ rfl) (by decide) ⟨Nat.le_of_ble_eq_true rfl, Nat.le_of_ble_eq_true rfl⟩ ?_
    refine CG.mono (c_addDeed hK a0' (by omega)) ?_
    rintro _ M2 ⟨rfl, rfl⟩
    refine G_rv (pc := 239) f_77_239 ?_
    exact ⟨rfl, hF, fin.1, fin.2⟩
  · refine G_S (pc := 15) f_77_15 rfl rfl rfl ?_
    refine G_S (pc := 227) f_77_227 rfl rfl rfl ?_
    refine G_gR (pc := 228) f_77_228 (by decide) rfl (by first | assumption | exact hK.1 _ _ rfl) (by first | assumption | exact hK.2 _ _ _ rfl | (try dsimp only) <;> (repeat (first | exact up2_s | refine up2_o (by first | decide | omega) ?_)) <;> first | assumption | exact hK.2 _ _ _ rfl) ?_
    refine G_S (pc := 231) f_77_231 rfl rfl rfl ?_
    refine G_ic (v := nI 5) (pc := 232) f_77_232 (by decide) ?_
    first | refine G_subN (pc := 233) f_77_233 (by omega) ?_ | refine G_subZ (pc := 233) f_77_233 (by first | rfl | exact nI_zI _) (by first | rfl | exact nI_zI _) ?_ | refine G_S (pc := 233) f_77_233 rfl rfl rfl ?_
    refine G_S (pc := 234) f_77_234 rfl rfl rfl ?_
    refine G_S (pc := 235) f_77_235 rfl rfl rfl ?_
    refine G_CV (pc := 236) f_77_236 rfl rfl (by decide) rfl rfl (by first | assumption | exact hK.1 _ _ rfl) (by decide) ⟨Nat.le_of_ble_eq_true rfl, Nat.le_of_ble_eq_true rfl⟩ ?_
    refine CG.mono (c_addDeed hK a0' (by omega)) ?_
    rintro _ M2 ⟨rfl, rfl⟩
    refine G_rv (pc := 239) f_77_239 ?_
    exact ⟨rfl, hF, fin.1, fin.2⟩
  · refine G_S (pc := 15) f_77_15 rfl rfl rfl ?_
    refine G_S (pc := 227) f_77_227 rfl rfl rfl ?_
    refine G_gR (pc := 228) f_77_228 (by decide) rfl (by first | assumption | exact hK.1 _ _ rfl) (by first | assumption | exact hK.2 _ _ _ rfl | (try dsimp only) <;> (repeat (first | exact up2_s | refine up2_o (by first | decide | omega) ?_)) <;> first | assumption | exact hK.2 _ _ _ rfl) ?_
    refine G_S (pc := 231) f_77_231 rfl rfl rfl ?_
    refine G_ic (v := nI 5) (pc := 232) f_77_232 (by decide) ?_
    first | refine G_subN (pc := 233) f_77_233 (by omega) ?_ | refine G_subZ (pc := 233) f_77_233 (by first | rfl | exact nI_zI _) (by first | rfl | exact nI_zI _) ?_ | refine G_S (pc := 233) f_77_233 rfl rfl rfl ?_
    refine G_S (pc := 234) f_77_234 rfl rfl rfl ?_
    refine G_S (pc := 235) f_77_235 rfl rfl rfl ?_
    refine G_CV (pc := 236) f_77_236 rfl rfl (by decide) rfl rfl (by first | assumption | exact hK.1 _ _ rfl) (by decide) ⟨Nat.le_of_ble_eq_true rfl, Nat.le_of_ble_eq_true rfl⟩ ?_
    refine CG.mono (c_addDeed hK a0' (by omega)) ?_
    rintro _ M2 ⟨rfl, rfl⟩
    refine G_rv (pc := 239) f_77_239 ?_
    exact ⟨rfl, hF, fin.1, fin.2⟩
  · refine G_S (pc := 15) f_77_15 rfl rfl rfl ?_
    refine G_S (pc := 227) f_77_227 rfl rfl rfl ?_
    refine G_gR (pc := 228) f_77_228 (by decide) rfl (by first | assumption | exact hK.1 _ _ rfl) (by first | assumption | exact hK.2 _ _ _ rfl | (try dsimp only) <;> (repeat (first | exact up2_s | refine up2_o (by first | decide | omega) ?_)) <;> first | assumption | exact hK.2 _ _ _ rfl) ?_
    refine G_S (pc := 231) f_77_231 rfl rfl rfl ?_
    refine G_ic (v := nI 5) (pc := 232) f_77_232 (by decide) ?_
    first | refine G_subN (pc := 233) f_77_233 (by omega) ?_ | refine G_subZ (pc := 233) f_77_233 (by first | rfl | exact nI_zI _) (by first | rfl | exact nI_zI _) ?_ | refine G_S (pc := 233) f_77_233 rfl rfl rfl ?_
    refine G_S (pc := 234) f_77_234 rfl rfl rfl ?_
    refine G_S (pc := 235) f_77_235 rfl rfl rfl ?_
    refine G_CV (pc := 236) f_77_236 rfl rfl (by decide) rfl rfl (by first | assumption | exact hK.1 _ _ rfl) (by decide) ⟨Nat.le_of_ble_eq_true rfl, Nat.le_of_ble_eq_true rfl⟩ ?_
    refine CG.mono (c_addDeed hK a0' (by omega)) ?_
    rintro _ M2 ⟨rfl, rfl⟩
    refine G_rv (pc := 239) f_77_239 ?_
    exact ⟨rfl, hF, fin.1, fin.2⟩
  · refine G_S (pc := 15) f_77_15 rfl rfl rfl ?_
    refine G_S (pc := 227) f_77_227 rfl rfl rfl ?_
    refine G_gR (pc := 228) f_77_228 (by decide) rfl (by first | assumption | exact hK.1 _ _ rfl) (by first | assumption | exact hK.2 _ _ _ rfl | (try dsimp only) <;> (repeat (first | exact up2_s | refine up2_o (by first | decide | omega) ?_)) <;> first | assumption | exact hK.2 _ _ _ rfl) ?_
    refine G_S (pc := 231) f_77_231 rfl rfl rfl ?_
    refine G_ic (v := nI 5) (pc := 232) f_77_232 (by decide) ?_
    first | refine G_subN (pc := 233) f_77_233 (by omega) ?_ | refine G_subZ (pc := 233) f_77_233 (by first | rfl | exact nI_zI _) (by first | rfl | exact nI_zI _) ?_ | refine G_S (pc := 233) f_77_233 rfl rfl rfl ?_
    refine G_S (pc := 234) f_77_234 rfl rfl rfl ?_
    refine G_S (pc := 235) f_77_235 rfl rfl rfl ?_
    refine G_CV (pc := 236) f_77_236 rfl rfl (by decide) rfl rfl (by first | assumption | exact hK.1 _ _ rfl) (by decide) ⟨Nat.le_of_ble_eq_true rfl, Nat.le_of_ble_eq_true rfl⟩ ?_
    refine CG.mono (c_addDeed hK a0' (by omega)) ?_
    rintro _ M2 ⟨rfl, rfl⟩
    refine G_rv (pc := 239) f_77_239 ?_
    exact ⟨rfl, hF, fin.1, fin.2⟩
  · refine G_S (pc := 15) f_77_15 rfl rfl rfl ?_
    refine G_S (pc := 227) f_77_227 rfl rfl rfl ?_
    refine G_gR (pc := 228) f_77_228 (by decide) rfl (by first | assumption | exact hK.1 _ _ rfl) (by first | assumption | exact hK.2 _ _ _ rfl | (try dsimp only) <;> (repeat (first | exact up2_s | refine up2_o (by first | decide | omega) ?_)) <;> first | assumption | exact hK.2 _ _ _ rfl) ?_
    refine G_S (pc := 231) f_77_231 rfl rfl rfl ?_
    refine G_ic (v := nI 5) (pc := 232) f_77_232 (by decide) ?_
    first | refine G_subN (pc := 233) f_77_233 (by omega) ?_ | refine G_subZ (pc := 233) f_77_233 (by first | rfl | exact nI_zI _) (by first | rfl | exact nI_zI _) ?_ | refine G_S (pc := 233) f_77_233 rfl rfl rfl ?_
    refine G_S (pc := 234) f_77_234 rfl rfl rfl ?_
    refine G_S (pc := 235) f_77_235 rfl rfl rfl ?_
    refine G_CV (pc := 236) f_77_236 rfl rfl (by decide) rfl rfl (by first | assumption | exact hK.1 _ _ rfl) (by decide) ⟨Nat.le_of_ble_eq_true rfl, Nat.le_of_ble_eq_true rfl⟩ ?_
    refine CG.mono (c_addDeed hK a0' (by omega)) ?_
    rintro _ M2 ⟨rfl, rfl⟩
    refine G_rv (pc := 239) f_77_239 ?_
    exact ⟨rfl, hF, fin.1, fin.2⟩
  · refine G_S (pc := 15) f_77_15 rfl rfl rfl ?_
    refine G_S (pc := 227) f_77_227 rfl rfl rfl ?_
    refine G_gR (pc := 228) f_77_228 (by decide) rfl (by first | assumption | exact hK.1 _ _ rfl) (by first | assumption | exact hK.2 _ _ _ rfl | (try dsimp only) <;> (repeat (first | exact up2_s | refine up2_o (by first | decide | omega) ?_)) <;> first | assumption | exact hK.2 _ _ _ rfl) ?_
    refine G_S (pc := 231) f_77_231 rfl rfl rfl ?_
    refine G_ic (v := nI 5) (pc := 232) f_77_232 (by decide) ?_
    first | refine G_subN (pc := 233) f_77_233 (by omega) ?_ | refine G_subZ (pc := 233) f_77_233 (by first | rfl | exact nI_zI _) (by first | rfl | exact nI_zI _) ?_ | refine G_S (pc := 233) f_77_233 rfl rfl rfl ?_
    refine G_S (pc := 234) f_77_234 rfl rfl rfl ?_
    refine G_S (pc := 235) f_77_235 rfl rfl rfl ?_
    refine G_CV (pc := 236) f_77_236 rfl rfl (by decide) rfl rfl (by first | assumption | exact hK.1 _ _ rfl) (by decide) ⟨Nat.le_of_ble_eq_true rfl, Nat.le_of_ble_eq_true rfl⟩ ?_
    refine CG.mono (c_addDeed hK a0' (by omega)) ?_
    rintro _ M2 ⟨rfl, rfl⟩
    refine G_rv (pc := 239) f_77_239 ?_
    exact ⟨rfl, hF, fin.1, fin.2⟩
theorem c_take2 {v1 v2 : Nat} {gd : Bool} (hK : KM M.1 M.2.2.2) (hD : CD2 M E) (hE : EO2 E) (hg : g = 13 ∨ g = 14) (hgd : gd = true) (h1 : M.2.1 77 0 = nI v1) (h2 : g = 14 → M.2.1 77 1 = nI v2) (hb1 : badB g 0 v1 = false) (hb2 : g = 14 → badB g 1 v2 = false) : CG C 77 [.ref 53, .int (nI g)] M (fun w M' => w = none ∧ Fp 53 RDo [] M M' ∧ CD2 M' (tkE g kd (v1 : Int) (v2 : Int) gd E) ∧ EO2 (tkE g kd (v1 : Int) (v2 : Int) gd E)) := by
  obtain ⟨a0, d1⟩ := hD
  obtain ⟨e0, e1⟩ := hE
  subst hgd
  have hb1' := of_decide_eq_false hb1
  rcases hg with rfl | rfl
  · have hr : 1 ≤ v1 ∧ v1 ≤ 99 := by
      have e : fmN 13 3 = 99 ∧ fmN 13 2 = 1 := by decide
      rw [show 3 + 2 * 0 = 3 from rfl, show 2 + 2 * 0 = 2 from rfl, e.1, e.2] at hb1'
      omega
    have hE1 : tkE 13 kd (v1 : Int) (v2 : Int) true E = up1 E 0 (v1 : Int) := rfl
    have ev : ∀ j, j ≠ 0 → up1 E 0 (v1 : Int) j = E j := fun j q1 => up1_o q1 rfl
    have ev0 : up1 E 0 (v1 : Int) 0 = (v1 : Int) := up1_s
    rw [hE1]
    refine CG_in (mL := 4) (hl := false) (lv := [some (.ref 53), some (.int (nI 13)), none, none]) (ll := []) rfl rfl rfl ?_
    refine G_S (pc := 0) f_77_0 rfl rfl rfl ?_
    refine G_gR (pc := 1) f_77_1 (by decide) rfl (by first | assumption | exact hK.1 _ _ rfl) (by first | assumption | exact hK.2 _ _ _ rfl | (try dsimp only) <;> (repeat (first | exact up2_s | refine up2_o (by first | decide | omega) ?_)) <;> first | assumption | exact hK.2 _ _ _ rfl) ?_
    refine G_ic (v := nI 0) (pc := 4) f_77_4 (by decide) ?_
    refine G_iaN (pc := 5) f_77_5 (by first | assumption | exact hK.1 _ _ rfl) (by omega) (by omega) (by first | exact h1 | rfl) ?_
    refine G_S (pc := 6) f_77_6 rfl rfl rfl ?_
    refine G_S (pc := 7) f_77_7 rfl rfl rfl ?_
    refine G_gR (pc := 8) f_77_8 (by decide) rfl (by first | assumption | exact hK.1 _ _ rfl) (by first | assumption | exact hK.2 _ _ _ rfl | (try dsimp only) <;> (repeat (first | exact up2_s | refine up2_o (by first | decide | omega) ?_)) <;> first | assumption | exact hK.2 _ _ _ rfl) ?_
    refine G_ic (v := nI 1) (pc := 11) f_77_11 (by decide) ?_
    refine G_ia (pc := 12) f_77_12 (by first | assumption | exact hK.1 _ _ rfl) (inn_nI (by decide) (by decide)) ?_
    refine G_S (pc := 13) f_77_13 rfl rfl rfl ?_
    refine G_S (pc := 14) f_77_14 rfl rfl rfl ?_
    skip
    · refine G_S (pc := 15) f_77_15 rfl rfl rfl ?_
      refine G_S (pc := 166) f_77_166 rfl rfl rfl ?_
      refine G_gR (pc := 167) f_77_167 (by decide) rfl (by first | assumption | exact hK.1 _ _ rfl) (by first | assumption | exact hK.2 _ _ _ rfl | (try dsimp only) <;> (repeat (first | exact up2_s | refine up2_o (by first | decide | omega) ?_)) <;> first | assumption | exact hK.2 _ _ _ rfl) ?_
      refine G_S (pc := 170) f_77_170 rfl rfl rfl ?_
      refine G_pI (pc := 171) f_77_171 rfl (by first | assumption | exact hK.1 _ _ rfl) ?_
      refine G_S (pc := 174) f_77_174 rfl rfl rfl ?_
      refine G_rv (pc := 239) f_77_239 ?_
      refine ⟨rfl, Fp.up (i := 65) (k := 0) (x := nI v1) (by decide) (by decide), ⟨?_, fun h hh => ?_⟩, ⟨by rw [ev0]; omega, fun h hh => by rw [ev _ (by omega)]; exact e1 h hh⟩⟩
      · rw [ev0, ← nI_zI]
        exact (by (try dsimp only); exact up2_s)
      · rw [ev _ (by omega)]
        exact (by (try dsimp only); exact up2_o (by omega) (d1 h hh))
  · have h2 := h2 rfl
    have hb2' := of_decide_eq_false (hb2 rfl)
    have hr : v1 ≤ 23 ∧ v2 ≤ 99 := by
      have e : fmN 14 3 = 23 ∧ fmN 14 5 = 99 := by decide
      rw [show 3 + 2 * 0 = 3 from rfl, e.1] at hb1'
      rw [show 3 + 2 * 1 = 5 from rfl, e.2] at hb2'
      omega
    have hE1 : tkE 14 kd (v1 : Int) (v2 : Int) true E = up1 E (1 + v1) (v2 : Int) := rfl
    have ev : ∀ j, j ≠ 1 + v1 → up1 E (1 + v1) (v2 : Int) j = E j := fun j q1 => up1_o q1 rfl
    have evk : up1 E (1 + v1) (v2 : Int) (1 + v1) = (v2 : Int) := up1_s
    rw [hE1]
    refine CG_in (mL := 4) (hl := false) (lv := [some (.ref 53), some (.int (nI 14)), none, none]) (ll := []) rfl rfl rfl ?_
    refine G_S (pc := 0) f_77_0 rfl rfl rfl ?_
    refine G_gR (pc := 1) f_77_1 (by decide) rfl (by first | assumption | exact hK.1 _ _ rfl) (by first | assumption | exact hK.2 _ _ _ rfl | (try dsimp only) <;> (repeat (first | exact up2_s | refine up2_o (by first | decide | omega) ?_)) <;> first | assumption | exact hK.2 _ _ _ rfl) ?_
    refine G_ic (v := nI 0) (pc := 4) f_77_4 (by decide) ?_
    refine G_iaN (pc := 5) f_77_5 (by first | assumption | exact hK.1 _ _ rfl) (by omega) (by omega) (by first | exact h1 | rfl) ?_
    refine G_S (pc := 6) f_77_6 rfl rfl rfl ?_
    refine G_S (pc := 7) f_77_7 rfl rfl rfl ?_
    refine G_gR (pc := 8) f_77_8 (by decide) rfl (by first | assumption | exact hK.1 _ _ rfl) (by first | assumption | exact hK.2 _ _ _ rfl | (try dsimp only) <;> (repeat (first | exact up2_s | refine up2_o (by first | decide | omega) ?_)) <;> first | assumption | exact hK.2 _ _ _ rfl) ?_
    refine G_ic (v := nI 1) (pc := 11) f_77_11 (by decide) ?_
    refine G_iaN (pc := 12) f_77_12 (by first | assumption | exact hK.1 _ _ rfl) (by omega) (by omega) (by first | exact h2 | rfl) ?_
    refine G_S (pc := 13) f_77_13 rfl rfl rfl ?_
    refine G_S (pc := 14) f_77_14 rfl rfl rfl ?_
    skip
    · refine G_S (pc := 15) f_77_15 rfl rfl rfl ?_
      refine G_S (pc := 177) f_77_177 rfl rfl rfl ?_
      refine G_gR (pc := 178) f_77_178 (by decide) rfl (by first | assumption | exact hK.1 _ _ rfl) (by first | assumption | exact hK.2 _ _ _ rfl | (try dsimp only) <;> (repeat (first | exact up2_s | refine up2_o (by first | decide | omega) ?_)) <;> first | assumption | exact hK.2 _ _ _ rfl) ?_
      refine G_gR (pc := 181) f_77_181 (by decide) rfl (by first | assumption | exact hK.1 _ _ rfl) (by first | assumption | exact hK.2 _ _ _ rfl | (try dsimp only) <;> (repeat (first | exact up2_s | refine up2_o (by first | decide | omega) ?_)) <;> first | assumption | exact hK.2 _ _ _ rfl) ?_
      refine G_S (pc := 184) f_77_184 rfl rfl rfl ?_
      refine G_S (pc := 185) f_77_185 rfl rfl rfl ?_
      refine G_isN (pc := 186) f_77_186 (by first | assumption | exact hK.1 _ _ rfl) (by omega) (by omega) ?_
      refine G_S (pc := 187) f_77_187 rfl rfl rfl ?_
      refine G_rv (pc := 239) f_77_239 ?_
      refine ⟨rfl, Fp.up (i := 66) (k := v1) (x := nI v2) (by decide) (by decide), ⟨?_, fun h hh => ?_⟩, ⟨by rw [ev 0 (by omega)]; exact e0, fun h hh => ?_⟩⟩
      · rw [ev 0 (by omega)]
        exact (by (try dsimp only); exact up2_o (by omega) a0)
      · by_cases q : h = v1
        · subst q
          rw [evk, ← nI_zI]
          exact (by (try dsimp only); exact up2_s)
        · rw [ev _ (by omega)]
          exact (by (try dsimp only); exact up2_o (by omega) (d1 h hh))
      · by_cases q : h = v1
        · subst q
          rw [evk]
          omega
        · rw [ev _ (by omega)]
          exact e1 h hh
theorem c_take3 {v1 v2 : Nat} {V2 : Int} {gd : Bool} (hK : KM M.1 M.2.2.2) (hD : CD3 M E) (hE : EO3 E) (hg : 15 ≤ g ∧ g ≤ 17) (h1 : M.2.1 77 0 = nI v1) (h2 : 16 ≤ g → M.2.1 77 1 = nI v2 ∧ V2 = (v2 : Int)) (hful : fulB g E = false) (hb1 : badB g 0 v1 = false) (hb2 : 16 ≤ g → badB g 1 v2 = false) : CG C 77 [.ref 53, .int (nI g)] M (fun w M' => w = none ∧ Fp 53 RDo [] M M' ∧ CD3 M' (tkE g kd (v1 : Int) V2 gd E) ∧ EO3 (tkE g kd (v1 : Int) V2 gd E)) := by
  obtain ⟨⟨a0, a1, a5⟩, d1, d2, d3⟩ := hD
  obtain ⟨e0, e1, e2⟩ := hE
  have hb1' := of_decide_eq_false hb1
  by_cases h15 : g = 15
  · subst h15
    have hr : 1 ≤ v1 ∧ v1 ≤ 4 := by
      have e : fmN 15 3 = 4 ∧ fmN 15 2 = 1 := by decide
      rw [show 3 + 2 * 0 = 3 from rfl, show 2 + 2 * 0 = 2 from rfl, e.1, e.2] at hb1'
      omega
    have hE1 : tkE 15 kd (v1 : Int) V2 gd E = up1 E 0 (v1 : Int) := rfl
    have ev : ∀ j, j ≠ 0 → up1 E 0 (v1 : Int) j = E j := fun j q1 => up1_o q1 rfl
    have ev0 : up1 E 0 (v1 : Int) 0 = (v1 : Int) := up1_s
    rw [hE1]
    refine CG_in (mL := 4) (hl := false) (lv := [some (.ref 53), some (.int (nI 15)), none, none]) (ll := []) rfl rfl rfl ?_
    refine G_S (pc := 0) f_77_0 rfl rfl rfl ?_
    refine G_gR (pc := 1) f_77_1 (by decide) rfl (by first | assumption | exact hK.1 _ _ rfl) (by first | assumption | exact hK.2 _ _ _ rfl | (try dsimp only) <;> (repeat (first | exact up2_s | refine up2_o (by first | decide | omega) ?_)) <;> first | assumption | exact hK.2 _ _ _ rfl) ?_
    refine G_ic (v := nI 0) (pc := 4) f_77_4 (by decide) ?_
    refine G_iaN (pc := 5) f_77_5 (by first | assumption | exact hK.1 _ _ rfl) (by omega) (by omega) (by first | exact h1 | rfl) ?_
    refine G_S (pc := 6) f_77_6 rfl rfl rfl ?_
    refine G_S (pc := 7) f_77_7 rfl rfl rfl ?_
    refine G_gR (pc := 8) f_77_8 (by decide) rfl (by first | assumption | exact hK.1 _ _ rfl) (by first | assumption | exact hK.2 _ _ _ rfl | (try dsimp only) <;> (repeat (first | exact up2_s | refine up2_o (by first | decide | omega) ?_)) <;> first | assumption | exact hK.2 _ _ _ rfl) ?_
    refine G_ic (v := nI 1) (pc := 11) f_77_11 (by decide) ?_
    refine G_ia (pc := 12) f_77_12 (by first | assumption | exact hK.1 _ _ rfl) (inn_nI (by decide) (by decide)) ?_
    refine G_S (pc := 13) f_77_13 rfl rfl rfl ?_
    refine G_S (pc := 14) f_77_14 rfl rfl rfl ?_
    skip
    · refine G_S (pc := 15) f_77_15 rfl rfl rfl ?_
      refine G_S (pc := 190) f_77_190 rfl rfl rfl ?_
      refine G_gR (pc := 191) f_77_191 (by decide) rfl (by first | assumption | exact hK.1 _ _ rfl) (by first | assumption | exact hK.2 _ _ _ rfl | (try dsimp only) <;> (repeat (first | exact up2_s | refine up2_o (by first | decide | omega) ?_)) <;> first | assumption | exact hK.2 _ _ _ rfl) ?_
      refine G_S (pc := 194) f_77_194 rfl rfl rfl ?_
      refine G_pI (pc := 195) f_77_195 rfl (by first | assumption | exact hK.1 _ _ rfl) ?_
      refine G_S (pc := 198) f_77_198 rfl rfl rfl ?_
      refine G_rv (pc := 239) f_77_239 ?_
      refine ⟨rfl, Fp.up (i := 70) (k := 0) (x := nI v1) (by decide) (by decide), ⟨⟨?_, ?_, ?_⟩, fun k hk => ?_, fun k hk => ?_, fun k hk => ?_⟩, ⟨by rw [ev0]; omega, by rw [ev 1 (by omega)]; exact e1, fun k hk => ?_⟩⟩
      · rw [ev0, ← nI_zI]
        exact (by (try dsimp only); exact up2_s)
      · rw [ev 1 (by omega)]
        exact (by (try dsimp only); exact up2_o (by omega) a1)
      · exact (by (try dsimp only); exact up2_o (by omega) a5)
      · rw [ev 1 (by omega)] at hk
        rw [ev _ (by omega)]
        exact (by (try dsimp only); exact up2_o (by omega) (d1 k hk))
      · rw [ev 1 (by omega)] at hk
        rw [ev _ (by omega)]
        exact (by (try dsimp only); exact up2_o (by omega) (d2 k hk))
      · rw [ev 1 (by omega)] at hk
        rw [ev _ (by omega)]
        exact (by (try dsimp only); exact up2_o (by omega) (d3 k hk))
      · rw [ev 1 (by omega)] at hk
        rw [ev _ (by omega), ev _ (by omega), ev _ (by omega)]
        exact e2 k hk
  · obtain ⟨h2', hV⟩ := h2 (by omega)
    subst hV
    have hb2' := of_decide_eq_false (hb2 (by omega))
    have hr : (1 ≤ v1 ∧ v1 ≤ 15) ∧ (1 ≤ v2 ∧ v2 ≤ 36) := by
      have e : ∀ g, g = 16 ∨ g = 17 → fmN g 2 = 1 ∧ fmN g 3 = 15 ∧ fmN g 4 = 1 ∧ fmN g 5 = 36 := by
        intro g h
        rcases h with rfl | rfl <;> decide
      have e := e g (by omega)
      rw [show 3 + 2 * 0 = 3 from rfl, show 2 + 2 * 0 = 2 from rfl, e.1, e.2.1] at hb1'
      rw [show 3 + 2 * 1 = 5 from rfl, show 2 + 2 * 1 = 4 from rfl, e.2.2.1, e.2.2.2] at hb2'
      omega
    have hlt : E 1 < 10 := by
      unfold fulB at hful
      rw [if_neg (by omega), if_neg (by omega), if_neg (by omega), if_pos (by omega)] at hful
      have := of_decide_eq_false hful
      omega
    obtain ⟨c, hc⟩ : ∃ c : Nat, E 1 = (c : Int) := ⟨(E 1).toNat, by omega⟩
    have a1' : M.2.1 70 1 = nI c := by rw [a1, hc, nI_zI]
    obtain ⟨b, hb, hbz⟩ : ∃ b : Nat, (b = 1 ∧ g = 16 ∨ b = 0 ∧ g = 17) ∧ (if g = 16 then (1 : Int) else 0) = (b : Int) := by
      rcases (show g = 16 ∨ g = 17 by omega) with rfl | rfl
      · exact ⟨1, Or.inl ⟨rfl, rfl⟩, rfl⟩
      · exact ⟨0, Or.inr ⟨rfl, rfl⟩, rfl⟩
    have hE1 : tkE g kd (v1 : Int) (v2 : Int) gd E = ad3 E 1 (2 + 3 * c) (b : Int) (v1 : Int) (v2 : Int) := by
      unfold tkE
      rw [if_neg (by omega), if_neg (by omega), if_neg (by omega), if_neg (by omega), if_neg (by omega), if_neg (by omega), if_neg (by omega), if_neg (by omega), if_neg (by omega), if_neg (by omega), hbz, hc, Int.toNat_natCast]
    have ev1 : ad3 E 1 (2 + 3 * c) (b : Int) (v1 : Int) (v2 : Int) 1 = E 1 + 1 := ad3_c
    have evx : ad3 E 1 (2 + 3 * c) (b : Int) (v1 : Int) (v2 : Int) (2 + 3 * c) = (b : Int) := ad3_x (by omega)
    have evy : ad3 E 1 (2 + 3 * c) (b : Int) (v1 : Int) (v2 : Int) (3 + 3 * c) = (v1 : Int) := by
      rw [show 3 + 3 * c = 2 + 3 * c + 1 by omega]
      exact ad3_y (by omega)
    have evz : ad3 E 1 (2 + 3 * c) (b : Int) (v1 : Int) (v2 : Int) (4 + 3 * c) = (v2 : Int) := by
      rw [show 4 + 3 * c = 2 + 3 * c + 2 by omega]
      exact ad3_z (by omega)
    have evo : ∀ j, j ≠ 1 → j < 2 + 3 * c → ad3 E 1 (2 + 3 * c) (b : Int) (v1 : Int) (v2 : Int) j = E j := fun j q1 q2 => ad3_o q1 (by omega) (by omega) (by omega)
    rw [hE1]
    have fin : CD3 (M.1, up2 (up2 (up2 (up2 M.2.1 71 c (nI b)) 72 c (nI v1)) 73 c (nI v2)) 70 1 (nI (c + 1)), M.2.2.1, M.2.2.2) (ad3 E 1 (2 + 3 * c) (b : Int) (v1 : Int) (v2 : Int)) ∧ EO3 (ad3 E 1 (2 + 3 * c) (b : Int) (v1 : Int) (v2 : Int)) := by
      refine ⟨⟨⟨?_, ?_, ?_⟩, fun k hk => ?_, fun k hk => ?_, fun k hk => ?_⟩, ⟨by rw [evo 0 (by omega) (by omega)]; exact e0, by rw [ev1]; omega, fun k hk => ?_⟩⟩
      · rw [evo 0 (by omega) (by omega)]
        exact (by (try dsimp only); exact up2_o (by omega) (by (try dsimp only); exact up2_o (by omega) (by (try dsimp only); exact up2_o (by omega) (by (try dsimp only); exact up2_o (by omega) a0))))
      · rw [ev1, ← zn' (m := c + 1) (by omega)]
        exact (by (try dsimp only); exact up2_s)
      · exact (by (try dsimp only); exact up2_o (by omega) (by (try dsimp only); exact up2_o (by omega) (by (try dsimp only); exact up2_o (by omega) (by (try dsimp only); exact up2_o (by omega) a5))))
      · rw [ev1] at hk
        by_cases q : k = c
        · subst q
          rw [evx, ← nI_zI]
          exact (by (try dsimp only); exact up2_o (by omega) (by (try dsimp only); exact up2_o (by omega) (by (try dsimp only); exact up2_o (by omega) (by (try dsimp only); exact up2_s))))
        · rw [evo _ (by omega) (by omega)]
          exact (by (try dsimp only); exact up2_o (by omega) (by (try dsimp only); exact up2_o (by omega) (by (try dsimp only); exact up2_o (by omega) (by (try dsimp only); exact up2_o (by omega) (d1 k (by omega))))))
      · rw [ev1] at hk
        by_cases q : k = c
        · subst q
          rw [evy, ← nI_zI]
          exact (by (try dsimp only); exact up2_o (by omega) (by (try dsimp only); exact up2_o (by omega) (by (try dsimp only); exact up2_s)))
        · rw [evo _ (by omega) (by omega)]
          exact (by (try dsimp only); exact up2_o (by omega) (by (try dsimp only); exact up2_o (by omega) (by (try dsimp only); exact up2_o (by omega) (by (try dsimp only); exact up2_o (by omega) (d2 k (by omega))))))
      · rw [ev1] at hk
        by_cases q : k = c
        · subst q
          rw [evz, ← nI_zI]
          exact (by (try dsimp only); exact up2_o (by omega) (by (try dsimp only); exact up2_s))
        · rw [evo _ (by omega) (by omega)]
          exact (by (try dsimp only); exact up2_o (by omega) (by (try dsimp only); exact up2_o (by omega) (by (try dsimp only); exact up2_o (by omega) (by (try dsimp only); exact up2_o (by omega) (d3 k (by omega))))))
      · rw [ev1] at hk
        by_cases q : k = c
        · subst q
          rw [evx, evy, evz]
          omega
        · rw [evo _ (by omega) (by omega), evo _ (by omega) (by omega), evo _ (by omega) (by omega)]
          exact e2 k (by omega)
    have hF : Fp 53 RDo [] M (M.1, up2 (up2 (up2 (up2 M.2.1 71 c (nI b)) 72 c (nI v1)) 73 c (nI v2)) 70 1 (nI (c + 1)), M.2.2.1, M.2.2.2) := (((Fp.up (i := 71) (k := c) (x := nI b) (by decide) (by decide)).tr (Fp.up (i := 72) (k := c) (x := nI v1) (by decide) (by decide))).tr (Fp.up (i := 73) (k := c) (x := nI v2) (by decide) (by decide))).tr (Fp.up (i := 70) (k := 1) (x := nI (c + 1)) (by decide) (by decide))
    generalize ad3 E 1 (2 + 3 * c) (b : Int) (v1 : Int) (v2 : Int) = E' at fin
    refine CG_in (mL := 4) (hl := false) (lv := [some (.ref 53), some (.int (nI g)), none, none]) (ll := []) rfl rfl rfl ?_
    refine G_S (pc := 0) f_77_0 rfl rfl rfl ?_
    refine G_gR (pc := 1) f_77_1 (by decide) rfl (by first | assumption | exact hK.1 _ _ rfl) (by first | assumption | exact hK.2 _ _ _ rfl | (try dsimp only) <;> (repeat (first | exact up2_s | refine up2_o (by first | decide | omega) ?_)) <;> first | assumption | exact hK.2 _ _ _ rfl) ?_
    refine G_ic (v := nI 0) (pc := 4) f_77_4 (by decide) ?_
    refine G_iaN (pc := 5) f_77_5 (by first | assumption | exact hK.1 _ _ rfl) (by omega) (by omega) (by first | exact h1 | rfl) ?_
    refine G_S (pc := 6) f_77_6 rfl rfl rfl ?_
    refine G_S (pc := 7) f_77_7 rfl rfl rfl ?_
    refine G_gR (pc := 8) f_77_8 (by decide) rfl (by first | assumption | exact hK.1 _ _ rfl) (by first | assumption | exact hK.2 _ _ _ rfl | (try dsimp only) <;> (repeat (first | exact up2_s | refine up2_o (by first | decide | omega) ?_)) <;> first | assumption | exact hK.2 _ _ _ rfl) ?_
    refine G_ic (v := nI 1) (pc := 11) f_77_11 (by decide) ?_
    refine G_iaN (pc := 12) f_77_12 (by first | assumption | exact hK.1 _ _ rfl) (by omega) (by omega) (by first | exact h2' | rfl) ?_
    refine G_S (pc := 13) f_77_13 rfl rfl rfl ?_
    refine G_S (pc := 14) f_77_14 rfl rfl rfl ?_
    rcases hb with ⟨rfl, rfl⟩ | ⟨rfl, rfl⟩
    · refine G_S (pc := 15) f_77_15 rfl rfl rfl ?_
      refine G_S (pc := 201) f_77_201 rfl rfl rfl ?_
      refine G_gR (pc := 202) f_77_202 (by decide) rfl (by first | assumption | exact hK.1 _ _ rfl) (by first | assumption | exact hK.2 _ _ _ rfl | (try dsimp only) <;> (repeat (first | exact up2_s | refine up2_o (by first | decide | omega) ?_)) <;> first | assumption | exact hK.2 _ _ _ rfl) ?_
      refine G_ic (v := nI 1) (pc := 205) f_77_205 (by decide) ?_
      refine G_S (pc := 206) f_77_206 rfl rfl rfl ?_
      refine G_S (pc := 207) f_77_207 rfl rfl rfl ?_
      refine G_CV (pc := 208) f_77_208 rfl rfl (by decide) rfl rfl (by first | assumption | exact hK.1 _ _ rfl) (by decide) ⟨Nat.le_of_ble_eq_true rfl, Nat.le_of_ble_eq_true rfl⟩ ?_
      refine CG.mono (c_addFact hK a1' (by omega)) ?_
      rintro _ M2 ⟨rfl, rfl⟩
      refine G_S (pc := 211) f_77_211 rfl rfl rfl ?_
      refine G_rv (pc := 239) f_77_239 ?_
      exact ⟨rfl, hF, fin.1, fin.2⟩
    · refine G_S (pc := 15) f_77_15 rfl rfl rfl ?_
      refine G_S (pc := 214) f_77_214 rfl rfl rfl ?_
      refine G_gR (pc := 215) f_77_215 (by decide) rfl (by first | assumption | exact hK.1 _ _ rfl) (by first | assumption | exact hK.2 _ _ _ rfl | (try dsimp only) <;> (repeat (first | exact up2_s | refine up2_o (by first | decide | omega) ?_)) <;> first | assumption | exact hK.2 _ _ _ rfl) ?_
      refine G_ic (v := nI 0) (pc := 218) f_77_218 (by decide) ?_
      refine G_S (pc := 219) f_77_219 rfl rfl rfl ?_
      refine G_S (pc := 220) f_77_220 rfl rfl rfl ?_
      refine G_CV (pc := 221) f_77_221 rfl rfl (by decide) rfl rfl (by first | assumption | exact hK.1 _ _ rfl) (by decide) ⟨Nat.le_of_ble_eq_true rfl, Nat.le_of_ble_eq_true rfl⟩ ?_
      refine CG.mono (c_addFact hK a1' (by omega)) ?_
      rintro _ M2 ⟨rfl, rfl⟩
      refine G_S (pc := 224) f_77_224 rfl rfl rfl ?_
      refine G_rv (pc := 239) f_77_239 ?_
      exact ⟨rfl, hF, fin.1, fin.2⟩
end CTD
