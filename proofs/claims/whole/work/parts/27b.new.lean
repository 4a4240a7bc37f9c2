/-! constructors on any memory -/
section BDC
variable {C : Ct} {M M0 : Mm} {b : Nat}
theorem c_lnNew (hB : Bd b M0 [(4, 9)] [] M) (hb : b < 990000) : CG C 53 [.ref b] M (fun w M' => w = none ∧ Bd b M0 [(4, 9), (50, 8), (50, 8), (50, 8), (50, 4), (50, 9), (50, 9)] [(0, 0, 1), (0, 3, 2), (0, 4, 3), (0, 6, 4), (0, 7, 5), (0, 8, 6)] M') := by
  refine CG_in (mL := 1) (hl := false) (lv := [some (.ref b)]) (ll := []) rfl rfl rfl ?_
  refine G_S (pc := 0) f_53_0 rfl rfl rfl ?_
  refine G_oi (pc := 1) f_53_1 rfl rfl (by omega) (by decide) ?_
  refine G_S (pc := 4) f_53_4 rfl rfl rfl ?_
  refine G_bi (v := nI 8) (pc := 5) f_53_5 (by decide) ?_
  refine B_na (m := 1) hB (pc := 7) f_53_7 rfl rfl (by decide) (by omega) (by decide +kernel) (fun _ hB => ?_)
  refine B_pR (i := 0) (a := 1) hB (pc := 9) f_53_9 rfl rfl rfl rfl (by omega) (by decide +kernel) (fun _ hB => ?_)
  refine G_S (pc := 12) f_53_12 rfl rfl rfl ?_
  refine G_bi (v := nI 8) (pc := 13) f_53_13 (by decide) ?_
  refine B_na (m := 2) hB (pc := 15) f_53_15 rfl rfl (by decide) (by omega) (by decide +kernel) (fun _ hB => ?_)
  refine B_pR (i := 0) (a := 2) hB (pc := 17) f_53_17 rfl rfl rfl rfl (by omega) (by decide +kernel) (fun _ hB => ?_)
  refine G_S (pc := 20) f_53_20 rfl rfl rfl ?_
  refine G_bi (v := nI 8) (pc := 21) f_53_21 (by decide) ?_
  refine B_na (m := 3) hB (pc := 23) f_53_23 rfl rfl (by decide) (by omega) (by decide +kernel) (fun _ hB => ?_)
  refine B_pR (i := 0) (a := 3) hB (pc := 25) f_53_25 rfl rfl rfl rfl (by omega) (by decide +kernel) (fun _ hB => ?_)
  refine G_S (pc := 28) f_53_28 rfl rfl rfl ?_
  refine G_ic (v := nI 4) (pc := 29) f_53_29 (by decide) ?_
  refine B_na (m := 4) hB (pc := 30) f_53_30 rfl rfl (by decide) (by omega) (by decide +kernel) (fun _ hB => ?_)
  refine B_pR (i := 0) (a := 4) hB (pc := 32) f_53_32 rfl rfl rfl rfl (by omega) (by decide +kernel) (fun _ hB => ?_)
  refine G_S (pc := 35) f_53_35 rfl rfl rfl ?_
  refine G_bi (v := nI 9) (pc := 36) f_53_36 (by decide) ?_
  refine B_na (m := 5) hB (pc := 38) f_53_38 rfl rfl (by decide) (by omega) (by decide +kernel) (fun _ hB => ?_)
  refine B_pR (i := 0) (a := 5) hB (pc := 40) f_53_40 rfl rfl rfl rfl (by omega) (by decide +kernel) (fun _ hB => ?_)
  refine G_S (pc := 43) f_53_43 rfl rfl rfl ?_
  refine G_bi (v := nI 9) (pc := 44) f_53_44 (by decide) ?_
  refine B_na (m := 6) hB (pc := 46) f_53_46 rfl rfl (by decide) (by omega) (by decide +kernel) (fun _ hB => ?_)
  refine B_pR (i := 0) (a := 6) hB (pc := 48) f_53_48 rfl rfl rfl rfl (by omega) (by decide +kernel) (fun _ hB => ?_)
  refine G_S (pc := 51) f_53_51 rfl rfl rfl ?_
  refine G_CV (pc := 52) f_53_52 rfl rfl (by decide) rfl rfl (hB.ty (i := 0) rfl) (by decide) ⟨Nat.le_of_ble_eq_true rfl, Nat.le_of_ble_eq_true rfl⟩ ?_
  refine CG.mono (c_lnClr (hB.ty (i := 0) rfl) (hB.ty (i := 4) rfl) (hB.ty (i := 5) rfl) (hB.rf (i := 0) (by decide)) (hB.rf (i := 0) (by decide))) ?_
  rintro _ M1 ⟨rfl, hF⟩
  replace hB := hB.ge hF
  refine G_rv (pc := 55) f_53_55 ?_
  exact ⟨rfl, hB⟩
theorem c_rdNew (hB : Bd b M0 [(6, 4)] [] M) (hb : b < 990000) : CG C 89 [.ref b] M (fun w M' => w = none ∧ Bd b M0 [(6, 4), (50, 40), (50, 40), (50, 40)] [(0, 0, 1), (0, 1, 2), (0, 2, 3)] M') := by
  refine CG_in (mL := 1) (hl := false) (lv := [some (.ref b)]) (ll := []) rfl rfl rfl ?_
  refine G_S (pc := 0) f_89_0 rfl rfl rfl ?_
  refine G_oi (pc := 1) f_89_1 rfl rfl (by omega) (by decide) ?_
  refine G_S (pc := 4) f_89_4 rfl rfl rfl ?_
  refine G_bi (v := nI 40) (pc := 5) f_89_5 (by decide) ?_
  refine B_na (m := 1) hB (pc := 7) f_89_7 rfl rfl (by decide) (by omega) (by decide +kernel) (fun _ hB => ?_)
  refine B_pR (i := 0) (a := 1) hB (pc := 9) f_89_9 rfl rfl rfl rfl (by omega) (by decide +kernel) (fun _ hB => ?_)
  refine G_S (pc := 12) f_89_12 rfl rfl rfl ?_
  refine G_bi (v := nI 40) (pc := 13) f_89_13 (by decide) ?_
  refine B_na (m := 2) hB (pc := 15) f_89_15 rfl rfl (by decide) (by omega) (by decide +kernel) (fun _ hB => ?_)
  refine B_pR (i := 0) (a := 2) hB (pc := 17) f_89_17 rfl rfl rfl rfl (by omega) (by decide +kernel) (fun _ hB => ?_)
  refine G_S (pc := 20) f_89_20 rfl rfl rfl ?_
  refine G_bi (v := nI 40) (pc := 21) f_89_21 (by decide) ?_
  refine B_na (m := 3) hB (pc := 23) f_89_23 rfl rfl (by decide) (by omega) (by decide +kernel) (fun _ hB => ?_)
  refine B_pR (i := 0) (a := 3) hB (pc := 25) f_89_25 rfl rfl rfl rfl (by omega) (by decide +kernel) (fun _ hB => ?_)
  refine G_rv (pc := 28) f_89_28 ?_
  exact ⟨rfl, hB⟩
theorem c_flNew (hB : Bd b M0 [(2, 5)] [] M) (hb : b < 990000) : CG C 32 [.ref b] M (fun w M' => w = none ∧ Bd b M0 [(2, 5), (50, 24), (50, 25), (50, 25), (50, 25)] [(0, 1, 1), (0, 2, 2), (0, 3, 3), (0, 4, 4)] M') := by
  refine CG_in (mL := 1) (hl := false) (lv := [some (.ref b)]) (ll := []) rfl rfl rfl ?_
  refine G_S (pc := 0) f_32_0 rfl rfl rfl ?_
  refine G_oi (pc := 1) f_32_1 rfl rfl (by omega) (by decide) ?_
  refine G_S (pc := 4) f_32_4 rfl rfl rfl ?_
  refine G_bi (v := nI 24) (pc := 5) f_32_5 (by decide) ?_
  refine B_na (m := 1) hB (pc := 7) f_32_7 rfl rfl (by decide) (by omega) (by decide +kernel) (fun _ hB => ?_)
  refine B_pR (i := 0) (a := 1) hB (pc := 9) f_32_9 rfl rfl rfl rfl (by omega) (by decide +kernel) (fun _ hB => ?_)
  refine G_S (pc := 12) f_32_12 rfl rfl rfl ?_
  refine G_bi (v := nI 25) (pc := 13) f_32_13 (by decide) ?_
  refine B_na (m := 2) hB (pc := 15) f_32_15 rfl rfl (by decide) (by omega) (by decide +kernel) (fun _ hB => ?_)
  refine B_pR (i := 0) (a := 2) hB (pc := 17) f_32_17 rfl rfl rfl rfl (by omega) (by decide +kernel) (fun _ hB => ?_)
  refine G_S (pc := 20) f_32_20 rfl rfl rfl ?_
  refine G_bi (v := nI 25) (pc := 21) f_32_21 (by decide) ?_
  refine B_na (m := 3) hB (pc := 23) f_32_23 rfl rfl (by decide) (by omega) (by decide +kernel) (fun _ hB => ?_)
  refine B_pR (i := 0) (a := 3) hB (pc := 25) f_32_25 rfl rfl rfl rfl (by omega) (by decide +kernel) (fun _ hB => ?_)
  refine G_S (pc := 28) f_32_28 rfl rfl rfl ?_
  refine G_bi (v := nI 25) (pc := 29) f_32_29 (by decide) ?_
  refine B_na (m := 4) hB (pc := 31) f_32_31 rfl rfl (by decide) (by omega) (by decide +kernel) (fun _ hB => ?_)
  refine B_pR (i := 0) (a := 4) hB (pc := 33) f_32_33 rfl rfl rfl rfl (by omega) (by decide +kernel) (fun _ hB => ?_)
  refine G_S (pc := 36) f_32_36 rfl rfl rfl ?_
  refine G_CV (pc := 37) f_32_37 rfl rfl (by decide) rfl rfl (hB.ty (i := 0) rfl) (by decide) ⟨Nat.le_of_ble_eq_true rfl, Nat.le_of_ble_eq_true rfl⟩ ?_
  refine CG.mono (c_flClr (hB.ty (i := 0) rfl) (hB.ty (i := 1) rfl) (hB.rf (i := 0) (by decide))) ?_
  rintro _ M1 ⟨rfl, hF⟩
  replace hB := hB.ge hF
  refine G_rv (pc := 40) f_32_40 ?_
  exact ⟨rfl, hB⟩
theorem c_sgNew (hB : Bd b M0 [(7, 10)] [] M) (hb : b < 990000) : CG C 93 [.ref b] M (fun w M' => w = none ∧ Bd b M0 [(7, 10), (50, 10), (50, 10), (50, 10), (50, 4), (50, 4)] [(0, 2, 1), (0, 3, 2), (0, 4, 3), (0, 8, 4), (0, 9, 5)] M') := by
  refine CG_in (mL := 1) (hl := false) (lv := [some (.ref b)]) (ll := []) rfl rfl rfl ?_
  refine G_S (pc := 0) f_93_0 rfl rfl rfl ?_
  refine G_oi (pc := 1) f_93_1 rfl rfl (by omega) (by decide) ?_
  refine G_S (pc := 4) f_93_4 rfl rfl rfl ?_
  refine G_bi (v := nI 10) (pc := 5) f_93_5 (by decide) ?_
  refine B_na (m := 1) hB (pc := 7) f_93_7 rfl rfl (by decide) (by omega) (by decide +kernel) (fun _ hB => ?_)
  refine B_pR (i := 0) (a := 1) hB (pc := 9) f_93_9 rfl rfl rfl rfl (by omega) (by decide +kernel) (fun _ hB => ?_)
  refine G_S (pc := 12) f_93_12 rfl rfl rfl ?_
  refine G_bi (v := nI 10) (pc := 13) f_93_13 (by decide) ?_
  refine B_na (m := 2) hB (pc := 15) f_93_15 rfl rfl (by decide) (by omega) (by decide +kernel) (fun _ hB => ?_)
  refine B_pR (i := 0) (a := 2) hB (pc := 17) f_93_17 rfl rfl rfl rfl (by omega) (by decide +kernel) (fun _ hB => ?_)
  refine G_S (pc := 20) f_93_20 rfl rfl rfl ?_
  refine G_bi (v := nI 10) (pc := 21) f_93_21 (by decide) ?_
  refine B_na (m := 3) hB (pc := 23) f_93_23 rfl rfl (by decide) (by omega) (by decide +kernel) (fun _ hB => ?_)
  refine B_pR (i := 0) (a := 3) hB (pc := 25) f_93_25 rfl rfl rfl rfl (by omega) (by decide +kernel) (fun _ hB => ?_)
  refine G_S (pc := 28) f_93_28 rfl rfl rfl ?_
  refine G_ic (v := nI 4) (pc := 29) f_93_29 (by decide) ?_
  refine B_na (m := 4) hB (pc := 30) f_93_30 rfl rfl (by decide) (by omega) (by decide +kernel) (fun _ hB => ?_)
  refine B_pR (i := 0) (a := 4) hB (pc := 32) f_93_32 rfl rfl rfl rfl (by omega) (by decide +kernel) (fun _ hB => ?_)
  refine G_S (pc := 35) f_93_35 rfl rfl rfl ?_
  refine G_ic (v := nI 4) (pc := 36) f_93_36 (by decide) ?_
  refine B_na (m := 5) hB (pc := 37) f_93_37 rfl rfl (by decide) (by omega) (by decide +kernel) (fun _ hB => ?_)
  refine B_pR (i := 0) (a := 5) hB (pc := 39) f_93_39 rfl rfl rfl rfl (by omega) (by decide +kernel) (fun _ hB => ?_)
  refine G_S (pc := 42) f_93_42 rfl rfl rfl ?_
  refine G_CV (pc := 43) f_93_43 rfl rfl (by decide) rfl rfl (hB.ty (i := 0) rfl) (by decide) ⟨Nat.le_of_ble_eq_true rfl, Nat.le_of_ble_eq_true rfl⟩ ?_
  refine CG.mono (c_sgClr (hB.ty (i := 0) rfl)) ?_
  rintro _ M1 ⟨rfl, hF⟩
  replace hB := hB.ge hF
  refine G_rv (pc := 46) f_93_46 ?_
  exact ⟨rfl, hB⟩
theorem c_tdNew (hB : Bd b M0 [(8, 9)] [] M) (hb : b < 900000) : CG C 100 [.ref b] M (fun w M' => w = none ∧ Bd b M0 [(8, 9), (51, 600), (50, 4), (54, 2), (55, 2), (56, 2), (57, 2), (4, 9), (50, 8), (50, 8), (50, 8), (50, 4), (50, 9), (50, 9), (6, 4), (50, 40), (50, 40), (50, 40), (2, 5), (50, 24), (50, 25), (50, 25), (50, 25), (7, 10), (50, 10), (50, 10), (50, 10), (50, 4), (50, 4), (4, 9), (50, 8), (50, 8), (50, 8), (50, 4), (50, 9), (50, 9), (6, 4), (50, 40), (50, 40), (50, 40), (2, 5), (50, 24), (50, 25), (50, 25), (50, 25), (7, 10), (50, 10), (50, 10), (50, 10), (50, 4), (50, 4)] [(0, 0, 1), (0, 4, 2), (0, 5, 3), (0, 6, 4), (0, 7, 5), (0, 8, 6), (7, 0, 8), (7, 3, 9), (7, 4, 10), (7, 6, 11), (7, 7, 12), (7, 8, 13), (3, 0, 7), (14, 0, 15), (14, 1, 16), (14, 2, 17), (4, 0, 14), (18, 1, 19), (18, 2, 20), (18, 3, 21), (18, 4, 22), (5, 0, 18), (23, 2, 24), (23, 3, 25), (23, 4, 26), (23, 8, 27), (23, 9, 28), (6, 0, 23), (29, 0, 30), (29, 3, 31), (29, 4, 32), (29, 6, 33), (29, 7, 34), (29, 8, 35), (3, 1, 29), (36, 0, 37), (36, 1, 38), (36, 2, 39), (4, 1, 36), (40, 1, 41), (40, 2, 42), (40, 3, 43), (40, 4, 44), (5, 1, 40), (45, 2, 46), (45, 3, 47), (45, 4, 48), (45, 8, 49), (45, 9, 50), (6, 1, 45)] M') := by
  refine CG_in (mL := 2) (hl := false) (lv := [some (.ref b), none]) (ll := []) rfl rfl rfl ?_
  refine G_S (pc := 0) f_100_0 rfl rfl rfl ?_
  refine G_oi (pc := 1) f_100_1 rfl rfl (by omega) (by decide) ?_
  refine G_S (pc := 4) f_100_4 rfl rfl rfl ?_
  refine G_si (v := nI 600) (pc := 5) f_100_5 (by decide) ?_
  refine B_na (m := 1) hB (pc := 8) f_100_8 rfl rfl (by decide) (by omega) (by decide +kernel) (fun _ hB => ?_)
  refine B_pR (i := 0) (a := 1) hB (pc := 10) f_100_10 rfl rfl rfl rfl (by omega) (by decide +kernel) (fun _ hB => ?_)
  refine G_S (pc := 13) f_100_13 rfl rfl rfl ?_
  refine G_ic (v := zI (-1)) (pc := 14) f_100_14 (by decide) ?_
  refine B_pI (i := 0) hB (pc := 15) f_100_15 rfl rfl rfl (fun _ hB => ?_)
  refine G_S (pc := 18) f_100_18 rfl rfl rfl ?_
  refine G_ic (v := nI 4) (pc := 19) f_100_19 (by decide) ?_
  refine B_na (m := 2) hB (pc := 20) f_100_20 rfl rfl (by decide) (by omega) (by decide +kernel) (fun _ hB => ?_)
  refine B_pR (i := 0) (a := 2) hB (pc := 22) f_100_22 rfl rfl rfl rfl (by omega) (by decide +kernel) (fun _ hB => ?_)
  refine G_S (pc := 25) f_100_25 rfl rfl rfl ?_
  refine G_ic (v := nI 2) (pc := 26) f_100_26 (by decide) ?_
  refine B_nr (m := 3) hB (pc := 27) f_100_27 rfl rfl (by decide) (by omega) (by decide +kernel) (fun _ hB => ?_)
  refine B_pR (i := 0) (a := 3) hB (pc := 30) f_100_30 rfl rfl rfl rfl (by omega) (by decide +kernel) (fun _ hB => ?_)
  refine G_S (pc := 33) f_100_33 rfl rfl rfl ?_
  refine G_ic (v := nI 2) (pc := 34) f_100_34 (by decide) ?_
  refine B_nr (m := 4) hB (pc := 35) f_100_35 rfl rfl (by decide) (by omega) (by decide +kernel) (fun _ hB => ?_)
  refine B_pR (i := 0) (a := 4) hB (pc := 38) f_100_38 rfl rfl rfl rfl (by omega) (by decide +kernel) (fun _ hB => ?_)
  refine G_S (pc := 41) f_100_41 rfl rfl rfl ?_
  refine G_ic (v := nI 2) (pc := 42) f_100_42 (by decide) ?_
  refine B_nr (m := 5) hB (pc := 43) f_100_43 rfl rfl (by decide) (by omega) (by decide +kernel) (fun _ hB => ?_)
  refine B_pR (i := 0) (a := 5) hB (pc := 46) f_100_46 rfl rfl rfl rfl (by omega) (by decide +kernel) (fun _ hB => ?_)
  refine G_S (pc := 49) f_100_49 rfl rfl rfl ?_
  refine G_ic (v := nI 2) (pc := 50) f_100_50 (by decide) ?_
  refine B_nr (m := 6) hB (pc := 51) f_100_51 rfl rfl (by decide) (by omega) (by decide +kernel) (fun _ hB => ?_)
  refine B_pR (i := 0) (a := 6) hB (pc := 54) f_100_54 rfl rfl rfl rfl (by omega) (by decide +kernel) (fun _ hB => ?_)
  refine G_ic (v := nI 0) (pc := 57) f_100_57 (by decide) ?_
  refine G_S (pc := 58) f_100_58 rfl rfl rfl ?_
  refine G_S (pc := 59) f_100_59 rfl rfl rfl ?_
  refine G_ic (v := nI 2) (pc := 60) f_100_60 (by decide) ?_
  refine G_S (pc := 61) f_100_61 rfl rfl rfl ?_
  refine G_S (pc := 64) f_100_64 rfl rfl rfl ?_
  refine B_gR (i := 0) (a := 3) hB (pc := 65) f_100_65 (by decide) rfl rfl rfl (by decide +kernel) ?_
  refine G_S (pc := 68) f_100_68 rfl rfl rfl ?_
  refine B_nn (m := 7) (n := 9) hB (pc := 69) f_100_69 rfl (by decide) rfl rfl (by decide) (by omega) (by decide +kernel) (fun _ hB => ?_)
  refine G_S (pc := 72) f_100_72 rfl rfl rfl ?_
  refine G_CI (pc := 73) f_100_73 rfl rfl (by decide) rfl rfl (by omega) ⟨Nat.le_of_ble_eq_true rfl, Nat.le_of_ble_eq_true rfl⟩ ?_
  refine CG.mono (c_lnNew (hB.last (m := 7) rfl rfl) (by omega)) ?_
  rintro _ M1 ⟨rfl, hB1⟩
  replace hB := hB.cat (m := 7) hB1 rfl rfl (by decide +kernel)
  refine B_as (i := 3) (a := 7) (j := 0) hB (pc := 76) f_100_76 rfl rfl (by decide) (by decide) (by decide) (by decide +kernel) (fun _ hB => ?_)
  refine G_S (pc := 77) f_100_77 rfl rfl rfl ?_
  refine B_gR (i := 0) (a := 4) hB (pc := 78) f_100_78 (by decide) rfl rfl rfl (by decide +kernel) ?_
  refine G_S (pc := 81) f_100_81 rfl rfl rfl ?_
  refine B_nn (m := 14) (n := 4) hB (pc := 82) f_100_82 rfl (by decide) rfl rfl (by decide) (by omega) (by decide +kernel) (fun _ hB => ?_)
  refine G_S (pc := 85) f_100_85 rfl rfl rfl ?_
  refine G_CI (pc := 86) f_100_86 rfl rfl (by decide) rfl rfl (by omega) ⟨Nat.le_of_ble_eq_true rfl, Nat.le_of_ble_eq_true rfl⟩ ?_
  refine CG.mono (c_rdNew (hB.last (m := 14) rfl rfl) (by omega)) ?_
  rintro _ M1 ⟨rfl, hB1⟩
  replace hB := hB.cat (m := 14) hB1 rfl rfl (by decide +kernel)
  refine B_as (i := 4) (a := 14) (j := 0) hB (pc := 89) f_100_89 rfl rfl (by decide) (by decide) (by decide) (by decide +kernel) (fun _ hB => ?_)
  refine G_S (pc := 90) f_100_90 rfl rfl rfl ?_
  refine B_gR (i := 0) (a := 5) hB (pc := 91) f_100_91 (by decide) rfl rfl rfl (by decide +kernel) ?_
  refine G_S (pc := 94) f_100_94 rfl rfl rfl ?_
  refine B_nn (m := 18) (n := 5) hB (pc := 95) f_100_95 rfl (by decide) rfl rfl (by decide) (by omega) (by decide +kernel) (fun _ hB => ?_)
  refine G_S (pc := 98) f_100_98 rfl rfl rfl ?_
  refine G_CI (pc := 99) f_100_99 rfl rfl (by decide) rfl rfl (by omega) ⟨Nat.le_of_ble_eq_true rfl, Nat.le_of_ble_eq_true rfl⟩ ?_
  refine CG.mono (c_flNew (hB.last (m := 18) rfl rfl) (by omega)) ?_
  rintro _ M1 ⟨rfl, hB1⟩
  replace hB := hB.cat (m := 18) hB1 rfl rfl (by decide +kernel)
  refine B_as (i := 5) (a := 18) (j := 0) hB (pc := 102) f_100_102 rfl rfl (by decide) (by decide) (by decide) (by decide +kernel) (fun _ hB => ?_)
  refine G_S (pc := 103) f_100_103 rfl rfl rfl ?_
  refine B_gR (i := 0) (a := 6) hB (pc := 104) f_100_104 (by decide) rfl rfl rfl (by decide +kernel) ?_
  refine G_S (pc := 107) f_100_107 rfl rfl rfl ?_
  refine B_nn (m := 23) (n := 10) hB (pc := 108) f_100_108 rfl (by decide) rfl rfl (by decide) (by omega) (by decide +kernel) (fun _ hB => ?_)
  refine G_S (pc := 111) f_100_111 rfl rfl rfl ?_
  refine G_CI (pc := 112) f_100_112 rfl rfl (by decide) rfl rfl (by omega) ⟨Nat.le_of_ble_eq_true rfl, Nat.le_of_ble_eq_true rfl⟩ ?_
  refine CG.mono (c_sgNew (hB.last (m := 23) rfl rfl) (by omega)) ?_
  rintro _ M1 ⟨rfl, hB1⟩
  replace hB := hB.cat (m := 23) hB1 rfl rfl (by decide +kernel)
  refine B_as (i := 6) (a := 23) (j := 0) hB (pc := 115) f_100_115 rfl rfl (by decide) (by decide) (by decide) (by decide +kernel) (fun _ hB => ?_)
  refine G_inc1 (pc := 116) f_100_116 rfl ?_
  refine G_S (pc := 119) f_100_119 rfl rfl rfl ?_
  refine G_S (pc := 59) f_100_59 rfl rfl rfl ?_
  refine G_ic (v := nI 2) (pc := 60) f_100_60 (by decide) ?_
  refine G_S (pc := 61) f_100_61 rfl rfl rfl ?_
  refine G_S (pc := 64) f_100_64 rfl rfl rfl ?_
  refine B_gR (i := 0) (a := 3) hB (pc := 65) f_100_65 (by decide) rfl rfl rfl (by decide +kernel) ?_
  refine G_S (pc := 68) f_100_68 rfl rfl rfl ?_
  refine B_nn (m := 29) (n := 9) hB (pc := 69) f_100_69 rfl (by decide) rfl rfl (by decide) (by omega) (by decide +kernel) (fun _ hB => ?_)
  refine G_S (pc := 72) f_100_72 rfl rfl rfl ?_
  refine G_CI (pc := 73) f_100_73 rfl rfl (by decide) rfl rfl (by omega) ⟨Nat.le_of_ble_eq_true rfl, Nat.le_of_ble_eq_true rfl⟩ ?_
  refine CG.mono (c_lnNew (hB.last (m := 29) rfl rfl) (by omega)) ?_
  rintro _ M1 ⟨rfl, hB1⟩
  replace hB := hB.cat (m := 29) hB1 rfl rfl (by decide +kernel)
  refine B_as (i := 3) (a := 29) (j := 1) hB (pc := 76) f_100_76 rfl rfl (by decide) (by decide) (by decide) (by decide +kernel) (fun _ hB => ?_)
  refine G_S (pc := 77) f_100_77 rfl rfl rfl ?_
  refine B_gR (i := 0) (a := 4) hB (pc := 78) f_100_78 (by decide) rfl rfl rfl (by decide +kernel) ?_
  refine G_S (pc := 81) f_100_81 rfl rfl rfl ?_
  refine B_nn (m := 36) (n := 4) hB (pc := 82) f_100_82 rfl (by decide) rfl rfl (by decide) (by omega) (by decide +kernel) (fun _ hB => ?_)
  refine G_S (pc := 85) f_100_85 rfl rfl rfl ?_
  refine G_CI (pc := 86) f_100_86 rfl rfl (by decide) rfl rfl (by omega) ⟨Nat.le_of_ble_eq_true rfl, Nat.le_of_ble_eq_true rfl⟩ ?_
  refine CG.mono (c_rdNew (hB.last (m := 36) rfl rfl) (by omega)) ?_
  rintro _ M1 ⟨rfl, hB1⟩
  replace hB := hB.cat (m := 36) hB1 rfl rfl (by decide +kernel)
  refine B_as (i := 4) (a := 36) (j := 1) hB (pc := 89) f_100_89 rfl rfl (by decide) (by decide) (by decide) (by decide +kernel) (fun _ hB => ?_)
  refine G_S (pc := 90) f_100_90 rfl rfl rfl ?_
  refine B_gR (i := 0) (a := 5) hB (pc := 91) f_100_91 (by decide) rfl rfl rfl (by decide +kernel) ?_
  refine G_S (pc := 94) f_100_94 rfl rfl rfl ?_
  refine B_nn (m := 40) (n := 5) hB (pc := 95) f_100_95 rfl (by decide) rfl rfl (by decide) (by omega) (by decide +kernel) (fun _ hB => ?_)
  refine G_S (pc := 98) f_100_98 rfl rfl rfl ?_
  refine G_CI (pc := 99) f_100_99 rfl rfl (by decide) rfl rfl (by omega) ⟨Nat.le_of_ble_eq_true rfl, Nat.le_of_ble_eq_true rfl⟩ ?_
  refine CG.mono (c_flNew (hB.last (m := 40) rfl rfl) (by omega)) ?_
  rintro _ M1 ⟨rfl, hB1⟩
  replace hB := hB.cat (m := 40) hB1 rfl rfl (by decide +kernel)
  refine B_as (i := 5) (a := 40) (j := 1) hB (pc := 102) f_100_102 rfl rfl (by decide) (by decide) (by decide) (by decide +kernel) (fun _ hB => ?_)
  refine G_S (pc := 103) f_100_103 rfl rfl rfl ?_
  refine B_gR (i := 0) (a := 6) hB (pc := 104) f_100_104 (by decide) rfl rfl rfl (by decide +kernel) ?_
  refine G_S (pc := 107) f_100_107 rfl rfl rfl ?_
  refine B_nn (m := 45) (n := 10) hB (pc := 108) f_100_108 rfl (by decide) rfl rfl (by decide) (by omega) (by decide +kernel) (fun _ hB => ?_)
  refine G_S (pc := 111) f_100_111 rfl rfl rfl ?_
  refine G_CI (pc := 112) f_100_112 rfl rfl (by decide) rfl rfl (by omega) ⟨Nat.le_of_ble_eq_true rfl, Nat.le_of_ble_eq_true rfl⟩ ?_
  refine CG.mono (c_sgNew (hB.last (m := 45) rfl rfl) (by omega)) ?_
  rintro _ M1 ⟨rfl, hB1⟩
  replace hB := hB.cat (m := 45) hB1 rfl rfl (by decide +kernel)
  refine B_as (i := 6) (a := 45) (j := 1) hB (pc := 115) f_100_115 rfl rfl (by decide) (by decide) (by decide) (by decide +kernel) (fun _ hB => ?_)
  refine G_inc1 (pc := 116) f_100_116 rfl ?_
  refine G_S (pc := 119) f_100_119 rfl rfl rfl ?_
  refine G_S (pc := 59) f_100_59 rfl rfl rfl ?_
  refine G_ic (v := nI 2) (pc := 60) f_100_60 (by decide) ?_
  refine G_S (pc := 61) f_100_61 rfl rfl rfl ?_
  refine G_rv (pc := 122) f_100_122 ?_
  exact ⟨rfl, hB⟩
/-- the cells and references of a new Told -/
def TTd : List (Nat × Nat) := [(8, 9), (51, 600), (50, 4), (54, 2), (55, 2), (56, 2), (57, 2), (4, 9), (50, 8), (50, 8), (50, 8), (50, 4), (50, 9), (50, 9), (6, 4), (50, 40), (50, 40), (50, 40), (2, 5), (50, 24), (50, 25), (50, 25), (50, 25), (7, 10), (50, 10), (50, 10), (50, 10), (50, 4), (50, 4), (4, 9), (50, 8), (50, 8), (50, 8), (50, 4), (50, 9), (50, 9), (6, 4), (50, 40), (50, 40), (50, 40), (2, 5), (50, 24), (50, 25), (50, 25), (50, 25), (7, 10), (50, 10), (50, 10), (50, 10), (50, 4), (50, 4)]
def RTd : List (Nat × Nat × Nat) := [(0, 0, 1), (0, 4, 2), (0, 5, 3), (0, 6, 4), (0, 7, 5), (0, 8, 6), (7, 0, 8), (7, 3, 9), (7, 4, 10), (7, 6, 11), (7, 7, 12), (7, 8, 13), (3, 0, 7), (14, 0, 15), (14, 1, 16), (14, 2, 17), (4, 0, 14), (18, 1, 19), (18, 2, 20), (18, 3, 21), (18, 4, 22), (5, 0, 18), (23, 2, 24), (23, 3, 25), (23, 4, 26), (23, 8, 27), (23, 9, 28), (6, 0, 23), (29, 0, 30), (29, 3, 31), (29, 4, 32), (29, 6, 33), (29, 7, 34), (29, 8, 35), (3, 1, 29), (36, 0, 37), (36, 1, 38), (36, 2, 39), (4, 1, 36), (40, 1, 41), (40, 2, 42), (40, 3, 43), (40, 4, 44), (5, 1, 40), (45, 2, 46), (45, 3, 47), (45, 4, 48), (45, 8, 49), (45, 9, 50), (6, 1, 45)]
theorem BT_new (h : Bd b M0 TTd RTd M) : BT M b := by
  refine ⟨⟨h.ty (i := 0) rfl, h.ty (i := 1) rfl, h.ty (i := 2) rfl, h.ty (i := 3) rfl, h.ty (i := 4) rfl, h.ty (i := 5) rfl, h.ty (i := 6) rfl⟩, ⟨h.rf (i := 0) (k := 0) (a := 1) (by decide +kernel), h.rf (i := 0) (k := 4) (a := 2) (by decide +kernel), h.rf (i := 0) (k := 5) (a := 3) (by decide +kernel), h.rf (i := 0) (k := 6) (a := 4) (by decide +kernel), h.rf (i := 0) (k := 7) (a := 5) (by decide +kernel), h.rf (i := 0) (k := 8) (a := 6) (by decide +kernel)⟩, fun l hl => ?_⟩
  rcases (show l = 0 ∨ l = 1 by omega) with rfl | rfl
  · exact ⟨⟨h.rf (i := 3) (k := 0) (a := 7) (by decide +kernel), h.rf (i := 4) (k := 0) (a := 14) (by decide +kernel), h.rf (i := 5) (k := 0) (a := 18) (by decide +kernel), h.rf (i := 6) (k := 0) (a := 23) (by decide +kernel)⟩, ⟨⟨⟨h.ty (i := 7) rfl, h.ty (i := 8) rfl, h.ty (i := 9) rfl, h.ty (i := 10) rfl, h.ty (i := 11) rfl, h.ty (i := 12) rfl, h.ty (i := 13) rfl⟩, h.rf (i := 7) (k := 0) (a := 8) (by decide +kernel), h.rf (i := 7) (k := 3) (a := 9) (by decide +kernel), h.rf (i := 7) (k := 4) (a := 10) (by decide +kernel), h.rf (i := 7) (k := 6) (a := 11) (by decide +kernel), h.rf (i := 7) (k := 7) (a := 12) (by decide +kernel), h.rf (i := 7) (k := 8) (a := 13) (by decide +kernel)⟩, ⟨⟨h.ty (i := 14) rfl, h.ty (i := 15) rfl, h.ty (i := 16) rfl, h.ty (i := 17) rfl⟩, h.rf (i := 14) (k := 0) (a := 15) (by decide +kernel), h.rf (i := 14) (k := 1) (a := 16) (by decide +kernel), h.rf (i := 14) (k := 2) (a := 17) (by decide +kernel)⟩, ⟨⟨h.ty (i := 18) rfl, h.ty (i := 19) rfl, h.ty (i := 20) rfl, h.ty (i := 21) rfl, h.ty (i := 22) rfl⟩, h.rf (i := 18) (k := 1) (a := 19) (by decide +kernel), h.rf (i := 18) (k := 2) (a := 20) (by decide +kernel), h.rf (i := 18) (k := 3) (a := 21) (by decide +kernel), h.rf (i := 18) (k := 4) (a := 22) (by decide +kernel)⟩, ⟨⟨h.ty (i := 23) rfl, h.ty (i := 24) rfl, h.ty (i := 25) rfl, h.ty (i := 26) rfl, h.ty (i := 27) rfl, h.ty (i := 28) rfl⟩, h.rf (i := 23) (k := 2) (a := 24) (by decide +kernel), h.rf (i := 23) (k := 3) (a := 25) (by decide +kernel), h.rf (i := 23) (k := 4) (a := 26) (by decide +kernel), h.rf (i := 23) (k := 8) (a := 27) (by decide +kernel), h.rf (i := 23) (k := 9) (a := 28) (by decide +kernel)⟩⟩⟩
  · exact ⟨⟨h.rf (i := 3) (k := 1) (a := 29) (by decide +kernel), h.rf (i := 4) (k := 1) (a := 36) (by decide +kernel), h.rf (i := 5) (k := 1) (a := 40) (by decide +kernel), h.rf (i := 6) (k := 1) (a := 45) (by decide +kernel)⟩, ⟨⟨⟨h.ty (i := 29) rfl, h.ty (i := 30) rfl, h.ty (i := 31) rfl, h.ty (i := 32) rfl, h.ty (i := 33) rfl, h.ty (i := 34) rfl, h.ty (i := 35) rfl⟩, h.rf (i := 29) (k := 0) (a := 30) (by decide +kernel), h.rf (i := 29) (k := 3) (a := 31) (by decide +kernel), h.rf (i := 29) (k := 4) (a := 32) (by decide +kernel), h.rf (i := 29) (k := 6) (a := 33) (by decide +kernel), h.rf (i := 29) (k := 7) (a := 34) (by decide +kernel), h.rf (i := 29) (k := 8) (a := 35) (by decide +kernel)⟩, ⟨⟨h.ty (i := 36) rfl, h.ty (i := 37) rfl, h.ty (i := 38) rfl, h.ty (i := 39) rfl⟩, h.rf (i := 36) (k := 0) (a := 37) (by decide +kernel), h.rf (i := 36) (k := 1) (a := 38) (by decide +kernel), h.rf (i := 36) (k := 2) (a := 39) (by decide +kernel)⟩, ⟨⟨h.ty (i := 40) rfl, h.ty (i := 41) rfl, h.ty (i := 42) rfl, h.ty (i := 43) rfl, h.ty (i := 44) rfl⟩, h.rf (i := 40) (k := 1) (a := 41) (by decide +kernel), h.rf (i := 40) (k := 2) (a := 42) (by decide +kernel), h.rf (i := 40) (k := 3) (a := 43) (by decide +kernel), h.rf (i := 40) (k := 4) (a := 44) (by decide +kernel)⟩, ⟨⟨h.ty (i := 45) rfl, h.ty (i := 46) rfl, h.ty (i := 47) rfl, h.ty (i := 48) rfl, h.ty (i := 49) rfl, h.ty (i := 50) rfl⟩, h.rf (i := 45) (k := 2) (a := 46) (by decide +kernel), h.rf (i := 45) (k := 3) (a := 47) (by decide +kernel), h.rf (i := 45) (k := 4) (a := 48) (by decide +kernel), h.rf (i := 45) (k := 8) (a := 49) (by decide +kernel), h.rf (i := 45) (k := 9) (a := 50) (by decide +kernel)⟩⟩⟩
end BDC
