/-! the reference's places for all that is told -/
def MSl (M : Mm) (k : Nat) (s : Sg) : Prop := (M.2.1 100 k = nI s.len ∧ M.2.1 101 k = nI s.flt.1 ∧ M.2.1 102 k = plI s.flt) ∧ (∀ i, i < s.len → M.2.1 99 (600 * k + i) = zI (s.tp i)) ∧ (∀ so, so < 4 → M.2.1 103 (4 * k + so) = nI (s.ct so)) ∧ (∀ l, l < s.ct 0 → DOK (s.L l) ∧ ∀ j, j < 39 → M.2.1 104 (78 * k + (39 * l + j)) = nI (s.L l j)) ∧ (∀ l, l < s.ct 1 → ROK (s.P l) ∧ ∀ j : Nat, (j : Int) < 1 + 3 * s.P l 0 → M.2.1 105 (242 * k + (121 * l + j)) = zI (s.P l j)) ∧ (∀ l, l < s.ct 2 → FOK (s.F l) ∧ ∀ j, j < 25 → M.2.1 106 (50 * k + (25 * l + j)) = nI (s.F l j)) ∧ ∀ l, l < s.ct 3 → SOK (s.Z l) ∧ ∀ j, j < 2 + 3 * s.Z l 1 → M.2.1 107 (64 * k + (32 * l + j)) = nI (s.Z l j)
/-- two places of the reference alike -/
def MQk (M M' : Mm) (k k' : Nat) : Prop := (M'.2.1 100 k = M.2.1 100 k' ∧ M'.2.1 101 k = M.2.1 101 k' ∧ M'.2.1 102 k = M.2.1 102 k') ∧ (∀ i, i < 600 → M'.2.1 99 (600 * k + i) = M.2.1 99 (600 * k' + i) ∨ M'.2.1 99 (600 * k + i) = (M.2.1 99 (600 * k' + i)).toInt8.toInt32) ∧ (∀ i, i < 4 → M'.2.1 103 (4 * k + i) = M.2.1 103 (4 * k' + i)) ∧ (∀ i, i < 78 → M'.2.1 104 (78 * k + i) = M.2.1 104 (78 * k' + i)) ∧ (∀ i, i < 242 → M'.2.1 105 (242 * k + i) = M.2.1 105 (242 * k' + i)) ∧ (∀ i, i < 50 → M'.2.1 106 (50 * k + i) = M.2.1 106 (50 * k' + i)) ∧ ∀ i, i < 64 → M'.2.1 107 (64 * k + i) = M.2.1 107 (64 * k' + i)
theorem zI_8 {z : Int} (h : -128 ≤ z ∧ z < 128) : (zI z).toInt8.toInt32 = zI z := by
  apply Int32.toInt_inj.mp
  rw [Int8.toInt_toInt32, Int32.toInt_toInt8, zI_toInt (by omega) (by omega)]
  rw [Int.bmod_eq_of_le (by omega) (by omega)]
theorem MSl.eq {M M' : Mm} {k k' : Nat} {s : Sg} (h : MSl M k' s) (hs : SgOK s) (q : MQk M M' k k') : MSl M' k s := by
  obtain ⟨⟨h1, h2, h3⟩, ht, hc, hL, hP, hF, hZ⟩ := h
  obtain ⟨⟨q1, q2, q3⟩, qt, qc, qL, qP, qF, qZ⟩ := q
  obtain ⟨s1, s2, s3, s4, s5⟩ := hs
  refine ⟨⟨q1.trans h1, q2.trans h2, q3.trans h3⟩, fun i hi => (by
    rcases qt i (by omega) with q | q
    · exact q.trans (ht i hi)
    · rw [q, ht i hi, zI_8 (s2 i hi)]), fun so hso => (qc so hso).trans (hc so hso), fun l hl => ?_, fun l hl => ?_, fun l hl => ?_, fun l hl => ?_⟩
  · have := s5 0
    exact ⟨(hL l hl).1, fun j hj => (qL _ (by omega)).trans ((hL l hl).2 j hj)⟩
  · have := s5 1
    have hr := (hP l hl).1.1
    exact ⟨(hP l hl).1, fun j hj => (qP _ (by omega)).trans ((hP l hl).2 j hj)⟩
  · have := s5 2
    exact ⟨(hF l hl).1, fun j hj => (qF _ (by omega)).trans ((hF l hl).2 j hj)⟩
  · have := s5 3
    have hr : s.Z l 1 ≤ 10 := (hZ l hl).1.2.1
    exact ⟨(hZ l hl).1, fun j hj => (qZ _ (by omega)).trans ((hZ l hl).2 j hj)⟩
theorem MSl.Ls {M : Mm} {s : Sg} (h : MSl M 0 s) (hs : SgOK s) (hK : KM M.1 M.2.2.2) : MLs M (s.ct 0) s.L := by
  have hc := hs.2.2.2.2 0
  refine ⟨hK, h.2.2.1 0 (by decide), hc, fun l hl => ⟨by omega, (h.2.2.2.1 l hl).1, fun j hj => ?_⟩⟩
  have e := (h.2.2.2.1 l hl).2 j hj
  rw [Nat.mul_zero, Nat.zero_add] at e
  exact e
theorem MSl.Rs {M : Mm} {s : Sg} (h : MSl M 0 s) (hs : SgOK s) (hK : KM M.1 M.2.2.2) : MRs M (s.ct 1) s.P := by
  have hc := hs.2.2.2.2 1
  refine ⟨hK, h.2.2.1 1 (by decide), hc, fun l hl => ⟨(h.2.2.2.2.1 l hl).1, fun j hj => ?_⟩⟩
  have e := (h.2.2.2.2.1 l hl).2 j hj
  rw [Nat.mul_zero, Nat.zero_add] at e
  exact e
theorem MSl.Fs {M : Mm} {s : Sg} (h : MSl M 0 s) (hs : SgOK s) (hK : KM M.1 M.2.2.2) : MFs M (s.ct 2) s.F := by
  have hc := hs.2.2.2.2 2
  refine ⟨hK, h.2.2.1 2 (by decide), hc, fun l hl => ⟨(h.2.2.2.2.2.1 l hl).1, fun j hj => ?_⟩⟩
  have e := (h.2.2.2.2.2.1 l hl).2 j hj
  rw [Nat.mul_zero, Nat.zero_add] at e
  exact e
theorem MSl.Ss {M : Mm} {s : Sg} (h : MSl M 0 s) (hs : SgOK s) (hK : KM M.1 M.2.2.2) : MSs M (s.ct 3) s.Z := by
  have hc := hs.2.2.2.2 3
  refine ⟨hK, h.2.2.1 3 (by decide), hc, fun l hl => ⟨(h.2.2.2.2.2.2 l hl).1, fun j hj => ?_⟩⟩
  have e := (h.2.2.2.2.2.2 l hl).2 j hj
  rw [Nat.mul_zero, Nat.zero_add] at e
  exact e
theorem MSl.g {M M' : Mm} {k : Nat} {s : Sg} (h : MSl M k s) (hs : SgOK s) (e : ∀ i, 99 ≤ i → i ≤ 107 → M'.2.1 i = M.2.1 i) : MSl M' k s := by
  refine h.eq hs ?_
  unfold MQk
  rw [e 99 (by decide) (by decide), e 100 (by decide) (by decide), e 101 (by decide) (by decide), e 102 (by decide) (by decide), e 103 (by decide) (by decide), e 104 (by decide) (by decide), e 105 (by decide) (by decide), e 106 (by decide) (by decide), e 107 (by decide) (by decide)]
  exact ⟨⟨rfl, rfl, rfl⟩, fun _ _ => Or.inl rfl, fun _ _ => rfl, fun _ _ => rfl, fun _ _ => rfl, fun _ _ => rfl, fun _ _ => rfl⟩
section MCR
variable {C : Ct} {M : Mm} {o n N a c : Nat}
theorem m_copyRow (T : M.1[o]? = some (50, N)) (hn : n ≤ 300) (ha : a < 4) (hc : c < 4) (hac : a ≠ c) (hN : 4 * n ≤ N) (hN2 : N < 2000) : CG C 194 [.ref o, .int (nI n), .int (nI a), .int (nI c)] M (fun w M' => w = none ∧ ∃ X, M' = (M.1, X, M.2.2.1, M.2.2.2) ∧ (∀ i, i ≠ o → X i = M.2.1 i) ∧ (∀ j, j < n → X o (n * c + j) = M.2.1 o (n * a + j)) ∧ ∀ j, j < n * c ∨ n * c + n ≤ j → X o j = M.2.1 o j) := by
  have ma : n * a ≤ n * 3 := Nat.mul_le_mul_left n (by omega)
  have mc : n * c ≤ n * 3 := Nat.mul_le_mul_left n (by omega)
  have sep : n * a + n ≤ n * c ∨ n * c + n ≤ n * a := by
    rcases Nat.lt_or_gt_of_ne hac with h | h
    · exact Or.inl (Nat.mul_le_mul_left n h)
    · exact Or.inr (Nat.mul_le_mul_left n h)
  have loop : ∀ i, i ≤ n → ∀ X, (∀ i, i ≠ o → X i = M.2.1 i) → (∀ j, j < i → X o (n * c + j) = M.2.1 o (n * a + j)) → (∀ j, j < n * c ∨ n * c + i ≤ j → X o j = M.2.1 o j) → G C 194 (3, [some (.ref o), some (.int (nI n)), some (.int (nI a)), some (.int (nI c)), some (.int (nI i))], [], [], (M.1, X, M.2.2.1, M.2.2.2)) (fun w M' => w = none ∧ ∃ X, M' = (M.1, X, M.2.2.1, M.2.2.2) ∧ (∀ i, i ≠ o → X i = M.2.1 i) ∧ (∀ j, j < n → X o (n * c + j) = M.2.1 o (n * a + j)) ∧ ∀ j, j < n * c ∨ n * c + n ≤ j → X o j = M.2.1 o j) := by
    refine upto (fun i hi ih X h1 h2 h3 => ?_)
    by_cases hin : i < n
    · refine G_S (pc := 3) f_194_3 rfl rfl rfl ?_
      refine G_S (pc := 5) f_194_5 rfl rfl rfl ?_
      refine G_jgeZ (pc := 6) f_194_6 rfl (by first | exact nI_toInt (by omega) | exact zI_toInt (by omega) (by omega) | rfl) (by first | exact nI_toInt (by omega) | exact zI_toInt (by omega) (by omega) | rfl) (fun b1 => ?_) (fun b1 => ?_)
      · exfalso; omega
      · refine G_S (pc := 9) f_194_9 rfl rfl rfl ?_
        refine G_S (pc := 10) f_194_10 rfl rfl rfl ?_
        refine G_S (pc := 11) f_194_11 rfl rfl rfl ?_
        first | refine G_mulN (pc := 12) f_194_12 ?_ | refine G_mulZ (pc := 12) f_194_12 (by first | rfl | exact nI_zI _) (by first | rfl | exact nI_zI _) ?_ | refine G_S (pc := 12) f_194_12 rfl rfl rfl ?_
        refine G_S (pc := 13) f_194_13 rfl rfl rfl ?_
        first | refine G_addN (pc := 15) f_194_15 ?_ | refine G_addZ (pc := 15) f_194_15 (by first | rfl | exact nI_zI _) (by first | rfl | exact nI_zI _) ?_ | refine G_S (pc := 15) f_194_15 rfl rfl rfl ?_
        refine G_S (pc := 16) f_194_16 rfl rfl rfl ?_
        refine G_S (pc := 17) f_194_17 rfl rfl rfl ?_
        refine G_S (pc := 18) f_194_18 rfl rfl rfl ?_
        first | refine G_mulN (pc := 19) f_194_19 ?_ | refine G_mulZ (pc := 19) f_194_19 (by first | rfl | exact nI_zI _) (by first | rfl | exact nI_zI _) ?_ | refine G_S (pc := 19) f_194_19 rfl rfl rfl ?_
        refine G_S (pc := 20) f_194_20 rfl rfl rfl ?_
        first | refine G_addN (pc := 22) f_194_22 ?_ | refine G_addZ (pc := 22) f_194_22 (by first | rfl | exact nI_zI _) (by first | rfl | exact nI_zI _) ?_ | refine G_S (pc := 22) f_194_22 rfl rfl rfl ?_
        refine G_iaN (pc := 23) f_194_23 (by first | assumption | exact hK.1 _ _ rfl) (by omega) (by omega) (by first | exact (h3 _ (by omega)) | rfl) ?_
        refine G_isN (pc := 24) f_194_24 (by first | assumption | exact hK.1 _ _ rfl) (by omega) (by omega) ?_
        first | refine G_inc1 (pc := 25) f_194_25 rfl ?_ | refine G_S (pc := 25) f_194_25 rfl rfl rfl ?_
        refine G_S (pc := 28) f_194_28 rfl rfl rfl ?_
        refine ih hin _ (fun j hj => ?_) (fun j hj => ?_) (fun j hj => ?_)
        · exact (up2_ne hj).trans (h1 j hj)
        · by_cases q : j = i
          · subst q
            exact up2_s
          · exact up2_o (by omega) (h2 j (by omega))
        · exact up2_o (by omega) (h3 j (by omega))
    · refine G_S (pc := 3) f_194_3 rfl rfl rfl ?_
      refine G_S (pc := 5) f_194_5 rfl rfl rfl ?_
      refine G_jgeZ (pc := 6) f_194_6 rfl (by first | exact nI_toInt (by omega) | exact zI_toInt (by omega) (by omega) | rfl) (by first | exact nI_toInt (by omega) | exact zI_toInt (by omega) (by omega) | rfl) (fun b1 => ?_) (fun b1 => ?_)
      · refine G_rv (pc := 31) f_194_31 ?_
        obtain rfl : i = n := by omega
        exact ⟨rfl, X, rfl, h1, h2, h3⟩
      · exfalso; omega
  refine CG_in (mL := 5) (hl := false) (lv := [some (.ref o), some (.int (nI n)), some (.int (nI a)), some (.int (nI c)), none]) (ll := []) rfl rfl rfl ?_
  refine G_ic (v := nI 0) (pc := 0) f_194_0 (by decide) ?_
  refine G_S (pc := 1) f_194_1 rfl rfl rfl ?_
  exact loop 0 (Nat.zero_le _) _ (fun _ _ => rfl) (fun j hj => absurd hj (Nat.not_lt_zero j)) (fun j hj => rfl)
theorem m_copyAll (hK : KM M.1 M.2.2.2) (ha : a < 4) (hc : c < 4) (hac : a ≠ c) : CG C 195 [.ref 98, .int (nI a), .int (nI c)] M (fun w M' => w = none ∧ Fo [99, 100, 101, 102, 103, 104, 105, 106, 107] M M' ∧ MQk M M' c a ∧ ∀ k, k < 4 → k ≠ c → MQk M M' k k) := by
  have loop : ∀ i, i ≤ 600 → ∀ X, (∀ i, i ≠ 99 → X i = M.2.1 i) → (∀ j, j < i → X 99 (600 * c + j) = (M.2.1 99 (600 * a + j)).toInt8.toInt32) → (∀ j, j < 600 * c ∨ 600 * c + i ≤ j → X 99 j = M.2.1 99 j) → G C 195 (2, [some (.ref 98), some (.int (nI a)), some (.int (nI c)), some (.int (nI i))], [], [], (M.1, X, M.2.2.1, M.2.2.2)) (fun w M' => w = none ∧ Fo [99, 100, 101, 102, 103, 104, 105, 106, 107] M M' ∧ MQk M M' c a ∧ ∀ k, k < 4 → k ≠ c → MQk M M' k k) := by
    refine upto (fun i hi ih X h1 h2 h3 => ?_)
    by_cases hin : i < 600
    · refine G_S (pc := 2) f_195_2 rfl rfl rfl ?_
      refine G_si (v := nI 600) (pc := 3) f_195_3 (by decide) ?_
      refine G_jgeZ (pc := 6) f_195_6 rfl (by first | exact nI_toInt (by omega) | exact zI_toInt (by omega) (by omega) | rfl) (by first | exact nI_toInt (by omega) | exact zI_toInt (by omega) (by omega) | rfl) (fun b1 => ?_) (fun b1 => ?_)
      · exfalso; omega
      · refine G_S (pc := 9) f_195_9 rfl rfl rfl ?_
        refine G_gR (pc := 10) f_195_10 (by decide) rfl (by first | assumption | exact hK.1 _ _ rfl) (by first | assumption | exact hK.2 _ _ _ rfl | (try dsimp only) <;> (repeat (first | exact up2_s | refine up2_o (by first | decide | omega) ?_)) <;> first | assumption | exact hK.2 _ _ _ rfl) ?_
        refine G_si (v := nI 600) (pc := 13) f_195_13 (by decide) ?_
        refine G_S (pc := 16) f_195_16 rfl rfl rfl ?_
        first | refine G_mulN (pc := 17) f_195_17 ?_ | refine G_mulZ (pc := 17) f_195_17 (by first | rfl | exact nI_zI _) (by first | rfl | exact nI_zI _) ?_ | refine G_S (pc := 17) f_195_17 rfl rfl rfl ?_
        refine G_S (pc := 18) f_195_18 rfl rfl rfl ?_
        first | refine G_addN (pc := 19) f_195_19 ?_ | refine G_addZ (pc := 19) f_195_19 (by first | rfl | exact nI_zI _) (by first | rfl | exact nI_zI _) ?_ | refine G_S (pc := 19) f_195_19 rfl rfl rfl ?_
        refine G_S (pc := 20) f_195_20 rfl rfl rfl ?_
        refine G_gR (pc := 21) f_195_21 (by decide) rfl (by first | assumption | exact hK.1 _ _ rfl) (by first | assumption | exact hK.2 _ _ _ rfl | (try dsimp only) <;> (repeat (first | exact up2_s | refine up2_o (by first | decide | omega) ?_)) <;> first | assumption | exact hK.2 _ _ _ rfl) ?_
        refine G_si (v := nI 600) (pc := 24) f_195_24 (by decide) ?_
        refine G_S (pc := 27) f_195_27 rfl rfl rfl ?_
        first | refine G_mulN (pc := 28) f_195_28 ?_ | refine G_mulZ (pc := 28) f_195_28 (by first | rfl | exact nI_zI _) (by first | rfl | exact nI_zI _) ?_ | refine G_S (pc := 28) f_195_28 rfl rfl rfl ?_
        refine G_S (pc := 29) f_195_29 rfl rfl rfl ?_
        first | refine G_addN (pc := 30) f_195_30 ?_ | refine G_addZ (pc := 30) f_195_30 (by first | rfl | exact nI_zI _) (by first | rfl | exact nI_zI _) ?_ | refine G_S (pc := 30) f_195_30 rfl rfl rfl ?_
        refine G_baN (pc := 31) f_195_31 (by first | assumption | exact hK.1 _ _ rfl) (by decide) (by omega) (by omega) (by first | exact (h3 _ (by omega)) | rfl) ?_
        refine G_bsN (pc := 32) f_195_32 (by first | assumption | exact hK.1 _ _ rfl) (by omega) (by omega) ?_
        first | refine G_inc1 (pc := 33) f_195_33 rfl ?_ | refine G_S (pc := 33) f_195_33 rfl rfl rfl ?_
        refine G_S (pc := 36) f_195_36 rfl rfl rfl ?_
        refine ih hin _ (fun j hj => ?_) (fun j hj => ?_) (fun j hj => ?_)
        · exact (up2_ne hj).trans (h1 j hj)
        · by_cases q : j = i
          · subst q
            exact up2_s
          · exact up2_o (by omega) (h2 j (by omega))
        · exact up2_o (by omega) (h3 j (by omega))
    · obtain rfl : i = 600 := by omega
      have hT := hK.1
      refine G_S (pc := 2) f_195_2 rfl rfl rfl ?_
      refine G_si (v := nI 600) (pc := 3) f_195_3 (by decide) ?_
      refine G_jgeZ (pc := 6) f_195_6 rfl (by first | exact nI_toInt (by omega) | exact zI_toInt (by omega) (by omega) | rfl) (by first | exact nI_toInt (by omega) | exact zI_toInt (by omega) (by omega) | rfl) (fun b1 => ?_) (fun b1 => ?_)
      · refine G_S (pc := 39) f_195_39 rfl rfl rfl ?_
        refine G_gR (pc := 40) f_195_40 (by decide) rfl (by first | assumption | exact hK.1 _ _ rfl) (by first | assumption | exact hK.2 _ _ _ rfl | (try dsimp only) <;> (repeat (first | exact up2_s | refine up2_o (by first | decide | omega) ?_)) <;> first | assumption | exact hK.2 _ _ _ rfl) ?_
        refine G_ic (v := nI 1) (pc := 43) f_195_43 (by decide) ?_
        refine G_S (pc := 44) f_195_44 rfl rfl rfl ?_
        refine G_S (pc := 45) f_195_45 rfl rfl rfl ?_
        refine G_CS (pc := 46) f_195_46 rfl rfl (by decide) rfl rfl ⟨Nat.le_of_ble_eq_true rfl, Nat.le_of_ble_eq_true rfl⟩ ?_
        refine CG.mono (m_copyRow (n := 1) (hT 100 _ rfl) (by decide) ha hc hac (by decide) (by decide)) ?_
        rintro _ M1 ⟨rfl, X1, rfl, a1, b1, c1⟩
        dsimp only at a1 b1 c1
        refine G_S (pc := 49) f_195_49 rfl rfl rfl ?_
        refine G_gR (pc := 50) f_195_50 (by decide) rfl (by first | assumption | exact hK.1 _ _ rfl) (by first | assumption | exact hK.2 _ _ _ rfl | (try dsimp only) <;> (repeat (first | exact up2_s | refine up2_o (by first | decide | omega) ?_)) <;> first | assumption | exact hK.2 _ _ _ rfl) ?_
        refine G_ic (v := nI 1) (pc := 53) f_195_53 (by decide) ?_
        refine G_S (pc := 54) f_195_54 rfl rfl rfl ?_
        refine G_S (pc := 55) f_195_55 rfl rfl rfl ?_
        refine G_CS (pc := 56) f_195_56 rfl rfl (by decide) rfl rfl ⟨Nat.le_of_ble_eq_true rfl, Nat.le_of_ble_eq_true rfl⟩ ?_
        refine CG.mono (m_copyRow (n := 1) (hT 101 _ rfl) (by decide) ha hc hac (by decide) (by decide)) ?_
        rintro _ M2 ⟨rfl, X2, rfl, a2, b2, c2⟩
        dsimp only at a2 b2 c2
        refine G_S (pc := 59) f_195_59 rfl rfl rfl ?_
        refine G_gR (pc := 60) f_195_60 (by decide) rfl (by first | assumption | exact hK.1 _ _ rfl) (by first | assumption | exact hK.2 _ _ _ rfl | (try dsimp only) <;> (repeat (first | exact up2_s | refine up2_o (by first | decide | omega) ?_)) <;> first | assumption | exact hK.2 _ _ _ rfl) ?_
        refine G_ic (v := nI 1) (pc := 63) f_195_63 (by decide) ?_
        refine G_S (pc := 64) f_195_64 rfl rfl rfl ?_
        refine G_S (pc := 65) f_195_65 rfl rfl rfl ?_
        refine G_CS (pc := 66) f_195_66 rfl rfl (by decide) rfl rfl ⟨Nat.le_of_ble_eq_true rfl, Nat.le_of_ble_eq_true rfl⟩ ?_
        refine CG.mono (m_copyRow (n := 1) (hT 102 _ rfl) (by decide) ha hc hac (by decide) (by decide)) ?_
        rintro _ M3 ⟨rfl, X3, rfl, a3, b3, c3⟩
        dsimp only at a3 b3 c3
        refine G_S (pc := 69) f_195_69 rfl rfl rfl ?_
        refine G_gR (pc := 70) f_195_70 (by decide) rfl (by first | assumption | exact hK.1 _ _ rfl) (by first | assumption | exact hK.2 _ _ _ rfl | (try dsimp only) <;> (repeat (first | exact up2_s | refine up2_o (by first | decide | omega) ?_)) <;> first | assumption | exact hK.2 _ _ _ rfl) ?_
        refine G_ic (v := nI 4) (pc := 73) f_195_73 (by decide) ?_
        refine G_S (pc := 74) f_195_74 rfl rfl rfl ?_
        refine G_S (pc := 75) f_195_75 rfl rfl rfl ?_
        refine G_CS (pc := 76) f_195_76 rfl rfl (by decide) rfl rfl ⟨Nat.le_of_ble_eq_true rfl, Nat.le_of_ble_eq_true rfl⟩ ?_
        refine CG.mono (m_copyRow (n := 4) (hT 103 _ rfl) (by decide) ha hc hac (by decide) (by decide)) ?_
        rintro _ M4 ⟨rfl, X4, rfl, a4, b4, c4⟩
        dsimp only at a4 b4 c4
        refine G_S (pc := 79) f_195_79 rfl rfl rfl ?_
        refine G_gR (pc := 80) f_195_80 (by decide) rfl (by first | assumption | exact hK.1 _ _ rfl) (by first | assumption | exact hK.2 _ _ _ rfl | (try dsimp only) <;> (repeat (first | exact up2_s | refine up2_o (by first | decide | omega) ?_)) <;> first | assumption | exact hK.2 _ _ _ rfl) ?_
        refine G_bi (v := nI 78) (pc := 83) f_195_83 (by decide) ?_
        refine G_S (pc := 85) f_195_85 rfl rfl rfl ?_
        refine G_S (pc := 86) f_195_86 rfl rfl rfl ?_
        refine G_CS (pc := 87) f_195_87 rfl rfl (by decide) rfl rfl ⟨Nat.le_of_ble_eq_true rfl, Nat.le_of_ble_eq_true rfl⟩ ?_
        refine CG.mono (m_copyRow (n := 78) (hT 104 _ rfl) (by decide) ha hc hac (by decide) (by decide)) ?_
        rintro _ M5 ⟨rfl, X5, rfl, a5, b5, c5⟩
        dsimp only at a5 b5 c5
        refine G_S (pc := 90) f_195_90 rfl rfl rfl ?_
        refine G_gR (pc := 91) f_195_91 (by decide) rfl (by first | assumption | exact hK.1 _ _ rfl) (by first | assumption | exact hK.2 _ _ _ rfl | (try dsimp only) <;> (repeat (first | exact up2_s | refine up2_o (by first | decide | omega) ?_)) <;> first | assumption | exact hK.2 _ _ _ rfl) ?_
        refine G_si (v := nI 242) (pc := 94) f_195_94 (by decide) ?_
        refine G_S (pc := 97) f_195_97 rfl rfl rfl ?_
        refine G_S (pc := 98) f_195_98 rfl rfl rfl ?_
        refine G_CS (pc := 99) f_195_99 rfl rfl (by decide) rfl rfl ⟨Nat.le_of_ble_eq_true rfl, Nat.le_of_ble_eq_true rfl⟩ ?_
        refine CG.mono (m_copyRow (n := 242) (hT 105 _ rfl) (by decide) ha hc hac (by decide) (by decide)) ?_
        rintro _ M6 ⟨rfl, X6, rfl, a6, b6, c6⟩
        dsimp only at a6 b6 c6
        refine G_S (pc := 102) f_195_102 rfl rfl rfl ?_
        refine G_gR (pc := 103) f_195_103 (by decide) rfl (by first | assumption | exact hK.1 _ _ rfl) (by first | assumption | exact hK.2 _ _ _ rfl | (try dsimp only) <;> (repeat (first | exact up2_s | refine up2_o (by first | decide | omega) ?_)) <;> first | assumption | exact hK.2 _ _ _ rfl) ?_
        refine G_bi (v := nI 50) (pc := 106) f_195_106 (by decide) ?_
        refine G_S (pc := 108) f_195_108 rfl rfl rfl ?_
        refine G_S (pc := 109) f_195_109 rfl rfl rfl ?_
        refine G_CS (pc := 110) f_195_110 rfl rfl (by decide) rfl rfl ⟨Nat.le_of_ble_eq_true rfl, Nat.le_of_ble_eq_true rfl⟩ ?_
        refine CG.mono (m_copyRow (n := 50) (hT 106 _ rfl) (by decide) ha hc hac (by decide) (by decide)) ?_
        rintro _ M7 ⟨rfl, X7, rfl, a7, b7, c7⟩
        dsimp only at a7 b7 c7
        refine G_S (pc := 113) f_195_113 rfl rfl rfl ?_
        refine G_gR (pc := 114) f_195_114 (by decide) rfl (by first | assumption | exact hK.1 _ _ rfl) (by first | assumption | exact hK.2 _ _ _ rfl | (try dsimp only) <;> (repeat (first | exact up2_s | refine up2_o (by first | decide | omega) ?_)) <;> first | assumption | exact hK.2 _ _ _ rfl) ?_
        refine G_bi (v := nI 64) (pc := 117) f_195_117 (by decide) ?_
        refine G_S (pc := 119) f_195_119 rfl rfl rfl ?_
        refine G_S (pc := 120) f_195_120 rfl rfl rfl ?_
        refine G_CS (pc := 121) f_195_121 rfl rfl (by decide) rfl rfl ⟨Nat.le_of_ble_eq_true rfl, Nat.le_of_ble_eq_true rfl⟩ ?_
        refine CG.mono (m_copyRow (n := 64) (hT 107 _ rfl) (by decide) ha hc hac (by decide) (by decide)) ?_
        rintro _ M8 ⟨rfl, X8, rfl, a8, b8, c8⟩
        dsimp only at a8 b8 c8
        refine G_rv (pc := 124) f_195_124 ?_
        have k99 : X8 99 = X 99 := by rw [a8 99 (by decide), a7 99 (by decide), a6 99 (by decide), a5 99 (by decide), a4 99 (by decide), a3 99 (by decide), a2 99 (by decide), a1 99 (by decide)]
        have k100 : X8 100 = X1 100 := by rw [a8 100 (by decide), a7 100 (by decide), a6 100 (by decide), a5 100 (by decide), a4 100 (by decide), a3 100 (by decide), a2 100 (by decide)]
        have p100 : X 100 = M.2.1 100 := by exact h1 100 (by decide)
        have k101 : X8 101 = X2 101 := by rw [a8 101 (by decide), a7 101 (by decide), a6 101 (by decide), a5 101 (by decide), a4 101 (by decide), a3 101 (by decide)]
        have p101 : X1 101 = M.2.1 101 := by rw [a1 101 (by decide)]; exact h1 101 (by decide)
        have k102 : X8 102 = X3 102 := by rw [a8 102 (by decide), a7 102 (by decide), a6 102 (by decide), a5 102 (by decide), a4 102 (by decide)]
        have p102 : X2 102 = M.2.1 102 := by rw [a2 102 (by decide), a1 102 (by decide)]; exact h1 102 (by decide)
        have k103 : X8 103 = X4 103 := by rw [a8 103 (by decide), a7 103 (by decide), a6 103 (by decide), a5 103 (by decide)]
        have p103 : X3 103 = M.2.1 103 := by rw [a3 103 (by decide), a2 103 (by decide), a1 103 (by decide)]; exact h1 103 (by decide)
        have k104 : X8 104 = X5 104 := by rw [a8 104 (by decide), a7 104 (by decide), a6 104 (by decide)]
        have p104 : X4 104 = M.2.1 104 := by rw [a4 104 (by decide), a3 104 (by decide), a2 104 (by decide), a1 104 (by decide)]; exact h1 104 (by decide)
        have k105 : X8 105 = X6 105 := by rw [a8 105 (by decide), a7 105 (by decide)]
        have p105 : X5 105 = M.2.1 105 := by rw [a5 105 (by decide), a4 105 (by decide), a3 105 (by decide), a2 105 (by decide), a1 105 (by decide)]; exact h1 105 (by decide)
        have k106 : X8 106 = X7 106 := by rw [a8 106 (by decide)]
        have p106 : X6 106 = M.2.1 106 := by rw [a6 106 (by decide), a5 106 (by decide), a4 106 (by decide), a3 106 (by decide), a2 106 (by decide), a1 106 (by decide)]; exact h1 106 (by decide)
        have p107 : X7 107 = M.2.1 107 := by rw [a7 107 (by decide), a6 107 (by decide), a5 107 (by decide), a4 107 (by decide), a3 107 (by decide), a2 107 (by decide), a1 107 (by decide)]; exact h1 107 (by decide)
        simp only [Nat.one_mul] at b1 c1 b2 c2 b3 c3
        refine ⟨rfl, ⟨⟨rfl, rfl⟩, fun i hi => ⟨?_, rfl⟩⟩, ⟨⟨?_, ?_, ?_⟩, fun i hi => Or.inr ?_, fun i hi => ?_, fun i hi => ?_, fun i hi => ?_, fun i hi => ?_, fun i hi => ?_⟩, fun k hk hkc => ⟨⟨?_, ?_, ?_⟩, fun i hi => Or.inl ?_, fun i hi => ?_, fun i hi => ?_, fun i hi => ?_, fun i hi => ?_, fun i hi => ?_⟩⟩
        · simp only [List.mem_cons, List.not_mem_nil, or_false, not_or] at hi
          obtain ⟨z0, z1, z2, z3, z4, z5, z6, z7, z8⟩ := hi
          show X8 i = _
          rw [a8 i z8, a7 i z7, a6 i z6, a5 i z5, a4 i z4, a3 i z3, a2 i z2, a1 i z1, h1 i z0]
        · show X8 100 c = _
          rw [k100]
          exact (b1 0 (by decide)).trans (by rw [p100]; rfl)
        · show X8 101 c = _
          rw [k101]
          exact (b2 0 (by decide)).trans (by rw [p101]; rfl)
        · show X8 102 c = _
          rw [k102]
          exact (b3 0 (by decide)).trans (by rw [p102]; rfl)
        · show X8 99 _ = _
          rw [k99]
          exact h2 i hi
        · show X8 103 _ = _
          rw [k103, b4 i hi, p103]
        · show X8 104 _ = _
          rw [k104, b5 i hi, p104]
        · show X8 105 _ = _
          rw [k105, b6 i hi, p105]
        · show X8 106 _ = _
          rw [k106, b7 i hi, p106]
        · show X8 107 _ = _
          rw [b8 i hi, p107]
        · show X8 100 k = _
          rw [k100, c1 k (by omega), p100]
        · show X8 101 k = _
          rw [k101, c2 k (by omega), p101]
        · show X8 102 k = _
          rw [k102, c3 k (by omega), p102]
        · show X8 99 _ = _
          rw [k99]
          exact h3 _ (by omega)
        · show X8 103 _ = _
          rw [k103, c4 _ (by omega), p103]
        · show X8 104 _ = _
          rw [k104, c5 _ (by omega), p104]
        · show X8 105 _ = _
          rw [k105, c6 _ (by omega), p105]
        · show X8 106 _ = _
          rw [k106, c7 _ (by omega), p106]
        · show X8 107 _ = _
          rw [c8 _ (by omega), p107]
      · exfalso; omega
  refine CG_in (mL := 4) (hl := false) (lv := [some (.ref 98), some (.int (nI a)), some (.int (nI c)), none]) (ll := []) rfl rfl rfl ?_
  refine G_ic (v := nI 0) (pc := 0) f_195_0 (by decide) ?_
  refine G_S (pc := 1) f_195_1 rfl rfl rfl ?_
  exact loop 0 (Nat.zero_le _) _ (fun _ _ => rfl) (fun j hj => absurd hj (Nat.not_lt_zero j)) (fun j hj => rfl)
end MCR
