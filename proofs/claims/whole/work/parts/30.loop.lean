/-! the start -/
def s0 : Sg := (fun _ => 0, 0, (0, 0), fun _ => 0, fun _ _ => 0, fun _ _ => 0, fun _ _ => 0, fun _ _ => 0)
def good1 (M : Mm) : Bool := good0 M && (decide ((M.2.1 1 1 = 0 ∧ M.2.1 1 2 = 0 ∧ M.2.1 1 3 = -1) ∧ (M.2.1 100 0 = 0 ∧ M.2.1 101 0 = 0 ∧ M.2.1 102 0 = -1) ∧ M.2.1 24 5 = 0 ∧ M.2.1 46 5 = 0) && (decide ((M.2.1 3 0 = 0 ∧ M.2.1 3 1 = 0 ∧ M.2.1 3 2 = 0 ∧ M.2.1 3 3 = 0) ∧ (M.2.1 103 0 = 0 ∧ M.2.1 103 1 = 0 ∧ M.2.1 103 2 = 0 ∧ M.2.1 103 3 = 0)) && decide ((M.2.1 130 0 = 0 ∧ M.2.1 130 1 = 0 ∧ M.2.1 130 2 = 0) ∧ (M.2.2.2 52 0 = none ∧ M.2.2.2 52 1 = none ∧ M.2.2.2 52 2 = none))))
def start2 : Bool := match mk 144 11 8 1 Mem0 with
  | none => false
  | some Ma => decide (Ma.1.length = 98) && (match mk 188 12 58 1 Ma with
    | none => false
    | some M => good1 M)
set_option maxRecDepth 1000000 in
theorem start2_ok : start2 = true := by decide +kernel
theorem start_ex : ∃ Ma M, mk 144 11 8 1 Mem0 = some Ma ∧ Ma.1.length = 98 ∧ mk 188 12 58 1 Ma = some M ∧ good1 M = true := by
  have h := start2_ok
  unfold start2 at h
  revert h
  generalize mk 144 11 8 1 Mem0 = q
  intro h
  cases q with
  | none => exact absurd h Bool.false_ne_true
  | some Ma =>
    replace h : (decide (Ma.1.length = 98) && (match mk 188 12 58 1 Ma with
      | none => false
      | some M => good1 M)) = true := h
    rw [Bool.and_eq_true] at h
    obtain ⟨h1, h2⟩ := h
    revert h2
    generalize hr : mk 188 12 58 1 Ma = r
    intro h2
    cases r with
    | none => exact absurd h2 Bool.false_ne_true
    | some M => exact ⟨Ma, M, rfl, of_decide_eq_true h1, hr, h2⟩
theorem mk_ev {y kd n mL : Nat} {M M2 : Mm} (h : mk y kd n mL M = some M2) : ev (fun _ => none) 4000 y (0, entV [.ref M.1.length] mL, [], [], nwM M kd n) = some (none, M2) ∧ M.1.length < 999999 ∧ n ≤ 100000 := by
  unfold mk at h
  by_cases hc : M.1.length < 999999 ∧ n ≤ 100000
  · rw [nw_eq hc.1 hc.2] at h
    dsimp only at h
    revert h
    generalize ev (fun _ => none) 4000 y (0, entV [.ref M.1.length] mL, [], [], nwM M kd n) = q
    intro h
    cases q with
    | none => exact absurd (show some M2 = none from (show none = some M2 from h).symm) (Option.some_ne_none _)
    | some w =>
      obtain ⟨v, M3⟩ := w
      cases v with
      | none =>
        have e : M3 = M2 := Option.some.inj (show some M3 = some M2 from h)
        rw [e]
        exact ⟨rfl, hc⟩
      | some v => exact absurd (show some M2 = none from (show none = some M2 from h).symm) (Option.some_ne_none _)
  · have e : nw M kd n = none := if_neg hc
    rw [e] at h
    exact absurd (show some M2 = none from (show none = some M2 from h).symm) (Option.some_ne_none _)
theorem CG_ev {C : Ct} {y mL r : Nat} {M M2 : Mm} (hm : mi y = some (mL, false)) (h : ev (fun _ => none) 4000 y (0, entV [.ref r] mL, [], [], M) = some (none, M2)) : CG C y [.ref r] M (fun w M' => w = none ∧ M' = M2) := CG_in hm rfl rfl ⟨4000, none, M2, ev_C h, rfl, rfl⟩
theorem Jn_start {M : Mm} (h : good1 M = true) : Jn M := by
  unfold good1 at h
  rw [Bool.and_eq_true, Bool.and_eq_true, Bool.and_eq_true] at h
  obtain ⟨g0, h1, h2, h3⟩ := h
  obtain ⟨⟨a1, a2, a3⟩, ⟨b1, b2, b3⟩, a4, a5⟩ := of_decide_eq_true h1
  obtain ⟨⟨c0, c1, c2, c3⟩, ⟨d0, d1, d2, d3⟩⟩ := of_decide_eq_true h2
  obtain ⟨⟨k0, k1, k2⟩, ⟨r0, r1, r2⟩⟩ := of_decide_eq_true h3
  unfold good0 at g0
  rw [Bool.and_eq_true] at g0
  have e1 : M.1 = T0 := of_decide_eq_true g0.1
  have hR := List.all_eq_true.mp g0.2
  have hK : KM M.1 M.2.2.2 := ⟨by rw [e1]; exact fun _ _ q => q, fun i k a q => by
    unfold R0 at q
    split at q
    · rename_i p l a' hf
      cases q
      have h1 := List.mem_of_find?_eq_some hf
      have h2 := List.find?_some hf
      simp only [Bool.and_eq_true, beq_iff_eq] at h2
      have h3 : M.2.2.2 p l = some a := of_decide_eq_true (hR _ h1)
      rw [h2.1, h2.2] at h3
      exact h3
    · cases q⟩
  refine ⟨s0, fun _ => none, fun _ => s0, ⟨hK, ⟨?_, ?_⟩, ?_, ?_, fun k hk _ => ?_, fun k p hk q => (by cases q), fun k k' p hk hk' q => (by cases q)⟩, ⟨?_, fun k hk _ => ?_, fun k p hk q => (by cases q)⟩⟩
  · rw [e1]
    decide +kernel
  · rw [e1]
    decide +kernel
  · exact ⟨Nat.zero_le _, fun i hi => absurd hi (Nat.not_lt_zero i), trivial, trivial, fun _ => Nat.zero_le _⟩
  · refine ⟨⟨a1, a2, a3⟩, fun i hi => absurd hi (Nat.not_lt_zero i), fun so hso => ?_, ⟨fun l hl => absurd hl (Nat.not_lt_zero l), fun l hl => absurd hl (Nat.not_lt_zero l), fun l hl => absurd hl (Nat.not_lt_zero l), fun l hl => absurd hl (Nat.not_lt_zero l)⟩, fun l hl => ?_⟩
    · rcases (show so = 0 ∨ so = 1 ∨ so = 2 ∨ so = 3 by omega) with rfl | rfl | rfl | rfl
      · exact c0
      · exact c1
      · exact c2
      · exact c3
    · rcases (show l = 0 ∨ l = 1 by omega) with rfl | rfl
      · exact Or.inl a4
      · exact Or.inl a5
  · rcases (show k = 0 ∨ k = 1 ∨ k = 2 by omega) with rfl | rfl | rfl
    · exact r0
    · exact r1
    · exact r2
  · refine ⟨⟨b1, b2, b3⟩, fun i hi => absurd hi (Nat.not_lt_zero i), fun so hso => ?_, fun l hl => absurd hl (Nat.not_lt_zero l), fun l hl => absurd hl (Nat.not_lt_zero l), fun l hl => absurd hl (Nat.not_lt_zero l), fun l hl => absurd hl (Nat.not_lt_zero l)⟩
    rcases (show so = 0 ∨ so = 1 ∨ so = 2 ∨ so = 3 by omega) with rfl | rfl | rfl | rfl
    · exact d0
    · exact d1
    · exact d2
    · exact d3
  · rcases (show k = 0 ∨ k = 1 ∨ k = 2 by omega) with rfl | rfl | rfl
    · exact k0
    · exact k1
    · exact k2
/-! the law's loop -/
section LAWL
variable {C : Ct} {L : Nat} {xs : Nat → Int32}
theorem and63 (x : Int32) : ∃ c, c < 64 ∧ x &&& nI 63 = nI c := by
  have e : x = nI x.toBitVec.toNat := by
    apply Int32.toBitVec_inj.mp
    show x.toBitVec = BitVec.ofNat 32 x.toBitVec.toNat
    rw [BitVec.ofNat_toNat, BitVec.setWidth_eq]
  refine ⟨x.toBitVec.toNat &&& 63, Nat.lt_succ_of_le Nat.and_le_right, ?_⟩
  rw [← nI_and, ← e]
def lwE (w : Option Value) (M : Mm) : Prop := w = some (.int 1) ∧ M.1.length ≤ 600000 ∧ ssum M.1 ≤ 7302250
theorem Jn.fin {M : Mm} (H : Jn M) : M.1.length ≤ 600000 ∧ ssum M.1 ≤ 7302250 := by
  obtain ⟨s, a, z, I, J⟩ := H
  refine ⟨I.len, ?_⟩
  rw [I.2.1.2]
  have h0 : ssum T0 ≤ 100000 := by decide +kernel
  have h1 : ssum TTd ≤ 10000 := by decide +kernel
  have h2 := Nat.mul_le_mul h1 (cnI_le a)
  omega
theorem law_loop (hC : CK C) (hS : C 1000300 = some (50, L, xs)) (hL : L ≤ 3072) : ∀ n i M, L ≤ i + n → i ≤ 3072 → Jn M → G C 331 (18, [some (.ref 1000300), some (.ref 0), some (.ref 98), some (.int (nI i))], [], [], M) lwE := by
  intro n
  induction n with
  | zero =>
    intro i M hn hi H
    have hM := H.len
    refine G_S (pc := 18) f_331_18 rfl rfl rfl ?_
    refine G_S (pc := 19) f_331_19 rfl rfl rfl ?_
    refine G_lenC (pc := 20) f_331_20 (con_none hM (by omega)) hS (by decide) ?_
    refine G_bi (v := nI 6) (pc := 21) f_331_21 (by decide) ?_
    refine G_subZ (za := (L : Int)) (zb := 6) (pc := 23) f_331_23 (nI_zI L) (nI_zI 6) ?_
    refine G_jgtZ (pc := 24) f_331_24 rfl (nI_toInt (by omega)) (zI_toInt (by omega) (by omega)) (fun b1 => ?_) (fun b1 => ?_)
    · refine G_ic (v := nI 1) (pc := 1454) f_331_1454 (by decide) ?_
      refine G_rz (pc := 1455) f_331_1455 (Or.inr rfl) ?_
      exact ⟨rfl, H.fin⟩
    · exfalso
      omega
  | succ n ih =>
    intro i M hn hi H
    have hM := H.len
    refine G_S (pc := 18) f_331_18 rfl rfl rfl ?_
    refine G_S (pc := 19) f_331_19 rfl rfl rfl ?_
    refine G_lenC (pc := 20) f_331_20 (con_none hM (by omega)) hS (by decide) ?_
    refine G_bi (v := nI 6) (pc := 21) f_331_21 (by decide) ?_
    refine G_subZ (za := (L : Int)) (zb := 6) (pc := 23) f_331_23 (nI_zI L) (nI_zI 6) ?_
    refine G_jgtZ (pc := 24) f_331_24 rfl (nI_toInt (by omega)) (zI_toInt (by omega) (by omega)) (fun b1 => ?_) (fun b1 => ?_)
    · refine G_ic (v := nI 1) (pc := 1454) f_331_1454 (by decide) ?_
      refine G_rz (pc := 1455) f_331_1455 (Or.inr rfl) ?_
      exact ⟨rfl, H.fin⟩
    · have hi6 : i + 6 ≤ L := by omega
      have fin : ∀ M', Jn M' → G C 331 (1448, [some (.ref 1000300), some (.ref 0), some (.ref 98), some (.int (nI i))], [], [], M') lwE := fun M' H' => by
        refine G_incN (pc := 1448) f_331_1448 rfl (by decide) ?_
        refine G_S (pc := 1451) f_331_1451 rfl rfl rfl ?_
        exact ih (i + 6) M' (by omega) (by omega) H'
      refine G_S (pc := 27) f_331_27 rfl rfl rfl ?_
      refine G_S (pc := 28) f_331_28 rfl rfl rfl ?_
      refine G_iacN (pc := 29) f_331_29 (con_none hM (by omega)) hS (by omega) (by omega) rfl ?_
      refine G_bi (v := nI 63) (pc := 30) f_331_30 (by decide) ?_
      refine G_S (pc := 32) f_331_32 rfl rfl rfl ?_
      obtain ⟨c, hc, e⟩ := and63 (xs i)
      rw [e]
      by_cases hd : 32 < c
      · refine G_tsO (pc := 33) f_331_33 rfl (Or.inr (by rw [nI_toInt (by omega)]; omega)) ?_
        exact fin _ H
      rcases (show c = 0 ∨ c = 1 ∨ c = 2 ∨ c = 3 ∨ c = 4 ∨ c = 5 ∨ c = 6 ∨ c = 7 ∨ c = 8 ∨ c = 9 ∨ c = 10 ∨ c = 11 ∨ c = 12 ∨ c = 13 ∨ c = 14 ∨ c = 15 ∨ c = 16 ∨ c = 17 ∨ c = 18 ∨ c = 19 ∨ c = 20 ∨ c = 21 ∨ c = 22 ∨ c = 23 ∨ c = 24 ∨ c = 25 ∨ c = 26 ∨ c = 27 ∨ c = 28 ∨ c = 29 ∨ c = 30 ∨ c = 31 ∨ c = 32 by omega) with rfl | rfl | rfl | rfl | rfl | rfl | rfl | rfl | rfl | rfl | rfl | rfl | rfl | rfl | rfl | rfl | rfl | rfl | rfl | rfl | rfl | rfl | rfl | rfl | rfl | rfl | rfl | rfl | rfl | rfl | rfl | rfl | rfl
      · refine G_S (pc := 33) f_331_33 rfl rfl rfl ?_
        exact l_feed hS hi6 hL H fin
      · refine G_S (pc := 33) f_331_33 rfl rfl rfl ?_
        exact l_end hS hi6 hL H fin
      · refine G_S (pc := 33) f_331_33 rfl rfl rfl ?_
        exact l_text hC hS hi6 hL H fin
      · refine G_S (pc := 33) f_331_33 rfl rfl rfl ?_
        exact l_fault hS hi6 hL H fin
      · refine G_S (pc := 33) f_331_33 rfl rfl rfl ?_
        exact l_line hS hi6 hL H fin
      · refine G_S (pc := 33) f_331_33 rfl rfl rfl ?_
        exact l_deed hS hi6 hL H fin
      · refine G_S (pc := 33) f_331_33 rfl rfl rfl ?_
        exact l_stop hS hi6 hL H fin
      · refine G_S (pc := 33) f_331_33 rfl rfl rfl ?_
        exact l_state hS hi6 hL H fin
      · refine G_S (pc := 33) f_331_33 rfl rfl rfl ?_
        exact l_comes hS hi6 hL H fin
      · refine G_S (pc := 33) f_331_33 rfl rfl rfl ?_
        exact l_up hS hi6 hL H fin
      · refine G_S (pc := 33) f_331_33 rfl rfl rfl ?_
        exact l_rounds hS hi6 hL H fin
      · refine G_S (pc := 33) f_331_33 rfl rfl rfl ?_
        exact l_calm hS hi6 hL H fin
      · refine G_S (pc := 33) f_331_33 rfl rfl rfl ?_
        exact l_couples hS hi6 hL H fin
      · refine G_S (pc := 33) f_331_33 rfl rfl rfl ?_
        exact l_flow hS hi6 hL H fin
      · refine G_S (pc := 33) f_331_33 rfl rfl rfl ?_
        exact l_leaves hS hi6 hL H fin
      · refine G_S (pc := 33) f_331_33 rfl rfl rfl ?_
        exact l_fact hS hi6 hL H fin
      · refine G_S (pc := 33) f_331_33 rfl rfl rfl ?_
        exact l_fits hS hi6 hL H fin
      · refine G_S (pc := 33) f_331_33 rfl rfl rfl ?_
        exact l_fare hS hi6 hL H fin
      · refine G_S (pc := 33) f_331_33 rfl rfl rfl ?_
        exact l_route hS hi6 hL H fin
      · refine G_S (pc := 33) f_331_33 rfl rfl rfl ?_
        exact l_drawn hS hi6 hL H fin
      · refine G_S (pc := 33) f_331_33 rfl rfl rfl ?_
        exact l_plea hS hi6 hL H fin
      · refine G_S (pc := 33) f_331_33 rfl rfl rfl ?_
        exact l_bears hS hi6 hL H fin
      · refine G_S (pc := 33) f_331_33 rfl rfl rfl ?_
        exact l_spared hS hi6 hL H fin
      · refine G_S (pc := 33) f_331_33 rfl rfl rfl ?_
        exact l_against hS hi6 hL H fin
      · refine G_S (pc := 33) f_331_33 rfl rfl rfl ?_
        exact l_sets hS hi6 hL H fin
      · refine G_S (pc := 33) f_331_33 rfl rfl rfl ?_
        exact l_byTurns hS hi6 hL H fin
      · refine G_S (pc := 33) f_331_33 rfl rfl rfl ?_
        exact l_news hS hi6 hL H fin
      · refine G_S (pc := 33) f_331_33 rfl rfl rfl ?_
        exact l_slack hS hi6 hL H fin
      · refine G_S (pc := 33) f_331_33 rfl rfl rfl ?_
        exact l_orders hS hi6 hL H fin
      · refine G_S (pc := 33) f_331_33 rfl rfl rfl ?_
        exact l_halves hS hi6 hL H fin
      · refine G_S (pc := 33) f_331_33 rfl rfl rfl ?_
        exact l_count hS hi6 hL H fin
      · refine G_S (pc := 33) f_331_33 rfl rfl rfl ?_
        exact l_image hS hi6 hL H fin
      · refine G_S (pc := 33) f_331_33 rfl rfl rfl ?_
        exact l_again hS hi6 hL H fin
theorem law_all (hC : CK C) (hS : C 1000300 = some (50, L, xs)) (hL : L ≤ 3072) : G C 331 (0, [some (.ref 1000300), none, none, none], [], [], Mem0) lwE := by
  obtain ⟨Ma, M, h1, hl, h2, hg⟩ := start_ex
  obtain ⟨e1, -, -⟩ := mk_ev h1
  obtain ⟨e2, -, -⟩ := mk_ev h2
  rw [hl] at e2
  refine G_nn (pc := 0) (n := 8) f_331_0 rfl (by decide) rfl (by decide) (by decide) ?_
  refine G_S (pc := 3) f_331_3 rfl rfl rfl ?_
  refine G_CI (pc := 4) f_331_4 rfl rfl (by decide) rfl rfl (by decide) ⟨Nat.le_of_ble_eq_true rfl, Nat.le_of_ble_eq_true rfl⟩ ?_
  refine CG.mono (CG_ev rfl e1) ?_
  rintro _ M1 ⟨rfl, rfl⟩
  refine G_S (pc := 7) f_331_7 rfl rfl rfl ?_
  refine G_nn (pc := 8) (n := 58) f_331_8 rfl (by decide) rfl (by decide) (by omega) ?_
  rw [hl]
  refine G_S (pc := 11) f_331_11 rfl rfl rfl ?_
  refine G_CI (pc := 12) f_331_12 rfl rfl (by decide) rfl rfl (by decide) ⟨Nat.le_of_ble_eq_true rfl, Nat.le_of_ble_eq_true rfl⟩ ?_
  refine CG.mono (CG_ev rfl e2) ?_
  rintro _ M2 ⟨rfl, rfl⟩
  refine G_S (pc := 15) f_331_15 rfl rfl rfl ?_
  refine G_ic (v := nI 0) (pc := 16) f_331_16 (by decide) ?_
  refine G_S (pc := 17) f_331_17 rfl rfl rfl ?_
  exact law_loop hC hS hL L 0 _ (by omega) (by omega) (Jn_start hg)
end LAWL
theorem whole_start {p : Program} {e : Env} {s : State} {m : MethodId} {below : List Frame} {meth : Method} {c : Code} (l : Launch) {b L : Nat} {xs : Nat → Int32} (hL : L ≤ 3072) (C0 : lw_At p s m meth c b L xs) : W p l e room_1 s m #[Value.ref b] below meth c s.heap [] 0 0 (lw_Z below #[Value.ref b] s) (entryFrame m ([Value.ref b] : List Value).toArray 4) := by
  obtain ⟨n, v, Mf, hev, rfl, hc, hs⟩ := law_all (C := CT L xs) (L := L) (xs := xs) (CK_CT L xs) (if_pos rfl) hL
  exact whole_of l hL C0 hev hc hs
