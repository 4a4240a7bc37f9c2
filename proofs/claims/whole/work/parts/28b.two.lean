/-! the calls, one by one: both answer alike, and both stand at one state behind them -/
section TWO
variable {C : Ct} {M M' : Mm} {s s' : Sg} {a : Nat → Option Nat} {z : Nat → Sg} {j p : Nat} {k x y f t u v : Int32}
theorem BT.mv {b : Nat} (q : BT M b) (e1 : ∀ i, b ≤ i → i ≤ b + 50 → M'.1[i]? = M.1[i]?) (e2 : ∀ i, b ≤ i → i ≤ b + 50 → M'.2.2.2 i = M.2.2.2 i) : BT M' b := by
  unfold BT OT LnT RT_ FT_ ST_ at q ⊢
  rw [e1 (b) (by omega) (by omega), e1 (b + 1) (by omega) (by omega), e1 (b + 2) (by omega) (by omega), e1 (b + 3) (by omega) (by omega), e1 (b + 4) (by omega) (by omega), e1 (b + 5) (by omega) (by omega), e1 (b + 6) (by omega) (by omega), e2 b (by omega) (by omega), e2 (b + 3) (by omega) (by omega), e2 (b + 4) (by omega) (by omega), e2 (b + 5) (by omega) (by omega), e2 (b + 6) (by omega) (by omega)]
  refine ⟨q.1, q.2.1, fun l hl => ?_⟩
  have q3 := q.2.2 l hl
  rw [e1 (b + 7 + 22 * l) (by omega) (by omega), e1 (b + 7 + 22 * l + 1) (by omega) (by omega), e1 (b + 7 + 22 * l + 2) (by omega) (by omega), e1 (b + 7 + 22 * l + 3) (by omega) (by omega), e1 (b + 7 + 22 * l + 4) (by omega) (by omega), e1 (b + 7 + 22 * l + 5) (by omega) (by omega), e1 (b + 7 + 22 * l + 6) (by omega) (by omega), e1 (b + 7 + 22 * l + 7) (by omega) (by omega), e1 (b + 7 + 22 * l + 7 + 1) (by omega) (by omega), e1 (b + 7 + 22 * l + 7 + 2) (by omega) (by omega), e1 (b + 7 + 22 * l + 7 + 3) (by omega) (by omega), e1 (b + 7 + 22 * l + 11) (by omega) (by omega), e1 (b + 7 + 22 * l + 11 + 1) (by omega) (by omega), e1 (b + 7 + 22 * l + 11 + 2) (by omega) (by omega), e1 (b + 7 + 22 * l + 11 + 3) (by omega) (by omega), e1 (b + 7 + 22 * l + 11 + 4) (by omega) (by omega), e1 (b + 7 + 22 * l + 16) (by omega) (by omega), e1 (b + 7 + 22 * l + 16 + 1) (by omega) (by omega), e1 (b + 7 + 22 * l + 16 + 2) (by omega) (by omega), e1 (b + 7 + 22 * l + 16 + 3) (by omega) (by omega), e1 (b + 7 + 22 * l + 16 + 4) (by omega) (by omega), e1 (b + 7 + 22 * l + 16 + 5) (by omega) (by omega), e2 (b + 7 + 22 * l) (by omega) (by omega), e2 (b + 7 + 22 * l + 7) (by omega) (by omega), e2 (b + 7 + 22 * l + 11) (by omega) (by omega), e2 (b + 7 + 22 * l + 16) (by omega) (by omega)]
  exact q3
theorem TTd_len : TTd.length = 51 := by decide
theorem ssum_app (T X : List (Nat × Nat)) : ssum (T ++ X) = ssum T + ssum X := by simp [ssum]
theorem IvC.imO (I : IvC M s a z) (hj : j < 3) (ha : a j = some p) (F : FoB (131 + 51 * p) M M') (c : CB M' (131 + 51 * p) s) : IvC M' s a (up1 z j s) := by
  obtain ⟨hK, hl, hs, hc, h0, h1, hd⟩ := I
  have e1 := F.1.1
  have e2 := F.1.2
  refine ⟨by rw [e1, e2]; exact hK, by rw [e1]; exact hl, hs, hc.B hs F (by omega), fun k hk q => by rw [e2]; exact h0 k hk q, fun k p' hk q => ?_, hd⟩
  obtain ⟨p1, p2, p3, p4, p5⟩ := h1 k p' hk q
  by_cases g : k = j
  · subst g
    obtain rfl : p' = p := Option.some.inj (q.symm.trans ha)
    rw [up1_s]
    exact ⟨p1, by rw [e2]; exact p2, hs, p4.sm e1 e2, c⟩
  · have hp : p' ≠ p := fun w => g (hd k j p' hk hj q (by rw [w]; exact ha))
    rw [up1_o g rfl]
    exact ⟨p1, by rw [e2]; exact p2, p3, p4.sm e1 e2, p5.B p3 F (by omega)⟩
theorem IvC.imF (I : IvC M s a z) (hj : j < 3) (ha : a j = none) (q : INq j s M M') : IvC M' s (up1 a j (some (cnI a))) (up1 z j s) := by
  obtain ⟨hK, ⟨hl, hm⟩, hs, hc, h0, h1, hd⟩ := I
  obtain ⟨e1, e2, e3, e4, hB, c⟩ := q
  have eu := cnI_up (p := cnI a) hj ha
  have hT := TTd_len
  have ho : ∀ j, j ∈ usO → j < 22 := by decide
  have g : ∀ i, i < M.1.length → M'.1[i]? = M.1[i]? := fun i hi => by rw [e1, List.getElem?_append_left hi]
  refine ⟨⟨fun i q z => ?_, fun i k b z => ?_⟩, ⟨?_, ?_⟩, hs, hc.c1 hs (fun i hi => (e2 i (by have := u2_98 i hi; omega)).1), fun k hk q => ?_, fun k p hk q => ?_, fun k k' p hk hk' q q' => ?_⟩
  · have := T0_lt z
    rw [g i (by omega)]
    exact hK.1 i q z
  · have := R0_lt z
    rw [e3 i k (by omega) (fun w => this.2 w.1)]
    exact hK.2 i k b z
  · rw [e1, List.length_append, eu]
    omega
  · rw [e1, ssum_app, eu, hm, Nat.mul_add_one]
    omega
  · by_cases w : k = j
    · subst w
      rw [up1_s] at q
      cases q
    · rw [up1_o w rfl] at q
      rw [e3 52 k (by omega) (fun v => w v.2)]
      exact h0 k hk q
  · rw [eu]
    by_cases w : k = j
    · subst w
      rw [up1_s] at q
      obtain rfl := Option.some.inj q
      rw [up1_s, ← hl]
      exact ⟨Nat.lt_succ_self _, e4, hs, hB, c⟩
    · rw [up1_o w rfl] at q ⊢
      obtain ⟨p1, p2, p3, p4, p5⟩ := h1 k p hk q
      refine ⟨by omega, (e3 52 k (by omega) (fun v => w v.2)).trans p2, p3, p4.mv (fun i h1 h2 => g i (by omega)) (fun i h1 h2 => funext (fun k => e3 i k (by omega) (by omega))), p5.eq p3 (BQ.self (e2 _ (by omega)).1 (e2 _ (by omega)).1 (e2 _ (by omega)).1 (fun l hl j hj => (e2 _ (by have := ho j hj; omega)).1))⟩
  · by_cases w : k = j
    · by_cases w' : k' = j
      · rw [w, w']
      · rw [w, up1_s] at q
        rw [up1_o w' rfl] at q'
        obtain rfl := Option.some.inj q
        have := (h1 k' _ hk' q').1
        omega
    · by_cases w' : k' = j
      · rw [w', up1_s] at q'
        rw [up1_o w rfl] at q
        obtain rfl := Option.some.inj q'
        have := (h1 k _ hk q).1
        omega
      · rw [up1_o w rfl] at q
        rw [up1_o w' rfl] at q'
        exact hd k k' p hk hk' q q'
theorem IvM.im {a' : Nat → Option Nat} (J : IvM M s a z) (hs : SgOK s) (hj : j < 3) (q1 : MQk M M' (j + 1) 0) (q2 : ∀ k, k < 4 → k ≠ j + 1 → MQk M M' k k) (q3 : M'.2.1 130 j = nI 1) (q4 : ∀ i, i ≠ j → M'.2.1 130 i = M.2.1 130 i) (ha : ∀ k, k ≠ j → a' k = a k) (haj : a' j ≠ none) : IvM M' s a' (up1 z j s) := by
  obtain ⟨j0, j1, j2⟩ := J
  refine ⟨j0.eq hs (q2 0 (by omega) (by omega)), fun k hk q => ?_, fun k p hk q => ?_⟩
  · by_cases w : k = j
    · subst w
      exact absurd q haj
    · rw [q4 k w]
      exact j1 k hk (by rw [← ha k w]; exact q)
  · by_cases w : k = j
    · subst w
      rw [up1_s]
      exact ⟨q3, hs, j0.eq hs q1⟩
    · rw [up1_o w rfl, q4 k w]
      rw [ha k w] at q
      obtain ⟨p1, p2, p3⟩ := j2 k p hk q
      exact ⟨p1, p2, p3.eq p2 (q2 (k + 1) (by omega) (by omega))⟩
theorem MIo_R : ∀ i, i ∈ MIo → 98 ≤ i ∧ i ≤ 130 := by decide
theorem aLin_cg {o : Option (Nat → Nat)} {d : Int32} {g g' : (Nat → Nat) → Int32} (h : ∀ D, o = some D → g D = g' D) : aLin o d g = aLin o d g' := by
  cases o with
  | none => rfl
  | some D => exact h D rfl
theorem txF_ok (hs : SgOK s) : SgOK (txF s x y).2 := by
  unfold txF
  by_cases ht : tkQ s x y = true
  · rw [if_pos ht]
    split
    · have hq := (of_decide_eq_true ht).2
      refine ptF_ok (txE_ok hs) ?_
      have h2 := hs.2.2.2.2 x.toInt.toNat
      unfold txN
      split <;> omega
    · exact txE_ok hs
  · rw [if_neg ht]
    exact txE_ok hs
theorem w_line (H : Jn M) : ∃ v : Int32, Two C 152 229 [.int k, .int x] M (.int v) := by
  obtain ⟨s, a, z, I, J⟩ := H
  exact ⟨_, Two.ask I J (c_line I.Ls) (fun M1 I1 J1 => g_line (J1.Ls I1))⟩
theorem w_deed (H : Jn M) : ∃ v : Int32, Two C 153 233 [.int k, .int y, .int x] M (.int v) := by
  obtain ⟨s, a, z, I, J⟩ := H
  exact ⟨_, Two.ask I J (c_deed I.Rs) (fun M1 I1 J1 => g_deed (J1.Rs I1))⟩
theorem w_stop (H : Jn M) : ∃ v : Int32, Two C 154 248 [.int k, .int x] M (.int v) := by
  obtain ⟨s, a, z, I, J⟩ := H
  exact ⟨_, Two.ask I J (c_stop I.Ls I.Rs) (fun M1 I1 J1 => g_stop (J1.Ls I1) (J1.Rs I1))⟩
theorem w_state (H : Jn M) : ∃ v : Int32, Two C 155 250 [.int k, .int f, .int y, .int x] M (.int v) := by
  obtain ⟨s, a, z, I, J⟩ := H
  exact ⟨_, Two.ask I J (c_state I.Ls I.Rs) (fun M1 I1 J1 => g_state (J1.Ls I1) (J1.Rs I1))⟩
theorem w_comes (H : Jn M) : ∃ v : Int32, Two C 159 257 [.int k, .int x, .int f] M (.int v) := by
  obtain ⟨s, a, z, I, J⟩ := H
  exact ⟨_, Two.ask I J (c_comes I.Ls) (fun M1 I1 J1 => g_comesT (J1.Ls I1))⟩
theorem w_rounds (H : Jn M) : ∃ v : Int32, Two C 161 267 [.int k, .int x] M (.int v) := by
  obtain ⟨s, a, z, I, J⟩ := H
  exact ⟨_, Two.ask I J (c_rounds I.Ls) (fun M1 I1 J1 => g_rounds (J1.Ls I1))⟩
theorem w_calm (H : Jn M) : ∃ v : Int32, Two C 168 271 [.int k, .int x, .int y, .int f] M (.int v) := by
  obtain ⟨s, a, z, I, J⟩ := H
  exact ⟨_, Two.ask I J (c_calm I.Ls) (fun M1 I1 J1 => g_calm (J1.Ls I1))⟩
theorem w_couples (H : Jn M) : ∃ v : Int32, Two C 169 275 [.int k, .int x, .int y] M (.int v) := by
  obtain ⟨s, a, z, I, J⟩ := H
  exact ⟨_, Two.ask I J (c_couples I.Ls) (fun M1 I1 J1 => g_couples (J1.Ls I1))⟩
theorem w_flow (H : Jn M) : ∃ v : Int32, Two C 174 284 [.int k, .int x] M (.int v) := by
  obtain ⟨s, a, z, I, J⟩ := H
  exact ⟨_, Two.ask I J (c_flow I.Fs) (fun M1 I1 J1 => h_flow (J1.Fs I1))⟩
theorem w_fact (H : Jn M) : ∃ v : Int32, Two C 176 293 [.int k, .int y, .int x] M (.int v) := by
  obtain ⟨s, a, z, I, J⟩ := H
  exact ⟨_, Two.ask I J (c_fact I.Ss) (fun M1 I1 J1 => z_fact (J1.Ss I1))⟩
theorem w_fare (H : Jn M) : ∃ v : Int32, Two C 157 303 [.int k, .int f, .int t, .int x] M (.int v) := by
  obtain ⟨s, a, z, I, J⟩ := H
  exact ⟨_, Two.ask I J (c_fare I.Ls) (fun M1 I1 J1 => g_fare (J1.Ls I1))⟩
theorem w_route (H : Jn M) : ∃ v : Int32, Two C 158 304 [.int k, .int x] M (.int v) := by
  obtain ⟨s, a, z, I, J⟩ := H
  exact ⟨_, Two.ask I J (c_route I.Ls) (fun M1 I1 J1 => g_route (J1.Ls I1))⟩
theorem w_drawn (H : Jn M) : ∃ v : Int32, Two C 156 308 [.int k, .int f, .int y, .int x] M (.int v) := by
  obtain ⟨s, a, z, I, J⟩ := H
  exact ⟨_, Two.ask I J (c_drawn I.Ls) (fun M1 I1 J1 => g_drawn (J1.Ls I1))⟩
theorem w_plea (H : Jn M) : ∃ v : Int32, Two C 163 309 [.int k, .int x] M (.int v) := by
  obtain ⟨s, a, z, I, J⟩ := H
  exact ⟨_, Two.ask I J (c_plea I.Ls) (fun M1 I1 J1 => g_plea (J1.Ls I1))⟩
theorem w_bears (H : Jn M) : ∃ v : Int32, Two C 160 310 [.int k, .int x, .int f] M (.int v) := by
  obtain ⟨s, a, z, I, J⟩ := H
  exact ⟨_, Two.ask I J (c_bears I.Ls) (fun M1 I1 J1 => g_bears (J1.Ls I1))⟩
theorem w_spared (H : Jn M) : ∃ v : Int32, Two C 165 311 [.int k, .int x] M (.int v) := by
  obtain ⟨s, a, z, I, J⟩ := H
  exact ⟨_, Two.ask I J (c_spared I.Ls) (fun M1 I1 J1 => g_spared (J1.Ls I1))⟩
theorem w_against (H : Jn M) : ∃ v : Int32, Two C 171 312 [.int k, .int x] M (.int v) := by
  obtain ⟨s, a, z, I, J⟩ := H
  exact ⟨_, Two.ask I J (c_against I.Ls) (fun M1 I1 J1 => g_against (J1.Ls I1))⟩
theorem w_sets (H : Jn M) : ∃ v : Int32, Two C 172 313 [.int k, .int x] M (.int v) := by
  obtain ⟨s, a, z, I, J⟩ := H
  exact ⟨_, Two.ask I J (c_sets I.Ls) (fun M1 I1 J1 => g_sets (J1.Ls I1))⟩
theorem w_byTurns (H : Jn M) : ∃ v : Int32, Two C 162 314 [.int k, .int x, .int y] M (.int v) := by
  obtain ⟨s, a, z, I, J⟩ := H
  exact ⟨_, Two.ask I J (c_byTurns I.Ls) (fun M1 I1 J1 => g_byTurns (J1.Ls I1))⟩
theorem w_news (H : Jn M) : ∃ v : Int32, Two C 164 315 [.int k, .int x] M (.int v) := by
  obtain ⟨s, a, z, I, J⟩ := H
  exact ⟨_, Two.ask I J (c_news I.Ls) (fun M1 I1 J1 => g_news (J1.Ls I1))⟩
theorem w_slack (H : Jn M) : ∃ v : Int32, Two C 166 316 [.int k, .int x, .int y] M (.int v) := by
  obtain ⟨s, a, z, I, J⟩ := H
  exact ⟨_, Two.ask I J (c_slack I.Ls) (fun M1 I1 J1 => g_slack (J1.Ls I1))⟩
theorem w_orders (H : Jn M) : ∃ v : Int64, Two C 167 317 [.int k, .int x] M (.long v) := by
  obtain ⟨s, a, z, I, J⟩ := H
  exact ⟨_, Two.ask I J (c_orders I.Ls) (fun M1 I1 J1 => g_orders (J1.Ls I1))⟩
theorem w_halves (H : Jn M) : ∃ v : Int32, Two C 173 318 [.int k, .int x] M (.int v) := by
  obtain ⟨s, a, z, I, J⟩ := H
  exact ⟨_, Two.ask I J (c_halves I.Ls) (fun M1 I1 J1 => g_halves (J1.Ls I1))⟩
theorem w_up (H : Jn M) : ∃ v : Int32, Two C 170 265 [.int k, .int x] M (.int v) := by
  obtain ⟨s, a, z, I, J⟩ := H
  refine ⟨_, Two.ask I J (c_up I.Ls) (fun M1 I1 J1 => ?_)⟩
  have e : aLin (lin (s.ct 0) s.L k) (zI (-1)) (fun D => upM D x) = aLin (lin (s.ct 0) s.L k) (zI (-1)) (fun D => upF D x) := aLin_cg (fun D hD => by
    obtain ⟨l, hl, _, rfl⟩ := lin_some hD
    exact up_eq (I.cb.2.2.2.1.1 l hl).1.2.2.1 x)
  have g := g_upT (C := C) (k := k) (x := x) (J1.Ls I1)
  rw [e] at g
  exact g
theorem w_leaves (H : Jn M) : ∃ v : Int32, Two C 175 288 [.int k, .int x] M (.int v) := by
  obtain ⟨s, a, z, I, J⟩ := H
  refine ⟨_, Two.ask I J (c_leaves I.Fs) (fun M1 I1 J1 => ?_)⟩
  have e : aLin (lin (s.ct 2) s.F k) (zI (-1)) (fun F => lvM F x) = aLin (lin (s.ct 2) s.F k) (zI (-1)) (fun F => lvF F x) := aLin_cg (fun D hD => by
    obtain ⟨l, hl, _, rfl⟩ := lin_some hD
    exact lv_eq (I.cb.2.2.2.1.2.2.1 l hl).1 x)
  have g := h_leaves (C := C) (k := k) (x := x) (J1.Fs I1)
  rw [e] at g
  exact g
theorem w_fits (H : Jn M) : ∃ v : Int32, Two C 177 299 [.int k, .int x] M (.int v) := by
  obtain ⟨s, a, z, I, J⟩ := H
  have hc2 := I.sg.2.2.2.2 3
  have fr : ∀ M1, (M1 = M ∨ ∃ l, l < s.ct 3 ∧ JF (24 + 22 * l) M M1 ∧ M1.2.1 (24 + 22 * l) 5 = nI 1 ∧ JV M1 (24 + 22 * l) (s.Z l)) → cF M M1 ∧ CB M1 1 s := by
    rintro M1 (rfl | ⟨l, hl, q1, q2, q3⟩)
    · exact ⟨cF.rf, I.cb⟩
    · exact ⟨q1.F (by omega), I.cb.jf I.sg hl q1 q2 q3⟩
  exact ⟨_, Two.of (c_fits I.Ss) (fun M1 q => I.cf (fr M1 q).1 I.sg (fr M1 q).2) (fun M1 q I1 => (z_fits ((J.cf I.sg (fr M1 q).1).Ss I1)).mono (by
    rintro w M2 ⟨rfl, q2⟩
    exact ⟨rfl, s, a, z, I1.r q2.R, (J.cf I.sg (fr M1 q).1).mq I.sg q2⟩))⟩
theorem w_count (H : Jn M) : ∃ v : Int32, Two C 149 319 [.int x] M (.int v) := by
  obtain ⟨s, a, z, I, J⟩ := H
  exact ⟨_, Two.ask0 I J (c_count I.K I.cb) (m_count I.K J.1)⟩
theorem w_fault (H : Jn M) : ∃ v : Int32, Two C 148 224 [.int x] M (.int v) := by
  obtain ⟨s, a, z, I, J⟩ := H
  exact ⟨_, Two.ask0 I J (c_fault I.K I.cb) (m_fault I.K J.1)⟩
theorem s12 : ∀ i, i ∈ [1, 2] → i < 98 := by decide
theorem w_feed (H : Jn M) : ∃ w : Int32, Two C 145 197 [.int x, .int y, .int f, .int u, .int v] M (.int w) := by
  obtain ⟨s, a, z, I, J⟩ := H
  by_cases hn : s.len ≤ 580
  · exact ⟨_, Two.to (s' := fdF s x y f u v) I J ((c_feedY I.K I.cb I.sg hn).mono (by
      rintro w M1 ⟨rfl, q1, q2⟩
      exact ⟨rfl, ⟨q1.F s12, q2⟩, fdF_ok I.sg hn⟩)) (fun M1 K1 J1 => m_feedY K1 J1.1 I.sg hn)⟩
  · exact ⟨_, Two.ask0 I J (c_feedN I.K I.cb I.sg hn) (m_feedN I.K J.1 I.sg hn)⟩
theorem w_end (H : Jn M) : ∃ w : Int32, Two C 146 199 [.int x] M (.int w) := by
  obtain ⟨s, a, z, I, J⟩ := H
  by_cases hn : 0 ≤ x.toInt ∧ x.toInt ≤ (s.len : Int)
  · obtain ⟨m, rfl, ex, -⟩ := nI_tt (x := x) hn.1
    have hm : m ≤ s.len := by omega
    exact ⟨_, Two.to (s' := enF s m) I J ((c_endY I.K I.cb I.sg hm).mono (by
      rintro w M1 ⟨rfl, q1, q2⟩
      exact ⟨rfl, ⟨q1.F s12, q2⟩, enF_ok I.sg hm⟩)) (fun M1 K1 J1 => m_endY K1 J1.1 I.sg hm)⟩
  · exact ⟨_, Two.ask0 I J (c_endN I.K I.cb I.sg hn) (m_endN I.K J.1 I.sg hn)⟩
theorem w_text (hC : CK C) (H : Jn M) : ∃ w : Int32, Two C 147 223 [.int x, .int y] M (.int w) := by
  obtain ⟨s, a, z, I, J⟩ := H
  exact ⟨_, Two.of (P := fun M1 => cX M M1 ∧ CB M1 1 (txF s x y).2 ∧ TXp s x y) (c_text hC I.len I.K I.cb I.sg) (fun M1 q => I.cf q.1.F (txF_ok I.sg) q.2.1) (fun M1 q I1 => (m_text I1.K (J.cf I.sg q.1.F).1 I.sg q.2.2).mono (by
    rintro w M2 ⟨rfl, q2⟩
    exact ⟨rfl, _, a, z, I1.r q2.1, (J.cf I.sg q.1.F).q q2⟩))⟩
theorem w_image (H : Jn M) : ∃ w : Int32, Two C 150 320 [.int k] M (.int w) := by
  obtain ⟨s, a, z, I, J⟩ := H
  have hl3 := cnI_le a
  by_cases hk : 0 ≤ k.toInt ∧ k.toInt ≤ 2
  · obtain ⟨j, rfl, ek, -⟩ := nI_tt (x := k) hk.1
    have hj : j < 3 := by omega
    cases ha : a j with
    | none =>
      have hl := I.2.1.1
      exact ⟨_, Two.of (P := INq j s M) (a' := up1 a j (some (cnI a))) (z' := up1 z j s) (c_imageF I.K I.cb I.sg hj (I.2.2.2.2.1 j hj ha) (by omega)) (fun M1 q => I.imF hj ha q) (fun M1 q I1 => (m_imageY I1.K hj).mono (by
        rintro w M2 ⟨rfl, q1, q2, q3, q4, q5⟩
        have hlt : ∀ i, i < 131 → M1.2.1 i = M.2.1 i := fun i hi => (q.2.1 i (by omega)).1
        have J1 : IvM M1 s a z := by
          obtain ⟨j0, j1, j2⟩ := J
          refine ⟨j0.g I.sg (fun i h1 h2 => hlt i (by omega)), fun k hk q => by rw [hlt 130 (by decide)]; exact j1 k hk q, fun k p hk q => ?_⟩
          obtain ⟨p1, p2, p3⟩ := j2 k p hk q
          exact ⟨by rw [hlt 130 (by decide)]; exact p1, p2, p3.g p2 (fun i h1 h2 => hlt i (by omega))⟩
        exact ⟨rfl, s, _, _, I1.r (q1.R MIo_R), J1.im I.sg hj q2 q3 q4 q5 (fun k hk => up1_o hk rfl) (by rw [up1_s]; exact fun w => by cases w)⟩))⟩
    | some p =>
      obtain ⟨p1, p2, p3, p4, p5⟩ := I.2.2.2.2.2.1 j p hj ha
      exact ⟨_, Two.of (P := fun M1 => FoB (131 + 51 * p) M M1 ∧ CB M1 (131 + 51 * p) s) (a' := a) (z' := up1 z j s) (c_imageO I.K I.cb I.sg hj p2 (by omega) p4) (fun M1 q => I.imO hj ha q.1 q.2) (fun M1 q I1 => (m_imageY I1.K hj).mono (by
        rintro w M2 ⟨rfl, q1, q2, q3, q4, q5⟩
        have J1 : IvM M1 s a z := by
          have hlt : ∀ i, i < 131 → M1.2.1 i = M.2.1 i := fun i hi => (q.1.2 i (by omega)).1
          obtain ⟨j0, j1, j2⟩ := J
          refine ⟨j0.g I.sg (fun i h1 h2 => hlt i (by omega)), fun k hk q => by rw [hlt 130 (by decide)]; exact j1 k hk q, fun k p hk q => ?_⟩
          obtain ⟨p1, p2, p3⟩ := j2 k p hk q
          exact ⟨by rw [hlt 130 (by decide)]; exact p1, p2, p3.g p2 (fun i h1 h2 => hlt i (by omega))⟩
        exact ⟨rfl, s, _, _, I1.r (q1.R MIo_R), J1.im I.sg hj q2 q3 q4 q5 (fun k hk => rfl) (by rw [ha]; exact fun w => by cases w)⟩))⟩
  · exact ⟨_, Two.ask0 I J (c_imageN I.K hk) (m_imageN I.K hk)⟩
theorem w_again (H : Jn M) : ∃ w : Int32, Two C 151 321 [.int k] M (.int w) := by
  obtain ⟨s, a, z, I, J⟩ := H
  have hl3 := cnI_le a
  by_cases hk : 0 ≤ k.toInt ∧ k.toInt ≤ 2
  · obtain ⟨j, rfl, ek, -⟩ := nI_tt (x := k) hk.1
    have hj : j < 3 := by omega
    cases ha : a j with
    | none => exact ⟨_, Two.ask0 I J (c_again0 I.K hj (I.2.2.2.2.1 j hj ha)) (m_again0 I.K hj (J.2.1 j hj ha))⟩
    | some p =>
      obtain ⟨p1, p2, p3, p4, p5⟩ := I.2.2.2.2.2.1 j p hj ha
      exact ⟨_, Two.to (s' := z j) I J ((c_again1 I.K p5 p3 hj p2 (by omega) p4).mono (by
        rintro w M1 ⟨rfl, q1, q2⟩
        exact ⟨rfl, ⟨q1.X.F, q2⟩, p3⟩)) (fun M1 K1 J1 => (m_again1 K1 hj (J1.2.2 j p hj ha).1).mono (by
        rintro w M2 ⟨rfl, q1, q2, q3, q4⟩
        exact ⟨rfl, q1.R MIo_R, (J1.2.2 j p hj ha).2.2.eq p3 q2, q3, funext q4⟩))⟩
  · exact ⟨_, Two.ask0 I J (c_againN I.K hk) (m_againN I.K hk)⟩
end TWO
