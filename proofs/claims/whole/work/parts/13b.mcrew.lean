/-! the reference: what is asked of a set of riders -/
def itw (D : Nat → Nat) (S : Nat) : Nat → Nat → Nat
  | 0 => layN D 0
  | k + 1 => wn D (itw D S k) S
theorem itw_le (D : Nat → Nat) (S : Nat) : ∀ k r, itw D S k r ≤ 99
  | 0, r => layN_le D 0 r
  | k + 1, r => by
    have := itw_le D S k r
    unfold itw wn
    split <;> omega
/-- by how much a set pulls more than a hill, as it comes there -/
def ovF (D : Nat → Nat) (S k : Nat) : Int := (plS D (itw D S k) S (D 2) : Int) - (D (3 + k) : Int)
theorem cmF_itw (D : Nat → Nat) (S : Nat) : ∀ f k, (cmF D S f k (itw D S k)).1 = k + f ↔ ∀ j, k ≤ j → j < k + f → 0 ≤ ovF D S j
  | 0, k => by
    unfold cmF
    exact ⟨fun _ j h1 h2 => absurd h2 (by omega), fun _ => rfl⟩
  | f + 1, k => by
    have ih := cmF_itw D S f (k + 1)
    rw [cmF]
    split
    · rename_i h
      show (cmF D S f (k + 1) (itw D S (k + 1))).1 = _ ↔ _
      rw [show k + (f + 1) = k + 1 + f by omega, ih]
      constructor
      · intro g j h1 h2
        by_cases e : j = k
        · subst e
          unfold ovF
          omega
        · exact g j (by omega) h2
      · intro g j h1 h2
        exact g j (by omega) h2
    · rename_i h
      constructor
      · intro g
        have g : k = k + (f + 1) := g
        omega
      · intro g
        have := g k (Nat.le_refl k) (by omega)
        unfold ovF at this
        omega
theorem gB_ov {D : Nat → Nat} {S : Nat} (hse : pc8 S ≤ D 1) : gB D S 0 = true ↔ ∀ j, j < D 0 → 0 ≤ ovF D S j := by
  have h := cmF_itw D S (D 0) 0
  rw [Nat.zero_add] at h
  rw [gB_iff]
  constructor
  · intro q j hj
    exact h.mp q.2 j (Nat.zero_le _) hj
  · intro q
    exact ⟨hse, h.mpr (fun j _ hj => q j hj)⟩
def slkB (D : Nat → Nat) (S a b : Nat) : Bool := decide (ovF D S a < ovF D S b)
def slkF (D : Nat → Nat) (S : Nat) (hl : Int32) : Int32 := if gB D S 0 then (match bestF (fun _ => true) (slkB D S) (D 0) with
  | none => zI (-1)
  | some k => if hl.toInt = 0 then zI (ovF D S k) else nI k) else zI (-1)
section MC
variable {C : Ct} {M : Mm} {n l S : Nat} {L : Nat → Nat → Nat} {k x : Int32} {D : Nat → Nat}
theorem g_plea (W : MLs M n L) : CG C 309 [.ref 98, .int k, .int x] M (fun w M' => w = some (.int (aFor (slin n L k x) (fun D S => oI (leastF (fun n => gB D S n) 100 0)))) ∧ mQ M M') := by
  cases hx : slin n L k x with
  | none =>
    refine CG_in (mL := 4) (hl := false) (lv := [some (.ref 98), some (.int k), some (.int x), none]) (ll := []) rfl rfl rfl ?_
    have hK := W.1
    refine G_S (pc := 0) f_309_0 rfl rfl rfl ?_
    refine G_ic (v := nI 0) (pc := 1) f_309_1 (by decide) ?_
    refine G_pI (pc := 2) f_309_2 rfl (by first | assumption | exact hK.1 _ _ rfl) ?_
    refine G_S (pc := 5) f_309_5 rfl rfl rfl ?_
    refine G_S (pc := 6) f_309_6 rfl rfl rfl ?_
    refine G_S (pc := 7) f_309_7 rfl rfl rfl ?_
    refine G_CV (pc := 8) f_309_8 rfl rfl (by decide) rfl rfl (by first | assumption | exact hK.1 _ _ rfl) (by decide) ⟨Nat.le_of_ble_eq_true rfl, Nat.le_of_ble_eq_true rfl⟩ ?_
    refine CG.mono (g_for0 (W.q mQ.cod) hx) ?_
    rintro _ M1 ⟨rfl, hQ⟩
    first | refine G_bNe (pc := 11) f_309_11 rfl (fun b1 => ?_) (fun b1 => ?_) | refine G_zneZ (pc := 11) f_309_11 rfl (by first | exact nI_toInt (by omega) | exact zI_toInt (by omega) (by omega) | rfl) (fun b1 => ?_) (fun b1 => ?_)
    · exact absurd b1 id
    · refine G_ic (v := zI (-1)) (pc := 14) f_309_14 (by decide) ?_
      refine G_ri (pc := 15) f_309_15 ?_
      exact ⟨rfl, mQ.cod.tr hQ⟩
  | some q =>
    obtain ⟨D, S⟩ := q
    obtain ⟨hS, rfl, hse⟩ := sea_some (slin_some hx).2
    have loop : ∀ l d n, n + d = 100 → ∀ M, mH M l D → G C 309 (18, [some (.ref 98), some (.int k), some (.int (nI S)), some (.int (nI n))], [], [], M) (fun w M' => w = some (.int (oI (leastF (fun n => gB D S n) d n))) ∧ mQ M M') := by
      intro l d
      induction d with
      | zero =>
        intro n hn M W
        refine G_S (pc := 18) f_309_18 rfl rfl rfl ?_
        refine G_bi (v := nI 99) (pc := 19) f_309_19 (by decide) ?_
        refine G_jgtZ (pc := 21) f_309_21 rfl (by first | exact nI_toInt (by omega) | exact zI_toInt (by omega) (by omega) | rfl) (by first | exact nI_toInt (by omega) | exact zI_toInt (by omega) (by omega) | rfl) (fun b2 => ?_) (fun b2 => ?_)
        · refine G_ic (v := zI (-1)) (pc := 41) f_309_41 (by decide) ?_
          refine G_ri (pc := 42) f_309_42 ?_
          exact ⟨rfl, mQ.rf⟩
        · exfalso; omega
      | succ d ih =>
        intro n hn M W
        have hK := W.1
        have hH := W.2
        obtain ⟨⟨a0, a1, a2, a3⟩, hl8, hD, ao⟩ := W.2
        have hn0 : _ ≤ 8 := hD.1
        have hn1 : _ ≤ 6 := hD.2.1.2
        have hn2 : _ ≤ 8 := hD.2.2.1
        have hS8 := pw2 hn2 hS
        refine G_S (pc := 18) f_309_18 rfl rfl rfl ?_
        refine G_bi (v := nI 99) (pc := 19) f_309_19 (by decide) ?_
        refine G_jgtZ (pc := 21) f_309_21 rfl (by first | exact nI_toInt (by omega) | exact zI_toInt (by omega) (by omega) | rfl) (by first | exact nI_toInt (by omega) | exact zI_toInt (by omega) (by omega) | rfl) (fun b2 => ?_) (fun b2 => ?_)
        · exfalso; omega
        · refine G_S (pc := 24) f_309_24 rfl rfl rfl ?_
          refine G_S (pc := 25) f_309_25 rfl rfl rfl ?_
          refine G_S (pc := 26) f_309_26 rfl rfl rfl ?_
          refine G_CV (pc := 27) f_309_27 rfl rfl (by decide) rfl rfl (by first | assumption | exact hK.1 _ _ rfl) (by decide) ⟨Nat.le_of_ble_eq_true rfl, Nat.le_of_ble_eq_true rfl⟩ ?_
          refine CG.mono (g_up W hS8 (nI_zI n) (by omega) (by omega)) ?_
          rintro _ M1 ⟨rfl, hF, W1⟩
          first | refine G_bEq (pc := 30) f_309_30 rfl (fun b3 => ?_) (fun b3 => ?_) | refine G_zeqZ (pc := 30) f_309_30 rfl (by first | exact nI_toInt (by omega) | exact zI_toInt (by omega) (by omega) | rfl) (fun b3 => ?_) (fun b3 => ?_)
          · first | refine G_inc1 (pc := 35) f_309_35 rfl ?_ | refine G_S (pc := 35) f_309_35 rfl rfl rfl ?_
            refine G_S (pc := 38) f_309_38 rfl rfl rfl ?_
            refine G.mono (ih (n + 1) (by omega) _ W1) ?_
            rintro w M9 ⟨g1, g2⟩
            rw [leastF, if_neg b3]
            exact ⟨g1, (hF.q (by decide)).tr g2⟩
          · refine G_S (pc := 33) f_309_33 rfl rfl rfl ?_
            refine G_ri (pc := 34) f_309_34 ?_
            rw [leastF, if_pos b3]
            exact ⟨rfl, hF.q (by decide)⟩
    refine CG_in (mL := 4) (hl := false) (lv := [some (.ref 98), some (.int k), some (.int (nI S)), none]) (ll := []) rfl rfl rfl ?_
    have hK := W.1
    refine G_S (pc := 0) f_309_0 rfl rfl rfl ?_
    refine G_ic (v := nI 0) (pc := 1) f_309_1 (by decide) ?_
    refine G_pI (pc := 2) f_309_2 rfl (by first | assumption | exact hK.1 _ _ rfl) ?_
    refine G_S (pc := 5) f_309_5 rfl rfl rfl ?_
    refine G_S (pc := 6) f_309_6 rfl rfl rfl ?_
    refine G_S (pc := 7) f_309_7 rfl rfl rfl ?_
    refine G_CV (pc := 8) f_309_8 rfl rfl (by decide) rfl rfl (by first | assumption | exact hK.1 _ _ rfl) (by decide) ⟨Nat.le_of_ble_eq_true rfl, Nat.le_of_ble_eq_true rfl⟩ ?_
    refine CG.mono (g_for1 (W.q mQ.cod) hx) ?_
    rintro _ M1 ⟨rfl, hQ, l, W1⟩
    first | refine G_bNe (pc := 11) f_309_11 rfl (fun b1 => ?_) (fun b1 => ?_) | refine G_zneZ (pc := 11) f_309_11 rfl (by first | exact nI_toInt (by omega) | exact zI_toInt (by omega) (by omega) | rfl) (fun b1 => ?_) (fun b1 => ?_)
    · refine G_ic (v := nI 0) (pc := 16) f_309_16 (by decide) ?_
      refine G_S (pc := 17) f_309_17 rfl rfl rfl ?_
      refine G.mono (loop l 100 0 rfl M1 W1) ?_
      rintro w M9 ⟨g1, g2⟩
      exact ⟨g1, (mQ.cod.tr hQ).tr g2⟩
    · exact absurd trivial b1
theorem g_news (W : MLs M n L) : CG C 315 [.ref 98, .int k, .int x] M (fun w M' => w = some (.int (aFor (slin n L k x) (fun D S => if gB D S 0 then oI (leastF (fun n => !gB D S (-(n : Int))) 99 1) else zI (-1)))) ∧ mQ M M') := by
  cases hx : slin n L k x with
  | none =>
    refine CG_in (mL := 4) (hl := false) (lv := [some (.ref 98), some (.int k), some (.int x), none]) (ll := []) rfl rfl rfl ?_
    have hK := W.1
    refine G_S (pc := 0) f_315_0 rfl rfl rfl ?_
    refine G_ic (v := nI 0) (pc := 1) f_315_1 (by decide) ?_
    refine G_pI (pc := 2) f_315_2 rfl (by first | assumption | exact hK.1 _ _ rfl) ?_
    refine G_S (pc := 5) f_315_5 rfl rfl rfl ?_
    refine G_S (pc := 6) f_315_6 rfl rfl rfl ?_
    refine G_S (pc := 7) f_315_7 rfl rfl rfl ?_
    refine G_CV (pc := 8) f_315_8 rfl rfl (by decide) rfl rfl (by first | assumption | exact hK.1 _ _ rfl) (by decide) ⟨Nat.le_of_ble_eq_true rfl, Nat.le_of_ble_eq_true rfl⟩ ?_
    refine CG.mono (g_for0 (W.q mQ.cod) hx) ?_
    rintro _ M1 ⟨rfl, hQ⟩
    first | refine G_bEq (pc := 11) f_315_11 rfl (fun b1 => ?_) (fun b1 => ?_) | refine G_zeqZ (pc := 11) f_315_11 rfl (by first | exact nI_toInt (by omega) | exact zI_toInt (by omega) (by omega) | rfl) (fun b1 => ?_) (fun b1 => ?_)
    · refine G_ic (v := zI (-1)) (pc := 23) f_315_23 (by decide) ?_
      refine G_ri (pc := 24) f_315_24 ?_
      exact ⟨rfl, mQ.cod.tr hQ⟩
    · exact absurd b1 id
  | some q =>
    obtain ⟨D, S⟩ := q
    obtain ⟨hS, rfl, hse⟩ := sea_some (slin_some hx).2
    have loop : ∀ l d n, n + d = 100 → ∀ M, mH M l D → G C 315 (27, [some (.ref 98), some (.int k), some (.int (nI S)), some (.int (nI n))], [], [], M) (fun w M' => w = some (.int (oI (leastF (fun n => !gB D S (-(n : Int))) d n))) ∧ mQ M M') := by
      intro l d
      induction d with
      | zero =>
        intro n hn M W
        refine G_S (pc := 27) f_315_27 rfl rfl rfl ?_
        refine G_bi (v := nI 99) (pc := 28) f_315_28 (by decide) ?_
        refine G_jgtZ (pc := 30) f_315_30 rfl (by first | exact nI_toInt (by omega) | exact zI_toInt (by omega) (by omega) | rfl) (by first | exact nI_toInt (by omega) | exact zI_toInt (by omega) (by omega) | rfl) (fun b3 => ?_) (fun b3 => ?_)
        · refine G_ic (v := zI (-1)) (pc := 51) f_315_51 (by decide) ?_
          refine G_ri (pc := 52) f_315_52 ?_
          exact ⟨rfl, mQ.rf⟩
        · exfalso; omega
      | succ d ih =>
        intro n hn M W
        have hK := W.1
        have hH := W.2
        obtain ⟨⟨a0, a1, a2, a3⟩, hl8, hD, ao⟩ := W.2
        have hn0 : _ ≤ 8 := hD.1
        have hn1 : _ ≤ 6 := hD.2.1.2
        have hn2 : _ ≤ 8 := hD.2.2.1
        have hS8 := pw2 hn2 hS
        refine G_S (pc := 27) f_315_27 rfl rfl rfl ?_
        refine G_bi (v := nI 99) (pc := 28) f_315_28 (by decide) ?_
        refine G_jgtZ (pc := 30) f_315_30 rfl (by first | exact nI_toInt (by omega) | exact zI_toInt (by omega) (by omega) | rfl) (by first | exact nI_toInt (by omega) | exact zI_toInt (by omega) (by omega) | rfl) (fun b3 => ?_) (fun b3 => ?_)
        · exfalso; omega
        · refine G_S (pc := 33) f_315_33 rfl rfl rfl ?_
          refine G_S (pc := 34) f_315_34 rfl rfl rfl ?_
          refine G_S (pc := 35) f_315_35 rfl rfl rfl ?_
          refine G_S (pc := 36) f_315_36 rfl rfl rfl ?_
          refine G_CV (pc := 37) f_315_37 rfl rfl (by decide) rfl rfl (by first | assumption | exact hK.1 _ _ rfl) (by decide) ⟨Nat.le_of_ble_eq_true rfl, Nat.le_of_ble_eq_true rfl⟩ ?_
          refine CG.mono (g_up W hS8 (m := -(n : Int)) (by rw [nI_zI, zI_neg]) (by omega) (by omega)) ?_
          rintro _ M1 ⟨rfl, hF, W1⟩
          first | refine G_bNe (pc := 40) f_315_40 rfl (fun b4 => ?_) (fun b4 => ?_) | refine G_zneZ (pc := 40) f_315_40 rfl (by first | exact nI_toInt (by omega) | exact zI_toInt (by omega) (by omega) | rfl) (fun b4 => ?_) (fun b4 => ?_)
          · first | refine G_inc1 (pc := 45) f_315_45 rfl ?_ | refine G_S (pc := 45) f_315_45 rfl rfl rfl ?_
            refine G_S (pc := 48) f_315_48 rfl rfl rfl ?_
            refine G.mono (ih (n + 1) (by omega) _ W1) ?_
            rintro w M9 ⟨g1, g2⟩
            rw [leastF, b4]
            exact ⟨g1, (hF.q (by decide)).tr g2⟩
          · refine G_S (pc := 43) f_315_43 rfl rfl rfl ?_
            refine G_ri (pc := 44) f_315_44 ?_
            rw [leastF, (Bool.not_eq_true _).mp b4]
            exact ⟨rfl, hF.q (by decide)⟩
    refine CG_in (mL := 4) (hl := false) (lv := [some (.ref 98), some (.int k), some (.int (nI S)), none]) (ll := []) rfl rfl rfl ?_
    have hK := W.1
    refine G_S (pc := 0) f_315_0 rfl rfl rfl ?_
    refine G_ic (v := nI 0) (pc := 1) f_315_1 (by decide) ?_
    refine G_pI (pc := 2) f_315_2 rfl (by first | assumption | exact hK.1 _ _ rfl) ?_
    refine G_S (pc := 5) f_315_5 rfl rfl rfl ?_
    refine G_S (pc := 6) f_315_6 rfl rfl rfl ?_
    refine G_S (pc := 7) f_315_7 rfl rfl rfl ?_
    refine G_CV (pc := 8) f_315_8 rfl rfl (by decide) rfl rfl (by first | assumption | exact hK.1 _ _ rfl) (by decide) ⟨Nat.le_of_ble_eq_true rfl, Nat.le_of_ble_eq_true rfl⟩ ?_
    refine CG.mono (g_for1 (W.q mQ.cod) hx) ?_
    rintro _ M1 ⟨rfl, hQ, l, W1⟩
    have hK := W1.1
    have hH := W1.2
    obtain ⟨⟨a0, a1, a2, a3⟩, hl8, hD, ao⟩ := W1.2
    have hn0 : _ ≤ 8 := hD.1
    have hn1 : _ ≤ 6 := hD.2.1.2
    have hn2 : _ ≤ 8 := hD.2.2.1
    first | refine G_bEq (pc := 11) f_315_11 rfl (fun b1 => ?_) (fun b1 => ?_) | refine G_zeqZ (pc := 11) f_315_11 rfl (by first | exact nI_toInt (by omega) | exact zI_toInt (by omega) (by omega) | rfl) (fun b1 => ?_) (fun b1 => ?_)
    · exact absurd trivial b1
    · refine G_S (pc := 14) f_315_14 rfl rfl rfl ?_
      refine G_S (pc := 15) f_315_15 rfl rfl rfl ?_
      refine G_ic (v := nI 0) (pc := 16) f_315_16 (by decide) ?_
      refine G_CV (pc := 17) f_315_17 rfl rfl (by decide) rfl rfl (by first | assumption | exact hK.1 _ _ rfl) (by decide) ⟨Nat.le_of_ble_eq_true rfl, Nat.le_of_ble_eq_true rfl⟩ ?_
      refine CG.mono (g_up W1 (pw2 hn2 hS) nI_z0 (by omega) (by omega)) ?_
      rintro _ M2 ⟨rfl, hF, W2⟩
      have hQ2 := (mQ.cod.tr hQ).tr (hF.q (by decide))
      first | refine G_bNe (pc := 20) f_315_20 rfl (fun b2 => ?_) (fun b2 => ?_) | refine G_zneZ (pc := 20) f_315_20 rfl (by first | exact nI_toInt (by omega) | exact zI_toInt (by omega) (by omega) | rfl) (fun b2 => ?_) (fun b2 => ?_)
      · refine G_ic (v := nI 1) (pc := 25) f_315_25 (by decide) ?_
        refine G_S (pc := 26) f_315_26 rfl rfl rfl ?_
        refine G.mono (loop l 99 1 rfl M2 W2) ?_
        rintro w M9 ⟨g1, g2⟩
        refine ⟨?_, hQ2.tr g2⟩
        rw [g1]
        exact congrArg (fun z => some (Value.int z)) (if_pos b2).symm
      · refine G_ic (v := zI (-1)) (pc := 23) f_315_23 (by decide) ?_
        refine G_ri (pc := 24) f_315_24 ?_
        exact ⟨congrArg (fun z => some (Value.int z)) (if_neg b2).symm, hQ2⟩
theorem andn_at : ∀ S, S < 256 → ∀ r, r < 8 → S.testBit r = true → nI S &&& ((nI 1 <<< (nI r &&& 31)) ^^^ zI (-1)) = nI (S - 2 ^ r) := by decide +kernel
theorem g_spared (W : MLs M n L) : CG C 311 [.ref 98, .int k, .int x] M (fun w M' => w = some (.int (aFor (slin n L k x) (fun D S => if gB D S 0 then sprF D S (D 2) else zI (-1)))) ∧ mQ M M') := by
  cases hx : slin n L k x with
  | none =>
    refine CG_in (mL := 5) (hl := false) (lv := [some (.ref 98), some (.int k), some (.int x), none, none]) (ll := []) rfl rfl rfl ?_
    have hK := W.1
    refine G_S (pc := 0) f_311_0 rfl rfl rfl ?_
    refine G_ic (v := nI 0) (pc := 1) f_311_1 (by decide) ?_
    refine G_pI (pc := 2) f_311_2 rfl (by first | assumption | exact hK.1 _ _ rfl) ?_
    refine G_S (pc := 5) f_311_5 rfl rfl rfl ?_
    refine G_S (pc := 6) f_311_6 rfl rfl rfl ?_
    refine G_S (pc := 7) f_311_7 rfl rfl rfl ?_
    refine G_CV (pc := 8) f_311_8 rfl rfl (by decide) rfl rfl (by first | assumption | exact hK.1 _ _ rfl) (by decide) ⟨Nat.le_of_ble_eq_true rfl, Nat.le_of_ble_eq_true rfl⟩ ?_
    refine CG.mono (g_for0 (W.q mQ.cod) hx) ?_
    rintro _ M1 ⟨rfl, hQ⟩
    first | refine G_bEq (pc := 11) f_311_11 rfl (fun b1 => ?_) (fun b1 => ?_) | refine G_zeqZ (pc := 11) f_311_11 rfl (by first | exact nI_toInt (by omega) | exact zI_toInt (by omega) (by omega) | rfl) (fun b1 => ?_) (fun b1 => ?_)
    · refine G_ic (v := zI (-1)) (pc := 23) f_311_23 (by decide) ?_
      refine G_ri (pc := 24) f_311_24 ?_
      exact ⟨rfl, mQ.cod.tr hQ⟩
    · exact absurd b1 id
  | some q =>
    obtain ⟨D, S⟩ := q
    obtain ⟨hS, rfl, hse⟩ := sea_some (slin_some hx).2
    have loop : ∀ l i, i ≤ D 2 → ∀ M, mH M l D → G C 311 (30, [some (.ref 98), some (.int k), some (.int (nI S)), some (.int (sprF D S i)), some (.int (nI i))], [], [], M) (fun w M' => w = some (.int (sprF D S (D 2))) ∧ mQ M M') := by
      intro l
      refine upto (fun i hi ih M W => ?_)
      have hK := W.1
      have hH := W.2
      obtain ⟨⟨a0, a1, a2, a3⟩, hl8, hD, ao⟩ := W.2
      have hn0 : _ ≤ 8 := hD.1
      have hn1 : _ ≤ 6 := hD.2.1.2
      have hn2 : _ ≤ 8 := hD.2.2.1
      have hS8 := pw2 hn2 hS
      refine G_S (pc := 30) f_311_30 rfl rfl rfl ?_
      refine G_S (pc := 32) f_311_32 rfl rfl rfl ?_
      refine G_gIv (pc := 33) f_311_33 (by decide) rfl (by decide) (by first | assumption | exact hK.1 _ _ rfl) (by first | assumption | (repeat (first | exact up2_s | refine up2_o (by first | decide | omega) ?_)) <;> first | assumption | rfl) ?_
      refine G_jgeZ (pc := 36) f_311_36 rfl (by first | exact nI_toInt (by omega) | exact zI_toInt (by omega) (by omega) | rfl) (by first | exact nI_toInt (by omega) | exact zI_toInt (by omega) (by omega) | rfl) (fun b3 => ?_) (fun b3 => ?_)
      · refine G_S (pc := 81) f_311_81 rfl rfl rfl ?_
        refine G_ri (pc := 82) f_311_82 ?_
        have e : i = D 2 := by omega
        rw [e]
        exact ⟨rfl, mQ.rf⟩
      · refine G_S (pc := 39) f_311_39 rfl rfl rfl ?_
        refine G_S (pc := 40) f_311_40 rfl rfl rfl ?_
        refine G_S (pc := 41) f_311_41 rfl rfl rfl ?_
        refine G_CS (pc := 43) f_311_43 rfl rfl (by decide) rfl rfl ⟨Nat.le_of_ble_eq_true rfl, Nat.le_of_ble_eq_true rfl⟩ ?_
        refine CG.go (m_hasN (by omega) (by omega)) ?_
        first | refine G_bEq (pc := 46) f_311_46 rfl (fun b4 => ?_) (fun b4 => ?_) | refine G_zeqZ (pc := 46) f_311_46 rfl (by first | exact nI_toInt (by omega) | exact zI_toInt (by omega) (by omega) | rfl) (fun b4 => ?_) (fun b4 => ?_)
        · refine G_ic (v := nI 0) (pc := 72) f_311_72 (by decide) ?_
          refine G_S (pc := 73) f_311_73 rfl rfl rfl ?_
          refine G_S (pc := 74) f_311_74 rfl rfl rfl ?_
          first | refine G_inc1 (pc := 75) f_311_75 rfl ?_ | refine G_S (pc := 75) f_311_75 rfl rfl rfl ?_
          refine G_S (pc := 78) f_311_78 rfl rfl rfl ?_
          have e := ih (by omega)
          first
            | (replace e := e M W
               rw [sprF_n (fun q => b4 q.1)] at e
               exact e)
            | (replace e := e M1 W1
               rw [sprF_n (fun q => b5 q.2)] at e
               refine G.mono e ?_
               rintro w M9 ⟨g1, g2⟩
               exact ⟨g1, (hF.q (by decide)).tr g2⟩)
            | (replace e := e M1 W1
               rw [sprF_y b4 b5] at e
               refine G.mono e ?_
               rintro w M9 ⟨g1, g2⟩
               exact ⟨g1, (hF.q (by decide)).tr g2⟩)
        · refine G_S (pc := 49) f_311_49 rfl rfl rfl ?_
          refine G_S (pc := 50) f_311_50 rfl rfl rfl ?_
          refine G_ic (v := nI 1) (pc := 51) f_311_51 (by decide) ?_
          refine G_S (pc := 52) f_311_52 rfl rfl rfl ?_
          refine G_S (pc := 54) f_311_54 rfl rfl rfl ?_
          refine G_ic (v := zI (-1)) (pc := 55) f_311_55 (by decide) ?_
          refine G_S (pc := 56) f_311_56 rfl rfl rfl ?_
          refine G_S (pc := 57) f_311_57 rfl rfl rfl ?_
          refine G_ic (v := nI 0) (pc := 58) f_311_58 (by decide) ?_
          refine G_CV (pc := 59) f_311_59 rfl rfl (by decide) rfl rfl (by first | assumption | exact hK.1 _ _ rfl) (by decide) ⟨Nat.le_of_ble_eq_true rfl, Nat.le_of_ble_eq_true rfl⟩ ?_
          refine CG.mono (by rw [andn_at S hS8 i (by omega) b4]; exact g_up W (Nat.lt_of_le_of_lt (Nat.sub_le _ _) hS8) nI_z0 (by omega) (by omega)) ?_
          rintro _ M1 ⟨rfl, hF, W1⟩
          first | refine G_bEq (pc := 62) f_311_62 rfl (fun b5 => ?_) (fun b5 => ?_) | refine G_zeqZ (pc := 62) f_311_62 rfl (by first | exact nI_toInt (by omega) | exact zI_toInt (by omega) (by omega) | rfl) (fun b5 => ?_) (fun b5 => ?_)
          · refine G_ic (v := nI 0) (pc := 72) f_311_72 (by decide) ?_
            refine G_S (pc := 73) f_311_73 rfl rfl rfl ?_
            refine G_S (pc := 74) f_311_74 rfl rfl rfl ?_
            first | refine G_inc1 (pc := 75) f_311_75 rfl ?_ | refine G_S (pc := 75) f_311_75 rfl rfl rfl ?_
            refine G_S (pc := 78) f_311_78 rfl rfl rfl ?_
            have e := ih (by omega)
            first
              | (replace e := e M W
                 rw [sprF_n (fun q => b4 q.1)] at e
                 exact e)
              | (replace e := e M1 W1
                 rw [sprF_n (fun q => b5 q.2)] at e
                 refine G.mono e ?_
                 rintro w M9 ⟨g1, g2⟩
                 exact ⟨g1, (hF.q (by decide)).tr g2⟩)
              | (replace e := e M1 W1
                 rw [sprF_y b4 b5] at e
                 refine G.mono e ?_
                 rintro w M9 ⟨g1, g2⟩
                 exact ⟨g1, (hF.q (by decide)).tr g2⟩)
          · refine G_ic (v := nI 1) (pc := 65) f_311_65 (by decide) ?_
            refine G_S (pc := 66) f_311_66 rfl rfl rfl ?_
            refine G_S (pc := 68) f_311_68 rfl rfl rfl ?_
            refine G_S (pc := 69) f_311_69 rfl rfl rfl ?_
            refine G_S (pc := 73) f_311_73 rfl rfl rfl ?_
            refine G_S (pc := 74) f_311_74 rfl rfl rfl ?_
            first | refine G_inc1 (pc := 75) f_311_75 rfl ?_ | refine G_S (pc := 75) f_311_75 rfl rfl rfl ?_
            refine G_S (pc := 78) f_311_78 rfl rfl rfl ?_
            have e := ih (by omega)
            first
              | (replace e := e M W
                 rw [sprF_n (fun q => b4 q.1)] at e
                 exact e)
              | (replace e := e M1 W1
                 rw [sprF_n (fun q => b5 q.2)] at e
                 refine G.mono e ?_
                 rintro w M9 ⟨g1, g2⟩
                 exact ⟨g1, (hF.q (by decide)).tr g2⟩)
              | (replace e := e M1 W1
                 rw [sprF_y b4 b5] at e
                 refine G.mono e ?_
                 rintro w M9 ⟨g1, g2⟩
                 exact ⟨g1, (hF.q (by decide)).tr g2⟩)
    refine CG_in (mL := 5) (hl := false) (lv := [some (.ref 98), some (.int k), some (.int (nI S)), none, none]) (ll := []) rfl rfl rfl ?_
    have hK := W.1
    refine G_S (pc := 0) f_311_0 rfl rfl rfl ?_
    refine G_ic (v := nI 0) (pc := 1) f_311_1 (by decide) ?_
    refine G_pI (pc := 2) f_311_2 rfl (by first | assumption | exact hK.1 _ _ rfl) ?_
    refine G_S (pc := 5) f_311_5 rfl rfl rfl ?_
    refine G_S (pc := 6) f_311_6 rfl rfl rfl ?_
    refine G_S (pc := 7) f_311_7 rfl rfl rfl ?_
    refine G_CV (pc := 8) f_311_8 rfl rfl (by decide) rfl rfl (by first | assumption | exact hK.1 _ _ rfl) (by decide) ⟨Nat.le_of_ble_eq_true rfl, Nat.le_of_ble_eq_true rfl⟩ ?_
    refine CG.mono (g_for1 (W.q mQ.cod) hx) ?_
    rintro _ M1 ⟨rfl, hQ, l, W1⟩
    have hK := W1.1
    have hH := W1.2
    obtain ⟨⟨a0, a1, a2, a3⟩, hl8, hD, ao⟩ := W1.2
    have hn0 : _ ≤ 8 := hD.1
    have hn1 : _ ≤ 6 := hD.2.1.2
    have hn2 : _ ≤ 8 := hD.2.2.1
    first | refine G_bEq (pc := 11) f_311_11 rfl (fun b1 => ?_) (fun b1 => ?_) | refine G_zeqZ (pc := 11) f_311_11 rfl (by first | exact nI_toInt (by omega) | exact zI_toInt (by omega) (by omega) | rfl) (fun b1 => ?_) (fun b1 => ?_)
    · exact absurd trivial b1
    · refine G_S (pc := 14) f_311_14 rfl rfl rfl ?_
      refine G_S (pc := 15) f_311_15 rfl rfl rfl ?_
      refine G_ic (v := nI 0) (pc := 16) f_311_16 (by decide) ?_
      refine G_CV (pc := 17) f_311_17 rfl rfl (by decide) rfl rfl (by first | assumption | exact hK.1 _ _ rfl) (by decide) ⟨Nat.le_of_ble_eq_true rfl, Nat.le_of_ble_eq_true rfl⟩ ?_
      refine CG.mono (g_up W1 (pw2 hn2 hS) nI_z0 (by omega) (by omega)) ?_
      rintro _ M2 ⟨rfl, hF, W2⟩
      have hQ2 := (mQ.cod.tr hQ).tr (hF.q (by decide))
      first | refine G_bNe (pc := 20) f_311_20 rfl (fun b2 => ?_) (fun b2 => ?_) | refine G_zneZ (pc := 20) f_311_20 rfl (by first | exact nI_toInt (by omega) | exact zI_toInt (by omega) (by omega) | rfl) (fun b2 => ?_) (fun b2 => ?_)
      · refine G_ic (v := nI 0) (pc := 25) f_311_25 (by decide) ?_
        refine G_S (pc := 26) f_311_26 rfl rfl rfl ?_
        refine G_ic (v := nI 0) (pc := 27) f_311_27 (by decide) ?_
        refine G_S (pc := 28) f_311_28 rfl rfl rfl ?_
        refine G.mono (loop l 0 (Nat.zero_le _) M2 W2) ?_
        rintro w M9 ⟨g1, g2⟩
        refine ⟨?_, hQ2.tr g2⟩
        rw [g1]
        exact congrArg (fun z => some (Value.int z)) (if_pos b2).symm
      · refine G_ic (v := zI (-1)) (pc := 23) f_311_23 (by decide) ?_
        refine G_ri (pc := 24) f_311_24 ?_
        exact ⟨congrArg (fun z => some (Value.int z)) (if_neg b2).symm, hQ2⟩
end MC
