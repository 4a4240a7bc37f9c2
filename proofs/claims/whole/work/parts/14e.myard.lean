/-! the reference: a yard -/
def YM (M : Mm) (l : Nat) (D : Nat → Nat) : Prop := mH M l D ∧ ∀ S, S < 2 ^ D 2 → M.2.1 113 S = b2i (uB D S = true)
theorem YM.fo {M M' : Mm} {l : Nat} {D : Nat → Nat} {os : List Nat} (W : YM M l D) (hF : Fo os M M') (h1 : 98 ∉ os) (h2 : 104 ∉ os) (h3 : 113 ∉ os) : YM M' l D := ⟨W.1.fo hF h1 h2, by rw [(hF.2 113 h3).1]; exact W.2⟩
/-- a set's part that comes next -/
def nxS (set s : Nat) : Nat := (s - 1) &&& set
def mxM (U : Nat → Bool) (t : Nat → Nat) (set : Nat) : Nat → Nat → Nat → Nat
  | 0, _, acc => acc
  | f + 1, s, acc => if s = 0 then acc else mxM U t set f (nxS set s) (max acc (t (set ^^^ (set &&& s)) + (if U s then 1 else 0)))
def trM (U : Nat → Bool) : Nat → Nat → Nat
  | 0 => fun _ => 0
  | n + 1 => fun s => if s = n then mxM U (trM U n) n 257 n 0 else trM U n s
theorem nxS_lt {set s : Nat} (h : 0 < s) : nxS set s < s := by
  have : (s - 1) &&& set ≤ s - 1 := Nat.and_le_left
  unfold nxS
  omega
theorem nxS_sub {set s : Nat} : nxS set s &&& set = nxS set s := by
  unfold nxS
  rw [Nat.and_assoc, Nat.and_self]
theorem mxM_le {U : Nat → Bool} {t : Nat → Nat} {set : Nat} (hs : set < 256) (ht : ∀ s, s < set → t s ≤ s) : ∀ f s acc, s < 256 → s &&& set = s → acc ≤ set → mxM U t set f s acc ≤ set
  | 0, s, acc, _, _, h => h
  | f + 1, s, acc, h1, h2, h3 => by
    rw [mxM]
    split
    · exact h3
    · rename_i hz
      have hn := nxS_lt (set := set) (show 0 < s by omega)
      have hx := xor_lt256 set hs s h1 (by omega) h2
      have ht2 := ht _ hx
      refine mxM_le hs ht f _ _ (by omega) nxS_sub ?_
      rw [Nat.and_comm set s, h2]
      split <;> omega
theorem trM_le {U : Nat → Bool} : ∀ n, n ≤ 256 → ∀ s, trM U n s ≤ s
  | 0, _, s => Nat.zero_le _
  | n + 1, hn, s => by
    show (if s = n then mxM U (trM U n) n 257 n 0 else trM U n s) ≤ s
    split
    · rename_i h
      subst h
      exact mxM_le (by omega) (fun q _ => trM_le s (by omega) q) 257 s 0 (by omega) (Nat.and_self s) (Nat.zero_le _)
    · exact trM_le n (by omega) s
def canF (U : Nat → Bool) (r : Nat) : Nat → Bool
  | 0 => false
  | S + 1 => canF U r S || (U S && !S.testBit r)
def ndF (U : Nat → Bool) (N : Nat) : Nat → Nat
  | 0 => 0
  | r + 1 => ndF U N r ||| (if canF U r N then 0 else 2 ^ r)
theorem b2i_1 {c : Prop} {hc : Decidable c} (h : c) : b2i c = nI 1 := b2i_pos h
theorem b2i_0 {c : Prop} {hc : Decidable c} (h : ¬ c) : b2i c = nI 0 := b2i_neg h
theorem absP {z : Int} (h : 0 ≤ z) : zI z = nI z.natAbs := by
  rw [nI_zI, Int.natAbs_of_nonneg h]
theorem absN {z : Int} (h : z < 0) : zI (-z) = nI z.natAbs := by
  rw [nI_zI, show ((z.natAbs : Nat) : Int) = -z by omega]
def lsH (D : Nat → Nat) : Option Nat → Int32
  | none => zI 1000000
  | some c => nI (difF D (2 * c + 1))
section MY
variable {C : Ct} {M : Mm} {l S : Nat} {D : Nat → Nat}
theorem m_onesN (hS : S < 256) : CG C 193 [.int (nI S)] M (fun w M' => w = some (.int (nI (pc8 S))) ∧ M' = M) := by
  refine CG.mono m_ones ?_
  rintro w M' ⟨rfl, rfl⟩
  exact ⟨by rw [ones_at S hS], rfl⟩
theorem g_findGets (W : mH M l D) : CG C 259 [.ref 98] M (fun w M' => w = none ∧ Fo [110, 113] M M' ∧ YM M' l D) := by
  have loop : ∀ i, i ≤ 2 ^ D 2 → ∀ M1, mH M1 l D → Fo [110, 113] M M1 → (∀ S, S < i → M1.2.1 113 S = b2i (uB D S = true)) → G C 259 (2, [some (.ref 98), some (.int (nI i))], [], [], M1) (fun w M' => w = none ∧ Fo [110, 113] M M' ∧ YM M' l D) := by
    refine upto (fun i hi ih M1 W1 hF e3 => ?_)
    have hK := W1.1
    have hH := W1.2
    obtain ⟨⟨a0, a1, a2, a3⟩, hl8, hD, ao⟩ := W1.2
    have hn0 : _ ≤ 8 := hD.1
    have hn1 : _ ≤ 6 := hD.2.1.2
    have hn2 : _ ≤ 8 := hD.2.2.1
    have hp := pw_le _ (Nat.lt_succ_of_le hn2)
    refine G_S (pc := 2) f_259_2 rfl rfl rfl ?_
    refine G_ic (v := nI 1) (pc := 3) f_259_3 (by decide) ?_
    refine G_S (pc := 4) f_259_4 rfl rfl rfl ?_
    refine G_gIv (pc := 5) f_259_5 (by decide) rfl (by decide) (by first | assumption | exact hK.1 _ _ rfl) (by first | assumption | (try dsimp only) <;> (repeat (first | exact up2_s | refine up2_o (by first | decide | omega) ?_)) <;> first | assumption | rfl) ?_
    first | refine G_shl1 (pc := 8) f_259_8 (by omega) ?_ | refine G_S (pc := 8) f_259_8 rfl rfl rfl ?_
    refine G_jgeZ (pc := 9) f_259_9 rfl (by first | exact nI_toInt (by omega) | exact zI_toInt (by omega) (by omega) | rfl) (by first | exact nI_toInt (by omega) | exact zI_toInt (by omega) (by omega) | rfl) (fun b1 => ?_) (fun b1 => ?_)
    · refine G_rv (pc := 30) f_259_30 ?_
      exact ⟨rfl, hF, W1, fun S hS => e3 S (by omega)⟩
    · refine G_S (pc := 12) f_259_12 rfl rfl rfl ?_
      refine G_gR (pc := 13) f_259_13 (by decide) rfl (by first | assumption | exact hK.1 _ _ rfl) (by first | assumption | exact hK.2 _ _ _ rfl | (try dsimp only) <;> (repeat (first | exact up2_s | refine up2_o (by first | decide | omega) ?_)) <;> first | assumption | exact hK.2 _ _ _ rfl) ?_
      refine G_S (pc := 16) f_259_16 rfl rfl rfl ?_
      refine G_S (pc := 17) f_259_17 rfl rfl rfl ?_
      refine G_S (pc := 18) f_259_18 rfl rfl rfl ?_
      refine G_ic (v := nI 0) (pc := 19) f_259_19 (by decide) ?_
      refine G_CV (pc := 20) f_259_20 rfl rfl (by decide) rfl rfl (by first | assumption | exact hK.1 _ _ rfl) (by decide) ⟨Nat.le_of_ble_eq_true rfl, Nat.le_of_ble_eq_true rfl⟩ ?_
      refine CG.mono (g_up W1 (by omega) nI_z0 (by omega) (by omega)) ?_
      rintro _ M2 ⟨rfl, hF2, W2⟩
      have hK := W2.1
      refine G_zsN (pc := 23) f_259_23 (by first | assumption | exact hK.1 _ _ rfl) (by omega) (by omega) (by first | exact Or.inl rfl | exact Or.inr rfl | exact b2i_01 _ | assumption) ?_
      first | refine G_inc1 (pc := 24) f_259_24 rfl ?_ | refine G_S (pc := 24) f_259_24 rfl rfl rfl ?_
      refine G_S (pc := 27) f_259_27 rfl rfl rfl ?_
      have hF3 : Fo [113] M2 _ := Fo.up (i := 113) (k := i) (x := b2i (uB D i = true)) (by decide)
      refine ih (by omega) _ (W2.fo hF3 (by decide) (by decide)) ((hF.tr (hF2.sub (by decide))).tr (hF3.sub (by decide))) (fun S hS => ?_)
      by_cases q : S = i
      · subst q
        exact (by dsimp only; exact up2_s)
      · exact (by dsimp only; exact up2_o (by omega) (by rw [(hF2.2 113 (by decide)).1]; exact e3 S (by omega)))
  refine CG_in (mL := 2) (hl := false) (lv := [some (.ref 98), none]) (ll := []) rfl rfl rfl ?_
  refine G_ic (v := nI 0) (pc := 0) f_259_0 (by decide) ?_
  refine G_S (pc := 1) f_259_1 rfl rfl rfl ?_
  exact loop 0 (Nat.zero_le _) M W Fo.rf (fun S hS => absurd hS (by omega))
theorem g_ounces (W : mH M l D) (hS : S < 256) : CG C 260 [.ref 98, .int (nI S)] M (fun w M' => w = some (.int (nI (ozS D S))) ∧ M' = M) := by
  have hK := W.1
  have hH := W.2
  obtain ⟨⟨a0, a1, a2, a3⟩, hl8, hD, ao⟩ := W.2
  have hn0 : _ ≤ 8 := hD.1
  have hn1 : _ ≤ 6 := hD.2.1.2
  have hn2 : _ ≤ 8 := hD.2.2.1
  have loop : ∀ i, i ≤ D 2 → G C 260 (4, [some (.ref 98), some (.int (nI S)), some (.int (nI (ozN D S i))), some (.int (nI i))], [], [], M) (fun w M' => w = some (.int (nI (ozS D S))) ∧ M' = M) := by
    refine upto (fun i hi ih => ?_)
    refine G_S (pc := 4) f_260_4 rfl rfl rfl ?_
    refine G_S (pc := 5) f_260_5 rfl rfl rfl ?_
    refine G_gIv (pc := 6) f_260_6 (by decide) rfl (by decide) (by first | assumption | exact hK.1 _ _ rfl) (by first | assumption | (try dsimp only) <;> (repeat (first | exact up2_s | refine up2_o (by first | decide | omega) ?_)) <;> first | assumption | rfl) ?_
    refine G_jgeZ (pc := 9) f_260_9 rfl (by first | exact nI_toInt (by omega) | exact zI_toInt (by omega) (by omega) | rfl) (by first | exact nI_toInt (by omega) | exact zI_toInt (by omega) (by omega) | rfl) (fun b1 => ?_) (fun b1 => ?_)
    · refine G_S (pc := 41) f_260_41 rfl rfl rfl ?_
      refine G_ri (pc := 42) f_260_42 ?_
      rw [show i = D 2 by omega]
      exact ⟨rfl, rfl⟩
    · refine G_S (pc := 12) f_260_12 rfl rfl rfl ?_
      refine G_S (pc := 13) f_260_13 rfl rfl rfl ?_
      refine G_S (pc := 14) f_260_14 rfl rfl rfl ?_
      refine G_CS (pc := 15) f_260_15 rfl rfl (by decide) rfl rfl ⟨Nat.le_of_ble_eq_true rfl, Nat.le_of_ble_eq_true rfl⟩ ?_
      refine CG.go (m_hasN (by omega) (by omega)) ?_
      first | refine G_bEq (pc := 18) f_260_18 rfl (fun b2 => ?_) (fun b2 => ?_) | refine G_zeqZ (pc := 18) f_260_18 rfl (by first | exact nI_toInt (by omega) | exact zI_toInt (by omega) (by omega) | rfl) (fun b2 => ?_) (fun b2 => ?_)
      · refine G_ic (v := nI 0) (pc := 32) f_260_32 (by decide) ?_
        first | refine G_addN (pc := 33) f_260_33 ?_ | refine G_addZ (pc := 33) f_260_33 (by first | rfl | exact nI_zI _) (by first | rfl | exact nI_zI _) ?_ | refine G_S (pc := 33) f_260_33 rfl rfl rfl ?_
        refine G_S (pc := 34) f_260_34 rfl rfl rfl ?_
        first | refine G_inc1 (pc := 35) f_260_35 rfl ?_ | refine G_S (pc := 35) f_260_35 rfl rfl rfl ?_
        refine G_S (pc := 38) f_260_38 rfl rfl rfl ?_
        have e := ih (by omega)
        first
          | (rw [ozN, if_pos b2] at e; exact e)
          | (rw [ozN, if_neg b2] at e; exact e)
      · refine G_S (pc := 21) f_260_21 rfl rfl rfl ?_
        refine G_bi (v := nI 19) (pc := 22) f_260_22 (by decide) ?_
        refine G_S (pc := 24) f_260_24 rfl rfl rfl ?_
        first | refine G_addN (pc := 25) f_260_25 ?_ | refine G_addZ (pc := 25) f_260_25 (by first | rfl | exact nI_zI _) (by first | rfl | exact nI_zI _) ?_ | refine G_S (pc := 25) f_260_25 rfl rfl rfl ?_
        refine G_CV (pc := 26) f_260_26 rfl rfl (by decide) rfl rfl (by first | assumption | exact hK.1 _ _ rfl) (by decide) ⟨Nat.le_of_ble_eq_true rfl, Nat.le_of_ble_eq_true rfl⟩ ?_
        refine CG.go (m_ofD hK hH (by omega)) ?_
        refine G_S (pc := 29) f_260_29 rfl rfl rfl ?_
        first | refine G_addN (pc := 33) f_260_33 ?_ | refine G_addZ (pc := 33) f_260_33 (by first | rfl | exact nI_zI _) (by first | rfl | exact nI_zI _) ?_ | refine G_S (pc := 33) f_260_33 rfl rfl rfl ?_
        refine G_S (pc := 34) f_260_34 rfl rfl rfl ?_
        first | refine G_inc1 (pc := 35) f_260_35 rfl ?_ | refine G_S (pc := 35) f_260_35 rfl rfl rfl ?_
        refine G_S (pc := 38) f_260_38 rfl rfl rfl ?_
        have e := ih (by omega)
        first
          | (rw [ozN, if_pos b2] at e; exact e)
          | (rw [ozN, if_neg b2] at e; exact e)
  refine CG_in (mL := 4) (hl := false) (lv := [some (.ref 98), some (.int (nI S)), none, none]) (ll := []) rfl rfl rfl ?_
  refine G_ic (v := nI 0) (pc := 0) f_260_0 (by decide) ?_
  refine G_S (pc := 1) f_260_1 rfl rfl rfl ?_
  refine G_ic (v := nI 0) (pc := 2) f_260_2 (by decide) ?_
  refine G_S (pc := 3) f_260_3 rfl rfl rfl ?_
  exact loop 0 (Nat.zero_le _)
theorem ozS_le' (hD : DOK D) (S : Nat) (_ : S < 256) : ozS D S ≤ 480 := ozS_le hD
theorem g_few (W : YM M l D) : CG C 261 [.ref 98] M (fun w M' => w = some (.int (oI (bestF (uB D) fewL (2 ^ D 2)))) ∧ M' = M) := by
  have hK := W.1.1
  have hH := W.1.2
  obtain ⟨⟨a0, a1, a2, a3⟩, hl8, hD, ao⟩ := W.1.2
  have hn0 : _ ≤ 8 := hD.1
  have hn1 : _ ≤ 6 := hD.2.1.2
  have hn2 : _ ≤ 8 := hD.2.2.1
  have q1 := W.2
  have hp := pw_le _ (Nat.lt_succ_of_le hn2)
  have hp1 := Nat.two_pow_pos (D 2)
  have loop : ∀ i, i ≤ 2 ^ D 2 → G C 261 (4, [some (.ref 98), some (.int ((oI (bestF (uB D) fewL i)))), some (.int (nI i))], [], [], M) (fun w M' => w = some (.int (oI (bestF (uB D) fewL (2 ^ D 2)))) ∧ M' = M) := by
    refine upto (fun i hi ih => ?_)
    have q3 : ∀ c, bestF (uB D) fewL i = some c → c < i ∧ uB D c = true := fun c hc => bestF_lt hc
    have q4 := fun q => pc8_le i q
    refine G_S (pc := 4) f_261_4 rfl rfl rfl ?_
    refine G_ic (v := nI 1) (pc := 5) f_261_5 (by decide) ?_
    refine G_S (pc := 6) f_261_6 rfl rfl rfl ?_
    refine G_gIv (pc := 7) f_261_7 (by decide) rfl (by decide) (by first | assumption | exact hK.1 _ _ rfl) (by first | assumption | (try dsimp only) <;> (repeat (first | exact up2_s | refine up2_o (by first | decide | omega) ?_)) <;> first | assumption | rfl) ?_
    first | refine G_shl1 (pc := 10) f_261_10 (by omega) ?_ | refine G_S (pc := 10) f_261_10 rfl rfl rfl ?_
    refine G_jgeZ (pc := 11) f_261_11 rfl (by first | exact nI_toInt (by omega) | exact zI_toInt (by omega) (by omega) | rfl) (by first | exact nI_toInt (by omega) | exact zI_toInt (by omega) (by omega) | rfl) (fun b1 => ?_) (fun b1 => ?_)
    · refine G_S (pc := 51) f_261_51 rfl rfl rfl ?_
      refine G_ri (pc := 52) f_261_52 ?_
      rw [show i = 2 ^ D 2 by omega]
      exact ⟨rfl, rfl⟩
    · refine G_S (pc := 14) f_261_14 rfl rfl rfl ?_
      refine G_gR (pc := 15) f_261_15 (by decide) rfl (by first | assumption | exact hK.1 _ _ rfl) (by first | assumption | exact hK.2 _ _ _ rfl | (try dsimp only) <;> (repeat (first | exact up2_s | refine up2_o (by first | decide | omega) ?_)) <;> first | assumption | exact hK.2 _ _ _ rfl) ?_
      refine G_S (pc := 18) f_261_18 rfl rfl rfl ?_
      refine G_baN (pc := 19) f_261_19 (by first | assumption | exact hK.1 _ _ rfl) (by decide) (by omega) (by omega) (by first | assumption | exact q1 _ (by omega) | exact q2 _ (by omega) | exact q3 _ (by omega) | exact q4 _ (by omega) | exact q5 _ (by omega) | exact vh _ (by omega) | exact (vr _ (by omega)).1 | exact (vr _ (by omega)).2 | exact vw _ (by omega) | exact vf _ (by omega) (by omega) | rfl) ?_
      first | refine G_bEq (pc := 20) f_261_20 rfl (fun b2 => ?_) (fun b2 => ?_) | refine G_zeqZ (pc := 20) f_261_20 rfl (by first | exact nI_toInt (by omega) | exact zI_toInt (by omega) (by omega) | rfl) (fun b2 => ?_) (fun b2 => ?_)
      · refine G_S (pc := 43) f_261_43 rfl rfl rfl ?_
        refine G_S (pc := 44) f_261_44 rfl rfl rfl ?_
        first | refine G_inc1 (pc := 45) f_261_45 rfl ?_ | refine G_S (pc := 45) f_261_45 rfl rfl rfl ?_
        refine G_S (pc := 48) f_261_48 rfl rfl rfl ?_
        have e := ih (by omega)
        first
          | (rw [bestF_no b2] at e; exact e)
          | (rw [bestF_first b2 (oI_m1 (fun c hc => by have := (q3 c hc).1; omega) b3)] at e; exact e)
          | (rw [bestF_new b2 hc (decide_eq_true (by omega))] at e; exact e)
          | (rw [bestF_keep hc (fun q => absurd (of_decide_eq_true q) (by omega))] at e; exact e)
      · have q4 := q4 (by omega)
        refine G_S (pc := 23) f_261_23 rfl rfl rfl ?_
        refine G_ic (v := zI (-1)) (pc := 24) f_261_24 (by decide) ?_
        refine G_jeqZ (pc := 25) f_261_25 rfl (by first | exact nI_toInt (by omega) | exact zI_toInt (by omega) (by omega) | rfl) (by first | exact nI_toInt (by omega) | exact zI_toInt (by omega) (by omega) | rfl) (fun b3 => ?_) (fun b3 => ?_)
        · refine G_S (pc := 39) f_261_39 rfl rfl rfl ?_
          refine G_S (pc := 40) f_261_40 rfl rfl rfl ?_
          refine G_S (pc := 44) f_261_44 rfl rfl rfl ?_
          first | refine G_inc1 (pc := 45) f_261_45 rfl ?_ | refine G_S (pc := 45) f_261_45 rfl rfl rfl ?_
          refine G_S (pc := 48) f_261_48 rfl rfl rfl ?_
          have e := ih (by omega)
          first
            | (rw [bestF_no b2] at e; exact e)
            | (rw [bestF_first b2 (oI_m1 (fun c hc => by have := (q3 c hc).1; omega) b3)] at e; exact e)
            | (rw [bestF_new b2 hc (decide_eq_true (by omega))] at e; exact e)
            | (rw [bestF_keep hc (fun q => absurd (of_decide_eq_true q) (by omega))] at e; exact e)
        · obtain ⟨c, hc⟩ := oI_nn b3
          have hc2 := (q3 c hc).1
          have q5 := pc8_le c (by omega)
          rw [hc, oI_some]
          refine G_S (pc := 28) f_261_28 rfl rfl rfl ?_
          refine G_CS (pc := 29) f_261_29 rfl rfl (by decide) rfl rfl ⟨Nat.le_of_ble_eq_true rfl, Nat.le_of_ble_eq_true rfl⟩ ?_
          refine CG.go (m_onesN (by omega)) ?_
          refine G_S (pc := 32) f_261_32 rfl rfl rfl ?_
          refine G_CS (pc := 33) f_261_33 rfl rfl (by decide) rfl rfl ⟨Nat.le_of_ble_eq_true rfl, Nat.le_of_ble_eq_true rfl⟩ ?_
          refine CG.go (m_onesN (by omega)) ?_
          refine G_jgeZ (pc := 36) f_261_36 rfl (by first | exact nI_toInt (by omega) | exact zI_toInt (by omega) (by omega) | rfl) (by first | exact nI_toInt (by omega) | exact zI_toInt (by omega) (by omega) | rfl) (fun b4 => ?_) (fun b4 => ?_)
          · refine G_S (pc := 43) f_261_43 rfl rfl rfl ?_
            refine G_S (pc := 44) f_261_44 rfl rfl rfl ?_
            first | refine G_inc1 (pc := 45) f_261_45 rfl ?_ | refine G_S (pc := 45) f_261_45 rfl rfl rfl ?_
            refine G_S (pc := 48) f_261_48 rfl rfl rfl ?_
            have e := ih (by omega)
            first
              | (rw [bestF_no b2] at e; exact e)
              | (rw [bestF_first b2 (oI_m1 (fun c hc => by have := (q3 c hc).1; omega) b3)] at e; exact e)
              | (rw [bestF_new b2 hc (decide_eq_true (by omega))] at e; exact e)
              | (rw [bestF_keep hc (fun q => absurd (of_decide_eq_true q) (by omega))] at e; exact e)
          · refine G_S (pc := 39) f_261_39 rfl rfl rfl ?_
            refine G_S (pc := 40) f_261_40 rfl rfl rfl ?_
            refine G_S (pc := 44) f_261_44 rfl rfl rfl ?_
            first | refine G_inc1 (pc := 45) f_261_45 rfl ?_ | refine G_S (pc := 45) f_261_45 rfl rfl rfl ?_
            refine G_S (pc := 48) f_261_48 rfl rfl rfl ?_
            have e := ih (by omega)
            first
              | (rw [bestF_no b2] at e; exact e)
              | (rw [bestF_first b2 (oI_m1 (fun c hc => by have := (q3 c hc).1; omega) b3)] at e; exact e)
              | (rw [bestF_new b2 hc (decide_eq_true (by omega))] at e; exact e)
              | (rw [bestF_keep hc (fun q => absurd (of_decide_eq_true q) (by omega))] at e; exact e)
  refine CG_in (mL := 3) (hl := false) (lv := [some (.ref 98), none, none]) (ll := []) rfl rfl rfl ?_
  refine G_ic (v := zI (-1)) (pc := 0) f_261_0 (by decide) ?_
  refine G_S (pc := 1) f_261_1 rfl rfl rfl ?_
  refine G_ic (v := nI 0) (pc := 2) f_261_2 (by decide) ?_
  refine G_S (pc := 3) f_261_3 rfl rfl rfl ?_
  exact loop 0 (Nat.zero_le _)
theorem g_light (W : YM M l D) : CG C 262 [.ref 98] M (fun w M' => w = some (.int (oI (bestF (uB D) (lightL D) (2 ^ D 2)))) ∧ M' = M) := by
  have hK := W.1.1
  have hH := W.1.2
  obtain ⟨⟨a0, a1, a2, a3⟩, hl8, hD, ao⟩ := W.1.2
  have hn0 : _ ≤ 8 := hD.1
  have hn1 : _ ≤ 6 := hD.2.1.2
  have hn2 : _ ≤ 8 := hD.2.2.1
  have q1 := W.2
  have hp := pw_le _ (Nat.lt_succ_of_le hn2)
  have hp1 := Nat.two_pow_pos (D 2)
  have loop : ∀ i, i ≤ 2 ^ D 2 → G C 262 (4, [some (.ref 98), some (.int ((oI (bestF (uB D) (lightL D) i)))), some (.int (nI i))], [], [], M) (fun w M' => w = some (.int (oI (bestF (uB D) (lightL D) (2 ^ D 2)))) ∧ M' = M) := by
    refine upto (fun i hi ih => ?_)
    have q3 : ∀ c, bestF (uB D) (lightL D) i = some c → c < i ∧ uB D c = true := fun c hc => bestF_lt hc
    have q4 := fun q => ozS_le' hD i q
    refine G_S (pc := 4) f_262_4 rfl rfl rfl ?_
    refine G_ic (v := nI 1) (pc := 5) f_262_5 (by decide) ?_
    refine G_S (pc := 6) f_262_6 rfl rfl rfl ?_
    refine G_gIv (pc := 7) f_262_7 (by decide) rfl (by decide) (by first | assumption | exact hK.1 _ _ rfl) (by first | assumption | (try dsimp only) <;> (repeat (first | exact up2_s | refine up2_o (by first | decide | omega) ?_)) <;> first | assumption | rfl) ?_
    first | refine G_shl1 (pc := 10) f_262_10 (by omega) ?_ | refine G_S (pc := 10) f_262_10 rfl rfl rfl ?_
    refine G_jgeZ (pc := 11) f_262_11 rfl (by first | exact nI_toInt (by omega) | exact zI_toInt (by omega) (by omega) | rfl) (by first | exact nI_toInt (by omega) | exact zI_toInt (by omega) (by omega) | rfl) (fun b1 => ?_) (fun b1 => ?_)
    · refine G_S (pc := 53) f_262_53 rfl rfl rfl ?_
      refine G_ri (pc := 54) f_262_54 ?_
      rw [show i = 2 ^ D 2 by omega]
      exact ⟨rfl, rfl⟩
    · refine G_S (pc := 14) f_262_14 rfl rfl rfl ?_
      refine G_gR (pc := 15) f_262_15 (by decide) rfl (by first | assumption | exact hK.1 _ _ rfl) (by first | assumption | exact hK.2 _ _ _ rfl | (try dsimp only) <;> (repeat (first | exact up2_s | refine up2_o (by first | decide | omega) ?_)) <;> first | assumption | exact hK.2 _ _ _ rfl) ?_
      refine G_S (pc := 18) f_262_18 rfl rfl rfl ?_
      refine G_baN (pc := 19) f_262_19 (by first | assumption | exact hK.1 _ _ rfl) (by decide) (by omega) (by omega) (by first | assumption | exact q1 _ (by omega) | exact q2 _ (by omega) | exact q3 _ (by omega) | exact q4 _ (by omega) | exact q5 _ (by omega) | exact vh _ (by omega) | exact (vr _ (by omega)).1 | exact (vr _ (by omega)).2 | exact vw _ (by omega) | exact vf _ (by omega) (by omega) | rfl) ?_
      first | refine G_bEq (pc := 20) f_262_20 rfl (fun b2 => ?_) (fun b2 => ?_) | refine G_zeqZ (pc := 20) f_262_20 rfl (by first | exact nI_toInt (by omega) | exact zI_toInt (by omega) (by omega) | rfl) (fun b2 => ?_) (fun b2 => ?_)
      · refine G_S (pc := 45) f_262_45 rfl rfl rfl ?_
        refine G_S (pc := 46) f_262_46 rfl rfl rfl ?_
        first | refine G_inc1 (pc := 47) f_262_47 rfl ?_ | refine G_S (pc := 47) f_262_47 rfl rfl rfl ?_
        refine G_S (pc := 50) f_262_50 rfl rfl rfl ?_
        have e := ih (by omega)
        first
          | (rw [bestF_no b2] at e; exact e)
          | (rw [bestF_first b2 (oI_m1 (fun c hc => by have := (q3 c hc).1; omega) b3)] at e; exact e)
          | (rw [bestF_new b2 hc (decide_eq_true (by omega))] at e; exact e)
          | (rw [bestF_keep hc (fun q => absurd (of_decide_eq_true q) (by omega))] at e; exact e)
      · have q4 := q4 (by omega)
        refine G_S (pc := 23) f_262_23 rfl rfl rfl ?_
        refine G_ic (v := zI (-1)) (pc := 24) f_262_24 (by decide) ?_
        refine G_jeqZ (pc := 25) f_262_25 rfl (by first | exact nI_toInt (by omega) | exact zI_toInt (by omega) (by omega) | rfl) (by first | exact nI_toInt (by omega) | exact zI_toInt (by omega) (by omega) | rfl) (fun b3 => ?_) (fun b3 => ?_)
        · refine G_S (pc := 41) f_262_41 rfl rfl rfl ?_
          refine G_S (pc := 42) f_262_42 rfl rfl rfl ?_
          refine G_S (pc := 46) f_262_46 rfl rfl rfl ?_
          first | refine G_inc1 (pc := 47) f_262_47 rfl ?_ | refine G_S (pc := 47) f_262_47 rfl rfl rfl ?_
          refine G_S (pc := 50) f_262_50 rfl rfl rfl ?_
          have e := ih (by omega)
          first
            | (rw [bestF_no b2] at e; exact e)
            | (rw [bestF_first b2 (oI_m1 (fun c hc => by have := (q3 c hc).1; omega) b3)] at e; exact e)
            | (rw [bestF_new b2 hc (decide_eq_true (by omega))] at e; exact e)
            | (rw [bestF_keep hc (fun q => absurd (of_decide_eq_true q) (by omega))] at e; exact e)
        · obtain ⟨c, hc⟩ := oI_nn b3
          have hc2 := (q3 c hc).1
          have q5 := ozS_le' hD c (by omega)
          rw [hc, oI_some]
          refine G_S (pc := 28) f_262_28 rfl rfl rfl ?_
          refine G_S (pc := 29) f_262_29 rfl rfl rfl ?_
          refine G_CV (pc := 30) f_262_30 rfl rfl (by decide) rfl rfl (by first | assumption | exact hK.1 _ _ rfl) (by decide) ⟨Nat.le_of_ble_eq_true rfl, Nat.le_of_ble_eq_true rfl⟩ ?_
          refine CG.go (g_ounces W.1 (by omega)) ?_
          refine G_S (pc := 33) f_262_33 rfl rfl rfl ?_
          refine G_S (pc := 34) f_262_34 rfl rfl rfl ?_
          refine G_CV (pc := 35) f_262_35 rfl rfl (by decide) rfl rfl (by first | assumption | exact hK.1 _ _ rfl) (by decide) ⟨Nat.le_of_ble_eq_true rfl, Nat.le_of_ble_eq_true rfl⟩ ?_
          refine CG.go (g_ounces W.1 (by omega)) ?_
          refine G_jgeZ (pc := 38) f_262_38 rfl (by first | exact nI_toInt (by omega) | exact zI_toInt (by omega) (by omega) | rfl) (by first | exact nI_toInt (by omega) | exact zI_toInt (by omega) (by omega) | rfl) (fun b4 => ?_) (fun b4 => ?_)
          · refine G_S (pc := 45) f_262_45 rfl rfl rfl ?_
            refine G_S (pc := 46) f_262_46 rfl rfl rfl ?_
            first | refine G_inc1 (pc := 47) f_262_47 rfl ?_ | refine G_S (pc := 47) f_262_47 rfl rfl rfl ?_
            refine G_S (pc := 50) f_262_50 rfl rfl rfl ?_
            have e := ih (by omega)
            first
              | (rw [bestF_no b2] at e; exact e)
              | (rw [bestF_first b2 (oI_m1 (fun c hc => by have := (q3 c hc).1; omega) b3)] at e; exact e)
              | (rw [bestF_new b2 hc (decide_eq_true (by omega))] at e; exact e)
              | (rw [bestF_keep hc (fun q => absurd (of_decide_eq_true q) (by omega))] at e; exact e)
          · refine G_S (pc := 41) f_262_41 rfl rfl rfl ?_
            refine G_S (pc := 42) f_262_42 rfl rfl rfl ?_
            refine G_S (pc := 46) f_262_46 rfl rfl rfl ?_
            first | refine G_inc1 (pc := 47) f_262_47 rfl ?_ | refine G_S (pc := 47) f_262_47 rfl rfl rfl ?_
            refine G_S (pc := 50) f_262_50 rfl rfl rfl ?_
            have e := ih (by omega)
            first
              | (rw [bestF_no b2] at e; exact e)
              | (rw [bestF_first b2 (oI_m1 (fun c hc => by have := (q3 c hc).1; omega) b3)] at e; exact e)
              | (rw [bestF_new b2 hc (decide_eq_true (by omega))] at e; exact e)
              | (rw [bestF_keep hc (fun q => absurd (of_decide_eq_true q) (by omega))] at e; exact e)
  refine CG_in (mL := 3) (hl := false) (lv := [some (.ref 98), none, none]) (ll := []) rfl rfl rfl ?_
  refine G_ic (v := zI (-1)) (pc := 0) f_262_0 (by decide) ?_
  refine G_S (pc := 1) f_262_1 rfl rfl rfl ?_
  refine G_ic (v := nI 0) (pc := 2) f_262_2 (by decide) ?_
  refine G_S (pc := 3) f_262_3 rfl rfl rfl ?_
  exact loop 0 (Nat.zero_le _)
theorem g_trams (W : YM M l D) : CG C 263 [.ref 98] M (fun w M' => w = some (.int (nI (trM (uB D) (2 ^ D 2) (2 ^ D 2 - 1)))) ∧ Fo [114] M M') := by
  have inner : ∀ {Q} i R, 1 ≤ i → i < 2 ^ D 2 → ∀ M1, YM M1 l D → (∀ s, s < i → M1.2.1 114 s = nI (trM (uB D) i s)) → G C 263 (66, [some (.ref 98), some (.int (nI i)), some (.int (nI R)), some (.int (nI 0))], [], [], M1) Q → ∀ f j acc, j < f → j ≤ i → j &&& i = j → acc ≤ i → mxM (uB D) (trM (uB D) i) i f j acc = R → G C 263 (23, [some (.ref 98), some (.int (nI i)), some (.int (nI acc)), some (.int (nI j))], [], [], M1) Q := by
    intro Q i R hi1 hi M1 W1 q2 K
    have hK := W1.1.1
    have hH := W1.1.2
    obtain ⟨⟨a0, a1, a2, a3⟩, hl8, hD, ao⟩ := W1.1.2
    have hn0 : _ ≤ 8 := hD.1
    have hn1 : _ ≤ 6 := hD.2.1.2
    have hn2 : _ ≤ 8 := hD.2.2.1
    have q1 := W1.2
    have hp := pw_le _ (Nat.lt_succ_of_le hn2)
    have hp1 := Nat.two_pow_pos (D 2)
    intro f
    induction f with
    | zero => intro j acc hj; exact absurd hj (by omega)
    | succ f ih =>
      intro j acc hj hji hsub hacc hR
      have hcm : i &&& j = j := by rw [Nat.and_comm]; exact hsub
      have hnx : 0 < j → nxS i j < j := fun q => nxS_lt q
      have hx : 0 < j → i ^^^ (i &&& j) < i := fun q => by rw [hcm]; exact xor_lt256 i (by omega) j (by omega) q hsub
      have ht := trM_le (U := uB D) i (by omega) (i ^^^ (i &&& j))
      rw [mxM] at hR
      refine G_S (pc := 23) f_263_23 rfl rfl rfl ?_
      refine G_zleZ (pc := 24) f_263_24 rfl (by first | exact nI_toInt (by omega) | exact zI_toInt (by omega) (by omega) | rfl) (fun b2 => ?_) (fun b2 => ?_)
      · rw [if_pos (by omega)] at hR
        have hj0 : j = 0 := by omega
        subst hj0
        subst hR
        exact K
      · have hx := hx (by omega)
        have hnx := hnx (by omega)
        rw [if_neg (by omega)] at hR
        refine G_S (pc := 27) f_263_27 rfl rfl rfl ?_
        refine G_S (pc := 28) f_263_28 rfl rfl rfl ?_
        refine G_gR (pc := 29) f_263_29 (by decide) rfl (by first | assumption | exact hK.1 _ _ rfl) (by first | assumption | exact hK.2 _ _ _ rfl | (try dsimp only) <;> (repeat (first | exact up2_s | refine up2_o (by first | decide | omega) ?_)) <;> first | assumption | exact hK.2 _ _ _ rfl) ?_
        refine G_S (pc := 32) f_263_32 rfl rfl rfl ?_
        refine G_S (pc := 33) f_263_33 rfl rfl rfl ?_
        refine G_ic (v := zI (-1)) (pc := 34) f_263_34 (by decide) ?_
        first | refine G_xorN (pc := 35) f_263_35 ?_ | refine G_S (pc := 35) f_263_35 rfl rfl rfl ?_
        first | refine G_andN (pc := 36) f_263_36 ?_ | refine G_andnN (pc := 36) f_263_36 ?_ | refine G_S (pc := 36) f_263_36 rfl rfl rfl ?_
        refine G_iaN (pc := 37) f_263_37 (by first | assumption | exact hK.1 _ _ rfl) (by omega) (by omega) (by first | exact q2 _ hx | rfl) ?_
        refine G_S (pc := 38) f_263_38 rfl rfl rfl ?_
        refine G_gR (pc := 39) f_263_39 (by decide) rfl (by first | assumption | exact hK.1 _ _ rfl) (by first | assumption | exact hK.2 _ _ _ rfl | (try dsimp only) <;> (repeat (first | exact up2_s | refine up2_o (by first | decide | omega) ?_)) <;> first | assumption | exact hK.2 _ _ _ rfl) ?_
        refine G_S (pc := 42) f_263_42 rfl rfl rfl ?_
        refine G_baN (pc := 43) f_263_43 (by first | assumption | exact hK.1 _ _ rfl) (by decide) (by omega) (by omega) (by first | assumption | exact q1 _ (by omega) | exact q2 _ (by omega) | exact q3 _ (by omega) | exact q4 _ (by omega) | exact q5 _ (by omega) | exact vh _ (by omega) | exact (vr _ (by omega)).1 | exact (vr _ (by omega)).2 | exact vw _ (by omega) | exact vf _ (by omega) (by omega) | rfl) ?_
        first | refine G_bEq (pc := 44) f_263_44 rfl (fun b3 => ?_) (fun b3 => ?_) | refine G_zeqZ (pc := 44) f_263_44 rfl (by first | exact nI_toInt (by omega) | exact zI_toInt (by omega) (by omega) | rfl) (fun b3 => ?_) (fun b3 => ?_)
        · refine G_ic (v := nI 0) (pc := 51) f_263_51 (by decide) ?_
          first | refine G_addN (pc := 52) f_263_52 ?_ | refine G_addZ (pc := 52) f_263_52 (by first | rfl | exact nI_zI _) (by first | rfl | exact nI_zI _) ?_ | refine G_S (pc := 52) f_263_52 rfl rfl rfl ?_
          refine G_CS (pc := 53) f_263_53 rfl rfl (by decide) rfl rfl ⟨Nat.le_of_ble_eq_true rfl, Nat.le_of_ble_eq_true rfl⟩ ?_
          refine CG.go (by first | exact m_greaterN (by omega) (by omega) | exact m_greaterZ (by first | exact nI_toInt (by omega) | exact zI_toInt (by omega) (by omega) | rfl) (by first | exact nI_toInt (by omega) | exact zI_toInt (by omega) (by omega) | rfl)) ?_
          refine G_S (pc := 56) f_263_56 rfl rfl rfl ?_
          refine G_S (pc := 57) f_263_57 rfl rfl rfl ?_
          refine G_ic (v := nI 1) (pc := 58) f_263_58 (by decide) ?_
          first | refine G_subN (pc := 59) f_263_59 (by omega) ?_ | refine G_subZ (pc := 59) f_263_59 (by first | rfl | exact nI_zI _) (by first | rfl | exact nI_zI _) ?_ | refine G_S (pc := 59) f_263_59 rfl rfl rfl ?_
          refine G_S (pc := 60) f_263_60 rfl rfl rfl ?_
          first | refine G_andN (pc := 61) f_263_61 ?_ | refine G_andnN (pc := 61) f_263_61 ?_ | refine G_S (pc := 61) f_263_61 rfl rfl rfl ?_
          refine G_S (pc := 62) f_263_62 rfl rfl rfl ?_
          refine G_S (pc := 63) f_263_63 rfl rfl rfl ?_
          first
            | (rw [if_pos b3] at hR
               exact ih (nxS i j) _ (by omega) (by omega) nxS_sub (by omega) hR)
            | (rw [if_neg b3] at hR
               exact ih (nxS i j) _ (by omega) (by omega) nxS_sub (by omega) hR)
        · refine G_ic (v := nI 1) (pc := 47) f_263_47 (by decide) ?_
          refine G_S (pc := 48) f_263_48 rfl rfl rfl ?_
          first | refine G_addN (pc := 52) f_263_52 ?_ | refine G_addZ (pc := 52) f_263_52 (by first | rfl | exact nI_zI _) (by first | rfl | exact nI_zI _) ?_ | refine G_S (pc := 52) f_263_52 rfl rfl rfl ?_
          refine G_CS (pc := 53) f_263_53 rfl rfl (by decide) rfl rfl ⟨Nat.le_of_ble_eq_true rfl, Nat.le_of_ble_eq_true rfl⟩ ?_
          refine CG.go (by first | exact m_greaterN (by omega) (by omega) | exact m_greaterZ (by first | exact nI_toInt (by omega) | exact zI_toInt (by omega) (by omega) | rfl) (by first | exact nI_toInt (by omega) | exact zI_toInt (by omega) (by omega) | rfl)) ?_
          refine G_S (pc := 56) f_263_56 rfl rfl rfl ?_
          refine G_S (pc := 57) f_263_57 rfl rfl rfl ?_
          refine G_ic (v := nI 1) (pc := 58) f_263_58 (by decide) ?_
          first | refine G_subN (pc := 59) f_263_59 (by omega) ?_ | refine G_subZ (pc := 59) f_263_59 (by first | rfl | exact nI_zI _) (by first | rfl | exact nI_zI _) ?_ | refine G_S (pc := 59) f_263_59 rfl rfl rfl ?_
          refine G_S (pc := 60) f_263_60 rfl rfl rfl ?_
          first | refine G_andN (pc := 61) f_263_61 ?_ | refine G_andnN (pc := 61) f_263_61 ?_ | refine G_S (pc := 61) f_263_61 rfl rfl rfl ?_
          refine G_S (pc := 62) f_263_62 rfl rfl rfl ?_
          refine G_S (pc := 63) f_263_63 rfl rfl rfl ?_
          first
            | (rw [if_pos b3] at hR
               exact ih (nxS i j) _ (by omega) (by omega) nxS_sub (by omega) hR)
            | (rw [if_neg b3] at hR
               exact ih (nxS i j) _ (by omega) (by omega) nxS_sub (by omega) hR)
  have loop : ∀ i, i ≤ 2 ^ D 2 → 1 ≤ i → ∀ M1 a b, YM M1 l D → Fo [114] M M1 → (∀ s, s < i → M1.2.1 114 s = nI (trM (uB D) i s)) → G C 263 (9, [some (.ref 98), some (.int (nI i)), a, b], [], [], M1) (fun w M' => w = some (.int (nI (trM (uB D) (2 ^ D 2) (2 ^ D 2 - 1)))) ∧ Fo [114] M M') := by
    refine upto (fun i hi ih h1 M1 a b W1 hF q2 => ?_)
    have hK := W1.1.1
    have hH := W1.1.2
    obtain ⟨⟨a0, a1, a2, a3⟩, hl8, hD, ao⟩ := W1.1.2
    have hn0 : _ ≤ 8 := hD.1
    have hn1 : _ ≤ 6 := hD.2.1.2
    have hn2 : _ ≤ 8 := hD.2.2.1
    have q1 := W1.2
    have hp := pw_le _ (Nat.lt_succ_of_le hn2)
    have hp1 := Nat.two_pow_pos (D 2)
    refine G_S (pc := 9) f_263_9 rfl rfl rfl ?_
    refine G_ic (v := nI 1) (pc := 10) f_263_10 (by decide) ?_
    refine G_S (pc := 11) f_263_11 rfl rfl rfl ?_
    refine G_gIv (pc := 12) f_263_12 (by decide) rfl (by decide) (by first | assumption | exact hK.1 _ _ rfl) (by first | assumption | (try dsimp only) <;> (repeat (first | exact up2_s | refine up2_o (by first | decide | omega) ?_)) <;> first | assumption | rfl) ?_
    first | refine G_shl1 (pc := 15) f_263_15 (by omega) ?_ | refine G_S (pc := 15) f_263_15 rfl rfl rfl ?_
    refine G_jgeZ (pc := 16) f_263_16 rfl (by first | exact nI_toInt (by omega) | exact zI_toInt (by omega) (by omega) | rfl) (by first | exact nI_toInt (by omega) | exact zI_toInt (by omega) (by omega) | rfl) (fun b1 => ?_) (fun b1 => ?_)
    · refine G_S (pc := 79) f_263_79 rfl rfl rfl ?_
      refine G_gR (pc := 80) f_263_80 (by decide) rfl (by first | assumption | exact hK.1 _ _ rfl) (by first | assumption | exact hK.2 _ _ _ rfl | (try dsimp only) <;> (repeat (first | exact up2_s | refine up2_o (by first | decide | omega) ?_)) <;> first | assumption | exact hK.2 _ _ _ rfl) ?_
      refine G_ic (v := nI 1) (pc := 83) f_263_83 (by decide) ?_
      refine G_S (pc := 84) f_263_84 rfl rfl rfl ?_
      refine G_gIv (pc := 85) f_263_85 (by decide) rfl (by decide) (by first | assumption | exact hK.1 _ _ rfl) (by first | assumption | (try dsimp only) <;> (repeat (first | exact up2_s | refine up2_o (by first | decide | omega) ?_)) <;> first | assumption | rfl) ?_
      first | refine G_shl1 (pc := 88) f_263_88 (by omega) ?_ | refine G_S (pc := 88) f_263_88 rfl rfl rfl ?_
      refine G_ic (v := nI 1) (pc := 89) f_263_89 (by decide) ?_
      first | refine G_subN (pc := 90) f_263_90 (by omega) ?_ | refine G_subZ (pc := 90) f_263_90 (by first | rfl | exact nI_zI _) (by first | rfl | exact nI_zI _) ?_ | refine G_S (pc := 90) f_263_90 rfl rfl rfl ?_
      refine G_iaN (pc := 91) f_263_91 (by first | assumption | exact hK.1 _ _ rfl) (by omega) (by omega) (by first | exact rfl | rfl) ?_
      refine G_ri (pc := 92) f_263_92 ?_
      rw [show i = 2 ^ D 2 by omega] at q2
      exact ⟨by rw [q2 _ (by omega)], hF⟩
    · refine G_ic (v := nI 0) (pc := 19) f_263_19 (by decide) ?_
      refine G_S (pc := 20) f_263_20 rfl rfl rfl ?_
      refine G_S (pc := 21) f_263_21 rfl rfl rfl ?_
      refine G_S (pc := 22) f_263_22 rfl rfl rfl ?_
      refine inner i _ h1 (by omega) M1 W1 q2 ?_ 257 i 0 (by omega) (by omega) (Nat.and_self i) (by omega) rfl
      refine G_S (pc := 66) f_263_66 rfl rfl rfl ?_
      refine G_gR (pc := 67) f_263_67 (by decide) rfl (by first | assumption | exact hK.1 _ _ rfl) (by first | assumption | exact hK.2 _ _ _ rfl | (try dsimp only) <;> (repeat (first | exact up2_s | refine up2_o (by first | decide | omega) ?_)) <;> first | assumption | exact hK.2 _ _ _ rfl) ?_
      refine G_S (pc := 70) f_263_70 rfl rfl rfl ?_
      refine G_S (pc := 71) f_263_71 rfl rfl rfl ?_
      refine G_isN (pc := 72) f_263_72 (by first | assumption | exact hK.1 _ _ rfl) (by omega) (by omega) ?_
      first | refine G_inc1 (pc := 73) f_263_73 rfl ?_ | refine G_S (pc := 73) f_263_73 rfl rfl rfl ?_
      refine G_S (pc := 76) f_263_76 rfl rfl rfl ?_
      have hF3 : Fo [114] M1 _ := Fo.up (i := 114) (k := i) (x := nI (mxM (uB D) (trM (uB D) i) i 257 i 0)) (by decide)
      refine ih (by omega) (by omega) _ _ _ (W1.fo hF3 (by decide) (by decide) (by decide)) (hF.tr hF3) (fun s hs => ?_)
      show _ = nI (if s = i then mxM (uB D) (trM (uB D) i) i 257 i 0 else trM (uB D) i s)
      by_cases q : s = i
      · subst q
        rw [if_pos rfl]
        exact (by dsimp only; exact up2_s)
      · rw [if_neg q]
        exact (by dsimp only; exact up2_o (by omega) (q2 s (by omega)))
  have hK := W.1.1
  have hH := W.1.2
  obtain ⟨⟨a0, a1, a2, a3⟩, hl8, hD, ao⟩ := W.1.2
  have hn0 : _ ≤ 8 := hD.1
  have hn1 : _ ≤ 6 := hD.2.1.2
  have hn2 : _ ≤ 8 := hD.2.2.1
  have q1 := W.2
  have hp := pw_le _ (Nat.lt_succ_of_le hn2)
  have hp1 := Nat.two_pow_pos (D 2)
  refine CG_in (mL := 4) (hl := false) (lv := [some (.ref 98), none, none, none]) (ll := []) rfl rfl rfl ?_
  refine G_S (pc := 0) f_263_0 rfl rfl rfl ?_
  refine G_gR (pc := 1) f_263_1 (by decide) rfl (by first | assumption | exact hK.1 _ _ rfl) (by first | assumption | exact hK.2 _ _ _ rfl | (try dsimp only) <;> (repeat (first | exact up2_s | refine up2_o (by first | decide | omega) ?_)) <;> first | assumption | exact hK.2 _ _ _ rfl) ?_
  refine G_ic (v := nI 0) (pc := 4) f_263_4 (by decide) ?_
  refine G_ic (v := nI 0) (pc := 5) f_263_5 (by decide) ?_
  refine G_isN (pc := 6) f_263_6 (by first | assumption | exact hK.1 _ _ rfl) (by omega) (by omega) ?_
  refine G_ic (v := nI 1) (pc := 7) f_263_7 (by decide) ?_
  refine G_S (pc := 8) f_263_8 rfl rfl rfl ?_
  have hF3 : Fo [114] M _ := Fo.up (i := 114) (k := 0) (x := nI 0) (by decide)
  refine loop 1 (by omega) (by omega) _ _ _ (W.fo hF3 (by decide) (by decide) (by decide)) hF3 (fun s hs => ?_)
  rw [show s = 0 by omega]
  exact (by dsimp only; exact up2_s)
theorem g_needed (W : YM M l D) : CG C 264 [.ref 98] M (fun w M' => w = some (.int (nI (ndF (uB D) (2 ^ D 2) (D 2)))) ∧ M' = M) := by
  have hK := W.1.1
  have hH := W.1.2
  obtain ⟨⟨a0, a1, a2, a3⟩, hl8, hD, ao⟩ := W.1.2
  have hn0 : _ ≤ 8 := hD.1
  have hn1 : _ ≤ 6 := hD.2.1.2
  have hn2 : _ ≤ 8 := hD.2.2.1
  have q1 := W.2
  have hp := pw_le _ (Nat.lt_succ_of_le hn2)
  have hp1 := Nat.two_pow_pos (D 2)
  have inner : ∀ {Q} r x, r < D 2 → G C 264 (63, [some (.ref 98), some (.int x), some (.int (nI r)), some (.int ((b2i (canF (uB D) r (2 ^ D 2) = true)))), some (.int (nI (2 ^ D 2)))], [], [], M) Q → ∀ i, i ≤ 2 ^ D 2 → G C 264 (17, [some (.ref 98), some (.int x), some (.int (nI r)), some (.int ((b2i (canF (uB D) r i = true)))), some (.int (nI i))], [], [], M) Q := by
    intro Q r x hr K
    refine upto (fun i hi ih => ?_)
    refine G_S (pc := 17) f_264_17 rfl rfl rfl ?_
    refine G_ic (v := nI 1) (pc := 19) f_264_19 (by decide) ?_
    refine G_S (pc := 20) f_264_20 rfl rfl rfl ?_
    refine G_gIv (pc := 21) f_264_21 (by decide) rfl (by decide) (by first | assumption | exact hK.1 _ _ rfl) (by first | assumption | (try dsimp only) <;> (repeat (first | exact up2_s | refine up2_o (by first | decide | omega) ?_)) <;> first | assumption | rfl) ?_
    first | refine G_shl1 (pc := 24) f_264_24 (by omega) ?_ | refine G_S (pc := 24) f_264_24 rfl rfl rfl ?_
    refine G_jgeZ (pc := 25) f_264_25 rfl (by first | exact nI_toInt (by omega) | exact zI_toInt (by omega) (by omega) | rfl) (by first | exact nI_toInt (by omega) | exact zI_toInt (by omega) (by omega) | rfl) (fun b2 => ?_) (fun b2 => ?_)
    · rw [show i = 2 ^ D 2 by omega]
      exact K
    · refine G_S (pc := 28) f_264_28 rfl rfl rfl ?_
      first | refine G_bNe (pc := 29) f_264_29 rfl (fun b3 => ?_) (fun b3 => ?_) | refine G_zneZ (pc := 29) f_264_29 rfl (by first | exact nI_toInt (by omega) | exact zI_toInt (by omega) (by omega) | rfl) (fun b3 => ?_) (fun b3 => ?_)
      · refine G_ic (v := nI 1) (pc := 51) f_264_51 (by decide) ?_
        refine G_S (pc := 52) f_264_52 rfl rfl rfl ?_
        refine G_S (pc := 56) f_264_56 rfl rfl rfl ?_
        first | refine G_inc1 (pc := 57) f_264_57 rfl ?_ | refine G_S (pc := 57) f_264_57 rfl rfl rfl ?_
        refine G_S (pc := 60) f_264_60 rfl rfl rfl ?_
        have e := ih (by omega)
        first
          | (rw [b2i_1 (show canF (uB D) r (i + 1) = true by rw [canF, b3]; rfl)] at e; exact e)
          | (rw [b2i_0 (show ¬ canF (uB D) r (i + 1) = true by rw [canF, (Bool.not_eq_true _).mp b3, (Bool.not_eq_true _).mp b4]; simp)] at e; exact e)
          | (rw [b2i_0 (show ¬ canF (uB D) r (i + 1) = true by rw [canF, (Bool.not_eq_true _).mp b3, b4, b5]; simp)] at e; exact e)
          | (rw [b2i_1 (show canF (uB D) r (i + 1) = true by rw [canF, (Bool.not_eq_true _).mp b3, b4, (Bool.not_eq_true _).mp b5]; rfl)] at e; exact e)
      · refine G_S (pc := 32) f_264_32 rfl rfl rfl ?_
        refine G_gR (pc := 33) f_264_33 (by decide) rfl (by first | assumption | exact hK.1 _ _ rfl) (by first | assumption | exact hK.2 _ _ _ rfl | (try dsimp only) <;> (repeat (first | exact up2_s | refine up2_o (by first | decide | omega) ?_)) <;> first | assumption | exact hK.2 _ _ _ rfl) ?_
        refine G_S (pc := 36) f_264_36 rfl rfl rfl ?_
        refine G_baN (pc := 38) f_264_38 (by first | assumption | exact hK.1 _ _ rfl) (by decide) (by omega) (by omega) (by first | assumption | exact q1 _ (by omega) | exact q2 _ (by omega) | exact q3 _ (by omega) | exact q4 _ (by omega) | exact q5 _ (by omega) | exact vh _ (by omega) | exact (vr _ (by omega)).1 | exact (vr _ (by omega)).2 | exact vw _ (by omega) | exact vf _ (by omega) (by omega) | rfl) ?_
        first | refine G_bEq (pc := 39) f_264_39 rfl (fun b4 => ?_) (fun b4 => ?_) | refine G_zeqZ (pc := 39) f_264_39 rfl (by first | exact nI_toInt (by omega) | exact zI_toInt (by omega) (by omega) | rfl) (fun b4 => ?_) (fun b4 => ?_)
        · refine G_ic (v := nI 0) (pc := 55) f_264_55 (by decide) ?_
          refine G_S (pc := 56) f_264_56 rfl rfl rfl ?_
          first | refine G_inc1 (pc := 57) f_264_57 rfl ?_ | refine G_S (pc := 57) f_264_57 rfl rfl rfl ?_
          refine G_S (pc := 60) f_264_60 rfl rfl rfl ?_
          have e := ih (by omega)
          first
            | (rw [b2i_1 (show canF (uB D) r (i + 1) = true by rw [canF, b3]; rfl)] at e; exact e)
            | (rw [b2i_0 (show ¬ canF (uB D) r (i + 1) = true by rw [canF, (Bool.not_eq_true _).mp b3, (Bool.not_eq_true _).mp b4]; simp)] at e; exact e)
            | (rw [b2i_0 (show ¬ canF (uB D) r (i + 1) = true by rw [canF, (Bool.not_eq_true _).mp b3, b4, b5]; simp)] at e; exact e)
            | (rw [b2i_1 (show canF (uB D) r (i + 1) = true by rw [canF, (Bool.not_eq_true _).mp b3, b4, (Bool.not_eq_true _).mp b5]; rfl)] at e; exact e)
        · refine G_S (pc := 42) f_264_42 rfl rfl rfl ?_
          refine G_S (pc := 44) f_264_44 rfl rfl rfl ?_
          refine G_CS (pc := 45) f_264_45 rfl rfl (by decide) rfl rfl ⟨Nat.le_of_ble_eq_true rfl, Nat.le_of_ble_eq_true rfl⟩ ?_
          refine CG.go (m_hasN (by omega) (by omega)) ?_
          first | refine G_bNe (pc := 48) f_264_48 rfl (fun b5 => ?_) (fun b5 => ?_) | refine G_zneZ (pc := 48) f_264_48 rfl (by first | exact nI_toInt (by omega) | exact zI_toInt (by omega) (by omega) | rfl) (fun b5 => ?_) (fun b5 => ?_)
          · refine G_ic (v := nI 0) (pc := 55) f_264_55 (by decide) ?_
            refine G_S (pc := 56) f_264_56 rfl rfl rfl ?_
            first | refine G_inc1 (pc := 57) f_264_57 rfl ?_ | refine G_S (pc := 57) f_264_57 rfl rfl rfl ?_
            refine G_S (pc := 60) f_264_60 rfl rfl rfl ?_
            have e := ih (by omega)
            first
              | (rw [b2i_1 (show canF (uB D) r (i + 1) = true by rw [canF, b3]; rfl)] at e; exact e)
              | (rw [b2i_0 (show ¬ canF (uB D) r (i + 1) = true by rw [canF, (Bool.not_eq_true _).mp b3, (Bool.not_eq_true _).mp b4]; simp)] at e; exact e)
              | (rw [b2i_0 (show ¬ canF (uB D) r (i + 1) = true by rw [canF, (Bool.not_eq_true _).mp b3, b4, b5]; simp)] at e; exact e)
              | (rw [b2i_1 (show canF (uB D) r (i + 1) = true by rw [canF, (Bool.not_eq_true _).mp b3, b4, (Bool.not_eq_true _).mp b5]; rfl)] at e; exact e)
          · refine G_ic (v := nI 1) (pc := 51) f_264_51 (by decide) ?_
            refine G_S (pc := 52) f_264_52 rfl rfl rfl ?_
            refine G_S (pc := 56) f_264_56 rfl rfl rfl ?_
            first | refine G_inc1 (pc := 57) f_264_57 rfl ?_ | refine G_S (pc := 57) f_264_57 rfl rfl rfl ?_
            refine G_S (pc := 60) f_264_60 rfl rfl rfl ?_
            have e := ih (by omega)
            first
              | (rw [b2i_1 (show canF (uB D) r (i + 1) = true by rw [canF, b3]; rfl)] at e; exact e)
              | (rw [b2i_0 (show ¬ canF (uB D) r (i + 1) = true by rw [canF, (Bool.not_eq_true _).mp b3, (Bool.not_eq_true _).mp b4]; simp)] at e; exact e)
              | (rw [b2i_0 (show ¬ canF (uB D) r (i + 1) = true by rw [canF, (Bool.not_eq_true _).mp b3, b4, b5]; simp)] at e; exact e)
              | (rw [b2i_1 (show canF (uB D) r (i + 1) = true by rw [canF, (Bool.not_eq_true _).mp b3, b4, (Bool.not_eq_true _).mp b5]; rfl)] at e; exact e)
  have loop : ∀ i, i ≤ D 2 → ∀ a b, G C 264 (4, [some (.ref 98), some (.int (nI ((ndF (uB D) (2 ^ D 2) i)))), some (.int (nI i)), a, b], [], [], M) (fun w M' => w = some (.int (nI (ndF (uB D) (2 ^ D 2) (D 2)))) ∧ M' = M) := by
    refine upto (fun i hi ih a b => ?_)
    refine G_S (pc := 4) f_264_4 rfl rfl rfl ?_
    refine G_S (pc := 5) f_264_5 rfl rfl rfl ?_
    refine G_gIv (pc := 6) f_264_6 (by decide) rfl (by decide) (by first | assumption | exact hK.1 _ _ rfl) (by first | assumption | (try dsimp only) <;> (repeat (first | exact up2_s | refine up2_o (by first | decide | omega) ?_)) <;> first | assumption | rfl) ?_
    refine G_jgeZ (pc := 9) f_264_9 rfl (by first | exact nI_toInt (by omega) | exact zI_toInt (by omega) (by omega) | rfl) (by first | exact nI_toInt (by omega) | exact zI_toInt (by omega) (by omega) | rfl) (fun b1 => ?_) (fun b1 => ?_)
    · refine G_S (pc := 83) f_264_83 rfl rfl rfl ?_
      refine G_ri (pc := 84) f_264_84 ?_
      rw [show i = D 2 by omega]
      exact ⟨rfl, rfl⟩
    · refine G_ic (v := nI 0) (pc := 12) f_264_12 (by decide) ?_
      refine G_S (pc := 13) f_264_13 rfl rfl rfl ?_
      refine G_ic (v := nI 0) (pc := 14) f_264_14 (by decide) ?_
      refine G_S (pc := 15) f_264_15 rfl rfl rfl ?_
      refine inner i _ (by omega) ?_ 0 (by omega)
      refine G_S (pc := 63) f_264_63 rfl rfl rfl ?_
      refine G_S (pc := 64) f_264_64 rfl rfl rfl ?_
      first | refine G_bEq (pc := 65) f_264_65 rfl (fun b6 => ?_) (fun b6 => ?_) | refine G_zeqZ (pc := 65) f_264_65 rfl (by first | exact nI_toInt (by omega) | exact zI_toInt (by omega) (by omega) | rfl) (fun b6 => ?_) (fun b6 => ?_)
      · refine G_ic (v := nI 1) (pc := 72) f_264_72 (by decide) ?_
        refine G_S (pc := 73) f_264_73 rfl rfl rfl ?_
        first | refine G_shl1 (pc := 74) f_264_74 (by omega) ?_ | refine G_S (pc := 74) f_264_74 rfl rfl rfl ?_
        first | refine G_orN (pc := 75) f_264_75 ?_ | refine G_S (pc := 75) f_264_75 rfl rfl rfl ?_
        refine G_S (pc := 76) f_264_76 rfl rfl rfl ?_
        first | refine G_inc1 (pc := 77) f_264_77 rfl ?_ | refine G_S (pc := 77) f_264_77 rfl rfl rfl ?_
        refine G_S (pc := 80) f_264_80 rfl rfl rfl ?_
        have e := ih (by omega)
        first
          | (replace e := e _ _; rw [ndF, if_pos b6] at e; exact e _ _)
          | (have e2 := e (some (.int (b2i (canF (uB D) i (2 ^ D 2) = true)))) (some (.int (nI (2 ^ D 2)))); rw [ndF, if_pos b6] at e2; exact e2)
          | (have e2 := e (some (.int (b2i (canF (uB D) i (2 ^ D 2) = true)))) (some (.int (nI (2 ^ D 2)))); rw [ndF, if_neg b6] at e2; exact e2)
      · refine G_ic (v := nI 0) (pc := 68) f_264_68 (by decide) ?_
        refine G_S (pc := 69) f_264_69 rfl rfl rfl ?_
        first | refine G_orN (pc := 75) f_264_75 ?_ | refine G_S (pc := 75) f_264_75 rfl rfl rfl ?_
        refine G_S (pc := 76) f_264_76 rfl rfl rfl ?_
        first | refine G_inc1 (pc := 77) f_264_77 rfl ?_ | refine G_S (pc := 77) f_264_77 rfl rfl rfl ?_
        refine G_S (pc := 80) f_264_80 rfl rfl rfl ?_
        have e := ih (by omega)
        first
          | (replace e := e _ _; rw [ndF, if_pos b6] at e; exact e _ _)
          | (have e2 := e (some (.int (b2i (canF (uB D) i (2 ^ D 2) = true)))) (some (.int (nI (2 ^ D 2)))); rw [ndF, if_pos b6] at e2; exact e2)
          | (have e2 := e (some (.int (b2i (canF (uB D) i (2 ^ D 2) = true)))) (some (.int (nI (2 ^ D 2)))); rw [ndF, if_neg b6] at e2; exact e2)
  refine CG_in (mL := 5) (hl := false) (lv := [some (.ref 98), none, none, none, none]) (ll := []) rfl rfl rfl ?_
  refine G_ic (v := nI 0) (pc := 0) f_264_0 (by decide) ?_
  refine G_S (pc := 1) f_264_1 rfl rfl rfl ?_
  refine G_ic (v := nI 0) (pc := 2) f_264_2 (by decide) ?_
  refine G_S (pc := 3) f_264_3 rfl rfl rfl ?_
  exact loop 0 (Nat.zero_le _) _ _
end MY
