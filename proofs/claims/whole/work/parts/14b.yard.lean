/-! the class: a yard -/
def uB (D : Nat → Nat) (S : Nat) : Bool := gB D S 0
def fewL (a b : Nat) : Bool := decide (pc8 a < pc8 b)
def ozN (D : Nat → Nat) (S : Nat) : Nat → Nat
  | 0 => 0
  | r + 1 => ozN D S r + (if S.testBit r then D (19 + r) else 0)
def ozS (D : Nat → Nat) (S : Nat) : Nat := ozN D S (D 2)
theorem ozN_le {D : Nat → Nat} (hD : DOK D) {S : Nat} : ∀ n, n ≤ 8 → ozN D S n ≤ n * 60
  | 0, _ => by simp [ozN]
  | n + 1, h => by
    have h1 := ozN_le hD (S := S) n (by omega)
    have h2 := hD.2.2.2.2.2.1 n (by omega)
    rw [ozN, Nat.succ_mul]
    split <;> omega
theorem ozS_le {D : Nat → Nat} (hD : DOK D) {S : Nat} : ozS D S ≤ 480 := by
  have h1 := ozN_le hD (S := S) (D 2) hD.2.2.1
  have h2 := hD.2.2.1
  unfold ozS
  omega
def lightL (D : Nat → Nat) (a b : Nat) : Bool := decide (ozS D a < ozS D b)
/-- the most trams of a set, by the sets below -/
def mxT (U : Nat → Bool) (t : Nat → Nat) (set : Nat) : Nat → Nat
  | 0 => 0
  | j + 1 => if (1 ≤ j ∧ j &&& set = j) ∧ U j = true then max (mxT U t set j) (1 + t (set ^^^ j)) else mxT U t set j
def tra (U : Nat → Bool) : Nat → Nat → Nat
  | 0 => fun _ => 0
  | n + 1 => fun s => if s = n then mxT U (tra U n) n (n + 1) else tra U n s
theorem mxT_le {U : Nat → Bool} {t : Nat → Nat} {set : Nat} (hs : set < 256) (ht : ∀ s, s < set → t s ≤ s) : ∀ j, j ≤ 256 → mxT U t set j ≤ set
  | 0, _ => Nat.zero_le _
  | j + 1, hj => by
    have ih := mxT_le (U := U) hs ht j (by omega)
    rw [mxT]
    split
    · rename_i h
      have h1 := xor_lt256 set hs j (by omega) h.1.1 h.1.2
      have h2 := ht _ h1
      omega
    · exact ih
theorem tra_le {U : Nat → Bool} : ∀ n, n ≤ 256 → ∀ s, tra U n s ≤ s
  | 0, _, s => Nat.zero_le _
  | n + 1, hn, s => by
    show (if s = n then mxT U (tra U n) n (n + 1) else tra U n s) ≤ s
    split
    · rename_i h
      subst h
      exact mxT_le (by omega) (fun q _ => tra_le s (by omega) q) (s + 1) (by omega)
    · exact tra_le n (by omega) s
def andF (U : Nat → Bool) (all : Nat) : Nat → Nat
  | 0 => all
  | S + 1 => if U S then andF U all S &&& S else andF U all S
def cntF (U : Nat → Bool) : Nat → Nat
  | 0 => 0
  | S + 1 => if U S then cntF U S + 1 else cntF U S
theorem cntF_le {U : Nat → Bool} : ∀ n, cntF U n ≤ n
  | 0 => Nat.le_refl _
  | n + 1 => by
    have := cntF_le (U := U) n
    rw [cntF]
    split <;> omega
/-- at which stop a seated set stalls -/
def stopB (D : Nat → Nat) (k S : Nat) : Bool := decide (pc8 S ≤ D 1) && decide ((cmF D S (D 0) 0 (layN D 0)).1 = k)
def wrP (D : Nat → Nat) (k : Nat) : Bool := decide (0 < cntF (stopB D k) (2 ^ D 2))
def wrL (D : Nat → Nat) (a b : Nat) : Bool := decide (cntF (stopB D b) (2 ^ D 2) < cntF (stopB D a) (2 ^ D 2))
def agP (D : Nat → Nat) (x S : Nat) : Bool := decide (pc8 S ≤ D 1) && decide (x ≤ plS D (layN D 0) S (D 2))
def difF (D : Nat → Nat) (S : Nat) : Nat := ((ozS D S : Int) - (ozS D ((2 ^ D 2 - 1) ^^^ S) : Int)).natAbs
def haP (D : Nat → Nat) (i : Nat) : Bool := uB D (2 * i + 1) && uB D ((2 ^ D 2 - 1) ^^^ (2 * i + 1))
def haL (D : Nat → Nat) (a b : Nat) : Bool := decide (difF D (2 * a + 1) < difF D (2 * b + 1))
def hI : Option Nat → Int32
  | none => zI (-1)
  | some c => nI (2 * c + 1)
theorem KM.up {T : List (Nat × Nat)} {R : Nat → Nat → Option Nat} {i k : Nat} {x : Option Nat} (h : KM T R) (hn : R0 i k = none) : KM T (up2 R i k x) := by
  refine ⟨h.1, fun a b c e => ?_⟩
  exact up2_o (fun q => by rw [q.1, q.2, hn] at e; cases e) (h.2 a b c e)
theorem Fc.upR {os : List Nat} {M : Mm} {i k : Nat} {x : Option Nat} (hi : i ∈ os) (hn : R0 i k = none) : Fc os M (M.1, M.2.1, M.2.2.1, up2 M.2.2.2 i k x) := by
  refine ⟨rfl, fun a b h => up2_o (fun q => ?_) rfl, fun _ _ => ⟨rfl, rfl⟩⟩
  rcases h with h | h
  · exact h (q.1 ▸ hi)
  · rw [q.1, q.2, hn] at h
    cases h
def YW (M : Mm) (h : Nat) (D : Nat → Nat) : Prop := LW M h D ∧ M.2.2.2 85 1 = some h ∧ M.2.1 85 2 = nI (2 ^ D 2 - 1) ∧ ∀ S, S < 2 ^ D 2 → M.2.1 86 S = b2i (uB D S = true)
theorem YW.fc {os : List Nat} {M M' : Mm} {h : Nat} {D : Nat → Nat} (W : YW M h D) (hF : Fc os M M') (hs : ∀ i, i ∈ os → 78 ≤ i ∧ i ≤ 97) (h1 : 85 ∉ os) (h2 : 86 ∉ os) : YW M' h D :=
  ⟨W.1.fc hF hs, (hF.2.1 85 1 (Or.inl h1)).trans W.2.1, by rw [(hF.2.2 85 h1).1]; exact W.2.2.1, by rw [(hF.2.2 86 h2).1]; exact W.2.2.2⟩
theorem odd_all : ∀ n, n < 9 → 2 ^ n - 1 = 0 ∨ 2 ^ n - 1 = 2 * ((2 ^ n - 1) / 2) + 1 := by decide +kernel
theorem xor_all : ∀ n, n < 9 → ∀ S, S < 2 ^ n → (2 ^ n - 1) ^^^ S < 2 ^ n ∧ (2 ^ n - 1) ^^^ S = (2 ^ n - 1) ^^^ ((2 ^ n - 1) &&& S) := by decide +kernel
section CY
variable {C : Ct} {M : Mm} {h S : Nat} {D : Nat → Nat}
theorem y_begin (W : LW M h D) : CG C 130 [.ref 85, .ref h] M (fun w M' => w = none ∧ Fc [82, 83, 85, 86] M M' ∧ YW M' h D) := by
  have hD' := W.2.2.1.1
  have loop : ∀ i, i ≤ 2 ^ D 2 → ∀ M1, LW M1 h D → Fc [82, 83, 85, 86] M M1 → M1.2.2.2 85 1 = some h → M1.2.1 85 2 = nI (2 ^ D 2 - 1) → (∀ S, S < i → M1.2.1 86 S = b2i (uB D S = true)) → G C 130 (19, [some (.ref 85), some (.ref h), some (.int (nI i))], [], [], M1) (fun w M' => w = none ∧ Fc [82, 83, 85, 86] M M' ∧ YW M' h D) := by
    refine upto (fun i hi ih M1 W1 hF e1 e2 e3 => ?_)
    have hK := W1.1
    obtain ⟨⟨t0, t1, t2, t3, t4, t5, t6⟩, r0, r3, r4, r6, r7, r8⟩ := W1.2.1
    obtain ⟨hD, ⟨v0, v1, v2⟩, vh, vr, vw, vf⟩ := W1.2.2.1
    have hs := W1.2.2.2.1
    have hh := W1.2.2.2.2
    have hn0 : _ ≤ 8 := hD.1
    have hn1 : _ ≤ 6 := hD.2.1.2
    have hn2 : _ ≤ 8 := hD.2.2.1
    have hp := pw_le _ (Nat.lt_succ_of_le hn2)
    have hp1 := Nat.two_pow_pos (D 2)
    refine G_S (pc := 19) f_130_19 rfl rfl rfl ?_
    refine G_S (pc := 20) f_130_20 rfl rfl rfl ?_
    refine G_gIv (pc := 21) f_130_21 (by decide) rfl (by decide) (by first | assumption | exact hK.1 _ _ rfl) (by first | assumption | (try dsimp only) <;> (repeat (first | exact up2_s | refine up2_o (by first | decide | omega) ?_)) <;> first | assumption | rfl) ?_
    refine G_jgtZ (pc := 24) f_130_24 rfl (by first | exact nI_toInt (by omega) | exact zI_toInt (by omega) (by omega) | rfl) (by first | exact nI_toInt (by omega) | exact zI_toInt (by omega) (by omega) | rfl) (fun b1 => ?_) (fun b1 => ?_)
    · refine G_rv (pc := 48) f_130_48 ?_
      exact ⟨rfl, hF, W1, e1, e2, fun S hS => e3 S (by omega)⟩
    · refine G_S (pc := 27) f_130_27 rfl rfl rfl ?_
      refine G_gR (pc := 28) f_130_28 (by decide) rfl (by first | assumption | exact hK.1 _ _ rfl) (by first | assumption | exact hK.2 _ _ _ rfl | (try dsimp only) <;> (repeat (first | exact up2_s | refine up2_o (by first | decide | omega) ?_)) <;> first | assumption | exact hK.2 _ _ _ rfl) ?_
      refine G_S (pc := 31) f_130_31 rfl rfl rfl ?_
      refine G_S (pc := 32) f_130_32 rfl rfl rfl ?_
      refine G_gR (pc := 33) f_130_33 (by decide) rfl (by first | assumption | exact hK.1 _ _ rfl) (by first | assumption | exact hK.2 _ _ _ rfl | (try dsimp only) <;> (repeat (first | exact up2_s | refine up2_o (by first | decide | omega) ?_)) <;> first | assumption | exact hK.2 _ _ _ rfl) ?_
      refine G_S (pc := 36) f_130_36 rfl rfl rfl ?_
      refine G_S (pc := 37) f_130_37 rfl rfl rfl ?_
      refine G_CV (pc := 38) f_130_38 rfl rfl (by decide) rfl rfl (by first | assumption | exact hK.1 _ _ rfl) (by decide) ⟨Nat.le_of_ble_eq_true rfl, Nat.le_of_ble_eq_true rfl⟩ ?_
      refine CG.mono (k_up W1 (by omega)) ?_
      rintro _ M2 ⟨rfl, hF2⟩
      have W2 := W1.fc hF2 o8283
      have hK := W2.1
      refine G_zsN (pc := 41) f_130_41 (by first | assumption | exact hK.1 _ _ rfl) (by omega) (by omega) (by first | exact Or.inl rfl | exact Or.inr rfl | exact b2i_01 _ | assumption) ?_
      first | refine G_inc1 (pc := 42) f_130_42 rfl ?_ | refine G_S (pc := 42) f_130_42 rfl rfl rfl ?_
      refine G_S (pc := 45) f_130_45 rfl rfl rfl ?_
      have hF3 : Fc [86] M2 _ := Fc.up (i := 86) (k := i) (x := b2i (uB D i = true)) (by decide)
      refine ih (by omega) _ (W2.fc hF3 (by decide)) ((hF.tr (hF2.sub (by decide))).tr (hF3.sub (by decide))) ?_ ?_ (fun S hS => ?_)
      · exact (hF2.2.1 85 1 (Or.inl (by decide))).trans e1
      · exact (by dsimp only; exact up2_o (by omega) (by rw [(hF2.2.2 85 (by decide)).1]; exact e2))
      · by_cases q : S = i
        · subst q
          exact (by dsimp only; exact up2_s)
        · exact (by dsimp only; exact up2_o (by omega) (by rw [(hF2.2.2 86 (by decide)).1]; exact e3 S (by omega)))
  refine CG_in (mL := 3) (hl := false) (lv := [some (.ref 85), some (.ref h), none]) (ll := []) rfl rfl rfl ?_
  have hK := W.1
  obtain ⟨⟨t0, t1, t2, t3, t4, t5, t6⟩, r0, r3, r4, r6, r7, r8⟩ := W.2.1
  obtain ⟨hD, ⟨v0, v1, v2⟩, vh, vr, vw, vf⟩ := W.2.2.1
  have hs := W.2.2.2.1
  have hh := W.2.2.2.2
  have hn0 : _ ≤ 8 := hD.1
  have hn1 : _ ≤ 6 := hD.2.1.2
  have hn2 : _ ≤ 8 := hD.2.2.1
  have hp1 := Nat.two_pow_pos (D 2)
  refine G_S (pc := 0) f_130_0 rfl rfl rfl ?_
  refine G_S (pc := 1) f_130_1 rfl rfl rfl ?_
  refine G_pR (pc := 2) f_130_2 rfl (by first | assumption | exact hK.1 _ _ rfl) (by omega) ?_
  refine G_S (pc := 5) f_130_5 rfl rfl rfl ?_
  refine G_ic (v := nI 1) (pc := 6) f_130_6 (by decide) ?_
  refine G_S (pc := 7) f_130_7 rfl rfl rfl ?_
  refine G_gIv (pc := 8) f_130_8 (by decide) rfl (by decide) (by first | assumption | exact hK.1 _ _ rfl) (by first | assumption | (try dsimp only) <;> (repeat (first | exact up2_s | refine up2_o (by first | decide | omega) ?_)) <;> first | assumption | rfl) ?_
  first | refine G_shl1 (pc := 11) f_130_11 (by omega) ?_ | refine G_S (pc := 11) f_130_11 rfl rfl rfl ?_
  refine G_ic (v := nI 1) (pc := 12) f_130_12 (by decide) ?_
  first | refine G_subN (pc := 13) f_130_13 (by omega) ?_ | refine G_subZ (pc := 13) f_130_13 (by first | rfl | exact nI_zI _) (by first | rfl | exact nI_zI _) ?_ | refine G_S (pc := 13) f_130_13 rfl rfl rfl ?_
  refine G_pI (pc := 14) f_130_14 rfl (by first | assumption | exact hK.1 _ _ rfl) ?_
  refine G_ic (v := nI 0) (pc := 17) f_130_17 (by decide) ?_
  refine G_S (pc := 18) f_130_18 rfl rfl rfl ?_
  have hF1 : Fc [85] M _ := (Fc.upR (i := 85) (k := 1) (x := some h) (by decide) (by decide)).tr (Fc.up (i := 85) (k := 2) (x := nI (2 ^ D 2 - 1)) (by decide))
  exact loop 0 (Nat.zero_le _) _ (W.fc hF1 (by decide)) (hF1.sub (by decide)) (by dsimp only; exact up2_s) (by dsimp only; exact up2_s) (fun S hS => absurd hS (by omega))
theorem c_fewer {o : Option Nat} (hS : S < 256) (ho : ∀ c, o = some c → c < 256) : CG C 132 [.int (nI S), .int (oI o)] M (fun w M' => w = some (.int (b2i (btr fewL S o = true))) ∧ M' = M) := by
  have h1 := pc8_le S hS
  cases o with
  | none =>
    refine CG_in (mL := 2) (hl := false) (lv := [some (.int (nI S)), some (.int (oI none))]) (ll := []) rfl rfl rfl ?_
    refine G_S (pc := 0) f_132_0 rfl rfl rfl ?_
    refine G_ic (v := zI (-1)) (pc := 1) f_132_1 (by decide) ?_
    refine G_jeqZ (pc := 2) f_132_2 rfl (by first | exact nI_toInt (by omega) | exact zI_toInt (by omega) (by omega) | rfl) (by first | exact nI_toInt (by omega) | exact zI_toInt (by omega) (by omega) | rfl) (fun b1 => ?_) (fun b1 => ?_)
    · refine G_ic (v := nI 1) (pc := 16) f_132_16 (by decide) ?_
      refine G_S (pc := 17) f_132_17 rfl rfl rfl ?_
      refine G_rz (pc := 21) f_132_21 (by first | exact Or.inl rfl | exact Or.inr rfl | exact b2i_01 _ | assumption) ?_
      exact ⟨rfl, rfl⟩
    · exact absurd rfl b1
  | some c =>
    have hc := ho c rfl
    have h2 := pc8_le c hc
    refine CG_in (mL := 2) (hl := false) (lv := [some (.int (nI S)), some (.int (nI c))]) (ll := []) rfl rfl rfl ?_
    refine G_S (pc := 0) f_132_0 rfl rfl rfl ?_
    refine G_ic (v := zI (-1)) (pc := 1) f_132_1 (by decide) ?_
    refine G_jeqZ (pc := 2) f_132_2 rfl (by first | exact nI_toInt (by omega) | exact zI_toInt (by omega) (by omega) | rfl) (by first | exact nI_toInt (by omega) | exact zI_toInt (by omega) (by omega) | rfl) (fun b1 => ?_) (fun b1 => ?_)
    · exfalso; omega
    · refine G_S (pc := 5) f_132_5 rfl rfl rfl ?_
      refine G_CS (pc := 6) f_132_6 rfl rfl (by decide) rfl rfl ⟨Nat.le_of_ble_eq_true rfl, Nat.le_of_ble_eq_true rfl⟩ ?_
      refine CG.go (j_bitCount hS) ?_
      refine G_S (pc := 9) f_132_9 rfl rfl rfl ?_
      refine G_CS (pc := 10) f_132_10 rfl rfl (by decide) rfl rfl ⟨Nat.le_of_ble_eq_true rfl, Nat.le_of_ble_eq_true rfl⟩ ?_
      refine CG.go (j_bitCount hc) ?_
      refine G_jgeZ (pc := 13) f_132_13 rfl (by first | exact nI_toInt (by omega) | exact zI_toInt (by omega) (by omega) | rfl) (by first | exact nI_toInt (by omega) | exact zI_toInt (by omega) (by omega) | rfl) (fun b2 => ?_) (fun b2 => ?_)
      · refine G_ic (v := nI 0) (pc := 20) f_132_20 (by decide) ?_
        refine G_rz (pc := 21) f_132_21 (by first | exact Or.inl rfl | exact Or.inr rfl | exact b2i_01 _ | assumption) ?_
        refine ⟨?_, rfl⟩
        congr 2
        first
          | exact (b2i_pos (decide_eq_true (by omega))).symm
          | exact (b2i_neg (fun q => absurd (of_decide_eq_true q) (by omega))).symm
      · refine G_ic (v := nI 1) (pc := 16) f_132_16 (by decide) ?_
        refine G_S (pc := 17) f_132_17 rfl rfl rfl ?_
        refine G_rz (pc := 21) f_132_21 (by first | exact Or.inl rfl | exact Or.inr rfl | exact b2i_01 _ | assumption) ?_
        refine ⟨?_, rfl⟩
        congr 2
        first
          | exact (b2i_pos (decide_eq_true (by omega))).symm
          | exact (b2i_neg (fun q => absurd (of_decide_eq_true q) (by omega))).symm
theorem c_ounces (W : LW M h D) (hS : S < 256) : CG C 62 [.ref h, .int (nI S)] M (fun w M' => w = some (.int (nI (ozS D S))) ∧ M' = M) := by
  have hK := W.1
  obtain ⟨⟨t0, t1, t2, t3, t4, t5, t6⟩, r0, r3, r4, r6, r7, r8⟩ := W.2.1
  obtain ⟨hD, ⟨v0, v1, v2⟩, vh, vr, vw, vf⟩ := W.2.2.1
  have hs := W.2.2.2.1
  have hh := W.2.2.2.2
  have hn0 : _ ≤ 8 := hD.1
  have hn1 : _ ≤ 6 := hD.2.1.2
  have hn2 : _ ≤ 8 := hD.2.2.1
  have loop : ∀ i, i ≤ D 2 → G C 62 (4, [some (.ref h), some (.int (nI S)), some (.int (nI (ozN D S i))), some (.int (nI i))], [], [], M) (fun w M' => w = some (.int (nI (ozS D S))) ∧ M' = M) := by
    refine upto (fun i hi ih => ?_)
    refine G_S (pc := 4) f_62_4 rfl rfl rfl ?_
    refine G_S (pc := 5) f_62_5 rfl rfl rfl ?_
    refine G_gIv (pc := 6) f_62_6 (by decide) rfl (by decide) (by first | assumption | exact hK.1 _ _ rfl) (by first | assumption | (try dsimp only) <;> (repeat (first | exact up2_s | refine up2_o (by first | decide | omega) ?_)) <;> first | assumption | rfl) ?_
    refine G_jgeZ (pc := 9) f_62_9 rfl (by first | exact nI_toInt (by omega) | exact zI_toInt (by omega) (by omega) | rfl) (by first | exact nI_toInt (by omega) | exact zI_toInt (by omega) (by omega) | rfl) (fun b1 => ?_) (fun b1 => ?_)
    · refine G_S (pc := 35) f_62_35 rfl rfl rfl ?_
      refine G_ri (pc := 36) f_62_36 ?_
      rw [show i = D 2 by omega]
      exact ⟨rfl, rfl⟩
    · refine G_S (pc := 12) f_62_12 rfl rfl rfl ?_
      refine G_S (pc := 13) f_62_13 rfl rfl rfl ?_
      refine G_CS (pc := 14) f_62_14 rfl rfl (by decide) rfl rfl ⟨Nat.le_of_ble_eq_true rfl, Nat.le_of_ble_eq_true rfl⟩ ?_
      refine CG.go (c_holds (by omega) (by omega)) ?_
      first | refine G_bEq (pc := 17) f_62_17 rfl (fun b2 => ?_) (fun b2 => ?_) | refine G_zeqZ (pc := 17) f_62_17 rfl (by first | exact nI_toInt (by omega) | exact zI_toInt (by omega) (by omega) | rfl) (fun b2 => ?_) (fun b2 => ?_)
      · first | refine G_inc1 (pc := 29) f_62_29 rfl ?_ | refine G_S (pc := 29) f_62_29 rfl rfl rfl ?_
        refine G_S (pc := 32) f_62_32 rfl rfl rfl ?_
        have e := ih (by omega)
        first
          | (rw [ozN, if_pos b2] at e; exact e)
          | (rw [ozN, if_neg b2, Nat.add_zero] at e; exact e)
      · refine G_S (pc := 20) f_62_20 rfl rfl rfl ?_
        refine G_S (pc := 21) f_62_21 rfl rfl rfl ?_
        refine G_gR (pc := 22) f_62_22 (by decide) rfl (by first | assumption | exact hK.1 _ _ rfl) (by first | assumption | exact hK.2 _ _ _ rfl | (try dsimp only) <;> (repeat (first | exact up2_s | refine up2_o (by first | decide | omega) ?_)) <;> first | assumption | exact hK.2 _ _ _ rfl) ?_
        refine G_S (pc := 25) f_62_25 rfl rfl rfl ?_
        refine G_iaN (pc := 26) f_62_26 (by first | assumption | exact hK.1 _ _ rfl) (by omega) (by omega) (by first | assumption | exact q1 _ (by omega) | exact q2 _ (by omega) | exact q3 _ (by omega) | exact q4 _ (by omega) | exact q5 _ (by omega) | exact vh _ (by omega) | exact (vr _ (by omega)).1 | exact (vr _ (by omega)).2 | exact vw _ (by omega) | exact vf _ (by omega) (by omega) | rfl) ?_
        first | refine G_addN (pc := 27) f_62_27 ?_ | refine G_addZ (pc := 27) f_62_27 (by first | rfl | exact nI_zI _) (by first | rfl | exact nI_zI _) ?_ | refine G_S (pc := 27) f_62_27 rfl rfl rfl ?_
        refine G_S (pc := 28) f_62_28 rfl rfl rfl ?_
        first | refine G_inc1 (pc := 29) f_62_29 rfl ?_ | refine G_S (pc := 29) f_62_29 rfl rfl rfl ?_
        refine G_S (pc := 32) f_62_32 rfl rfl rfl ?_
        have e := ih (by omega)
        first
          | (rw [ozN, if_pos b2] at e; exact e)
          | (rw [ozN, if_neg b2, Nat.add_zero] at e; exact e)
  refine CG_in (mL := 4) (hl := false) (lv := [some (.ref h), some (.int (nI S)), none, none]) (ll := []) rfl rfl rfl ?_
  refine G_ic (v := nI 0) (pc := 0) f_62_0 (by decide) ?_
  refine G_S (pc := 1) f_62_1 rfl rfl rfl ?_
  refine G_ic (v := nI 0) (pc := 2) f_62_2 (by decide) ?_
  refine G_S (pc := 3) f_62_3 rfl rfl rfl ?_
  exact loop 0 (Nat.zero_le _)
theorem y_fewest (W : YW M h D) : CG C 131 [.ref 85] M (fun w M' => w = some (.int (oI (bestF (uB D) fewL (2 ^ D 2)))) ∧ M' = M) := by
  have W_ := W.1
  have hK := W_.1
  obtain ⟨⟨t0, t1, t2, t3, t4, t5, t6⟩, r0, r3, r4, r6, r7, r8⟩ := W_.2.1
  obtain ⟨hD, ⟨v0, v1, v2⟩, vh, vr, vw, vf⟩ := W_.2.2.1
  have hs := W_.2.2.2.1
  have hh := W_.2.2.2.2
  have hn0 : _ ≤ 8 := hD.1
  have hn1 : _ ≤ 6 := hD.2.1.2
  have hn2 : _ ≤ 8 := hD.2.2.1
  obtain ⟨ry, va, q1⟩ := W.2
  have hp := pw_le _ (Nat.lt_succ_of_le hn2)
  have hp1 := Nat.two_pow_pos (D 2)
  have loop : ∀ i, i ≤ 2 ^ D 2 → G C 131 (4, [some (.ref 85), some (.int ((oI (bestF (uB D) fewL i)))), some (.int (nI i))], [], [], M) (fun w M' => w = some (.int (oI (bestF (uB D) fewL (2 ^ D 2)))) ∧ M' = M) := by
    refine upto (fun i hi ih => ?_)
    have q3 : ∀ c, bestF (uB D) fewL i = some c → c < i ∧ uB D c = true := fun c hc => bestF_lt hc
    refine G_S (pc := 4) f_131_4 rfl rfl rfl ?_
    refine G_S (pc := 5) f_131_5 rfl rfl rfl ?_
    refine G_gIv (pc := 6) f_131_6 (by decide) rfl (by decide) (by first | assumption | exact hK.1 _ _ rfl) (by first | assumption | (try dsimp only) <;> (repeat (first | exact up2_s | refine up2_o (by first | decide | omega) ?_)) <;> first | assumption | rfl) ?_
    refine G_jgtZ (pc := 9) f_131_9 rfl (by first | exact nI_toInt (by omega) | exact zI_toInt (by omega) (by omega) | rfl) (by first | exact nI_toInt (by omega) | exact zI_toInt (by omega) (by omega) | rfl) (fun b1 => ?_) (fun b1 => ?_)
    · refine G_S (pc := 37) f_131_37 rfl rfl rfl ?_
      refine G_ri (pc := 38) f_131_38 ?_
      rw [show i = 2 ^ D 2 by omega]
      exact ⟨rfl, rfl⟩
    · refine G_S (pc := 12) f_131_12 rfl rfl rfl ?_
      refine G_gR (pc := 13) f_131_13 (by decide) rfl (by first | assumption | exact hK.1 _ _ rfl) (by first | assumption | exact hK.2 _ _ _ rfl | (try dsimp only) <;> (repeat (first | exact up2_s | refine up2_o (by first | decide | omega) ?_)) <;> first | assumption | exact hK.2 _ _ _ rfl) ?_
      refine G_S (pc := 16) f_131_16 rfl rfl rfl ?_
      refine G_baN (pc := 17) f_131_17 (by first | assumption | exact hK.1 _ _ rfl) (by decide) (by omega) (by omega) (by first | assumption | exact q1 _ (by omega) | exact q2 _ (by omega) | exact q3 _ (by omega) | exact q4 _ (by omega) | exact q5 _ (by omega) | exact vh _ (by omega) | exact (vr _ (by omega)).1 | exact (vr _ (by omega)).2 | exact vw _ (by omega) | exact vf _ (by omega) (by omega) | rfl) ?_
      first | refine G_bEq (pc := 18) f_131_18 rfl (fun b2 => ?_) (fun b2 => ?_) | refine G_zeqZ (pc := 18) f_131_18 rfl (by first | exact nI_toInt (by omega) | exact zI_toInt (by omega) (by omega) | rfl) (fun b2 => ?_) (fun b2 => ?_)
      · first | refine G_inc1 (pc := 31) f_131_31 rfl ?_ | refine G_S (pc := 31) f_131_31 rfl rfl rfl ?_
        refine G_S (pc := 34) f_131_34 rfl rfl rfl ?_
        have e := ih (by omega)
        first
          | (rw [bestF_no b2] at e; exact e)
          | (rw [bestF_b b2 b3] at e; exact e)
          | (rw [bestF_k b3] at e; exact e)
      · refine G_S (pc := 21) f_131_21 rfl rfl rfl ?_
        refine G_S (pc := 22) f_131_22 rfl rfl rfl ?_
        refine G_CS (pc := 23) f_131_23 rfl rfl (by decide) rfl rfl ⟨Nat.le_of_ble_eq_true rfl, Nat.le_of_ble_eq_true rfl⟩ ?_
        refine CG.go (c_fewer (by omega) (fun c hc => by have := (q3 c hc).1; omega)) ?_
        first | refine G_bEq (pc := 26) f_131_26 rfl (fun b3 => ?_) (fun b3 => ?_) | refine G_zeqZ (pc := 26) f_131_26 rfl (by first | exact nI_toInt (by omega) | exact zI_toInt (by omega) (by omega) | rfl) (fun b3 => ?_) (fun b3 => ?_)
        · first | refine G_inc1 (pc := 31) f_131_31 rfl ?_ | refine G_S (pc := 31) f_131_31 rfl rfl rfl ?_
          refine G_S (pc := 34) f_131_34 rfl rfl rfl ?_
          have e := ih (by omega)
          first
            | (rw [bestF_no b2] at e; exact e)
            | (rw [bestF_b b2 b3] at e; exact e)
            | (rw [bestF_k b3] at e; exact e)
        · refine G_S (pc := 29) f_131_29 rfl rfl rfl ?_
          refine G_S (pc := 30) f_131_30 rfl rfl rfl ?_
          first | refine G_inc1 (pc := 31) f_131_31 rfl ?_ | refine G_S (pc := 31) f_131_31 rfl rfl rfl ?_
          refine G_S (pc := 34) f_131_34 rfl rfl rfl ?_
          have e := ih (by omega)
          first
            | (rw [bestF_no b2] at e; exact e)
            | (rw [bestF_b b2 b3] at e; exact e)
            | (rw [bestF_k b3] at e; exact e)
  refine CG_in (mL := 3) (hl := false) (lv := [some (.ref 85), none, none]) (ll := []) rfl rfl rfl ?_
  refine G_ic (v := zI (-1)) (pc := 0) f_131_0 (by decide) ?_
  refine G_S (pc := 1) f_131_1 rfl rfl rfl ?_
  refine G_ic (v := nI 0) (pc := 2) f_131_2 (by decide) ?_
  refine G_S (pc := 3) f_131_3 rfl rfl rfl ?_
  exact loop 0 (Nat.zero_le _)
theorem y_lightest (W : YW M h D) : CG C 133 [.ref 85] M (fun w M' => w = some (.int (oI (bestF (uB D) (lightL D) (2 ^ D 2)))) ∧ M' = M) := by
  have W_ := W.1
  have hK := W_.1
  obtain ⟨⟨t0, t1, t2, t3, t4, t5, t6⟩, r0, r3, r4, r6, r7, r8⟩ := W_.2.1
  obtain ⟨hD, ⟨v0, v1, v2⟩, vh, vr, vw, vf⟩ := W_.2.2.1
  have hs := W_.2.2.2.1
  have hh := W_.2.2.2.2
  have hn0 : _ ≤ 8 := hD.1
  have hn1 : _ ≤ 6 := hD.2.1.2
  have hn2 : _ ≤ 8 := hD.2.2.1
  obtain ⟨ry, va, q1⟩ := W.2
  have hp := pw_le _ (Nat.lt_succ_of_le hn2)
  have hp1 := Nat.two_pow_pos (D 2)
  have loop : ∀ i, i ≤ 2 ^ D 2 → G C 133 (4, [some (.ref 85), some (.int ((oI (bestF (uB D) (lightL D) i)))), some (.int (nI i))], [], [], M) (fun w M' => w = some (.int (oI (bestF (uB D) (lightL D) (2 ^ D 2)))) ∧ M' = M) := by
    refine upto (fun i hi ih => ?_)
    have q3 : ∀ c, bestF (uB D) (lightL D) i = some c → c < i ∧ uB D c = true := fun c hc => bestF_lt hc
    have q4 := ozS_le hD (S := i)
    refine G_S (pc := 4) f_133_4 rfl rfl rfl ?_
    refine G_S (pc := 5) f_133_5 rfl rfl rfl ?_
    refine G_gIv (pc := 6) f_133_6 (by decide) rfl (by decide) (by first | assumption | exact hK.1 _ _ rfl) (by first | assumption | (try dsimp only) <;> (repeat (first | exact up2_s | refine up2_o (by first | decide | omega) ?_)) <;> first | assumption | rfl) ?_
    refine G_jgtZ (pc := 9) f_133_9 rfl (by first | exact nI_toInt (by omega) | exact zI_toInt (by omega) (by omega) | rfl) (by first | exact nI_toInt (by omega) | exact zI_toInt (by omega) (by omega) | rfl) (fun b1 => ?_) (fun b1 => ?_)
    · refine G_S (pc := 53) f_133_53 rfl rfl rfl ?_
      refine G_ri (pc := 54) f_133_54 ?_
      rw [show i = 2 ^ D 2 by omega]
      exact ⟨rfl, rfl⟩
    · refine G_S (pc := 12) f_133_12 rfl rfl rfl ?_
      refine G_gR (pc := 13) f_133_13 (by decide) rfl (by first | assumption | exact hK.1 _ _ rfl) (by first | assumption | exact hK.2 _ _ _ rfl | (try dsimp only) <;> (repeat (first | exact up2_s | refine up2_o (by first | decide | omega) ?_)) <;> first | assumption | exact hK.2 _ _ _ rfl) ?_
      refine G_S (pc := 16) f_133_16 rfl rfl rfl ?_
      refine G_baN (pc := 17) f_133_17 (by first | assumption | exact hK.1 _ _ rfl) (by decide) (by omega) (by omega) (by first | assumption | exact q1 _ (by omega) | exact q2 _ (by omega) | exact q3 _ (by omega) | exact q4 _ (by omega) | exact q5 _ (by omega) | exact vh _ (by omega) | exact (vr _ (by omega)).1 | exact (vr _ (by omega)).2 | exact vw _ (by omega) | exact vf _ (by omega) (by omega) | rfl) ?_
      first | refine G_bEq (pc := 18) f_133_18 rfl (fun b2 => ?_) (fun b2 => ?_) | refine G_zeqZ (pc := 18) f_133_18 rfl (by first | exact nI_toInt (by omega) | exact zI_toInt (by omega) (by omega) | rfl) (fun b2 => ?_) (fun b2 => ?_)
      · first | refine G_inc1 (pc := 47) f_133_47 rfl ?_ | refine G_S (pc := 47) f_133_47 rfl rfl rfl ?_
        refine G_S (pc := 50) f_133_50 rfl rfl rfl ?_
        have e := ih (by omega)
        first
          | (rw [bestF_no b2] at e; exact e)
          | (rw [bestF_first b2 (oI_m1 (fun c hc => by have := (q3 c hc).1; omega) b3)] at e; exact e)
          | (rw [bestF_new b2 hc (decide_eq_true (by omega))] at e; exact e)
          | (rw [bestF_keep hc (fun q => absurd (of_decide_eq_true q) (by omega))] at e; exact e)
      · refine G_S (pc := 21) f_133_21 rfl rfl rfl ?_
        refine G_ic (v := zI (-1)) (pc := 22) f_133_22 (by decide) ?_
        refine G_jeqZ (pc := 23) f_133_23 rfl (by first | exact nI_toInt (by omega) | exact zI_toInt (by omega) (by omega) | rfl) (by first | exact nI_toInt (by omega) | exact zI_toInt (by omega) (by omega) | rfl) (fun b3 => ?_) (fun b3 => ?_)
        · refine G_S (pc := 45) f_133_45 rfl rfl rfl ?_
          refine G_S (pc := 46) f_133_46 rfl rfl rfl ?_
          first | refine G_inc1 (pc := 47) f_133_47 rfl ?_ | refine G_S (pc := 47) f_133_47 rfl rfl rfl ?_
          refine G_S (pc := 50) f_133_50 rfl rfl rfl ?_
          have e := ih (by omega)
          first
            | (rw [bestF_no b2] at e; exact e)
            | (rw [bestF_first b2 (oI_m1 (fun c hc => by have := (q3 c hc).1; omega) b3)] at e; exact e)
            | (rw [bestF_new b2 hc (decide_eq_true (by omega))] at e; exact e)
            | (rw [bestF_keep hc (fun q => absurd (of_decide_eq_true q) (by omega))] at e; exact e)
        · obtain ⟨c, hc⟩ := oI_nn b3
          have hc2 := (q3 c hc).1
          have q5 := ozS_le hD (S := c)
          rw [hc, oI_some]
          refine G_S (pc := 26) f_133_26 rfl rfl rfl ?_
          refine G_gR (pc := 27) f_133_27 (by decide) rfl (by first | assumption | exact hK.1 _ _ rfl) (by first | assumption | exact hK.2 _ _ _ rfl | (try dsimp only) <;> (repeat (first | exact up2_s | refine up2_o (by first | decide | omega) ?_)) <;> first | assumption | exact hK.2 _ _ _ rfl) ?_
          refine G_S (pc := 30) f_133_30 rfl rfl rfl ?_
          refine G_CV (pc := 31) f_133_31 rfl rfl (by decide) rfl rfl (by first | assumption | exact hK.1 _ _ rfl) (by decide) ⟨Nat.le_of_ble_eq_true rfl, Nat.le_of_ble_eq_true rfl⟩ ?_
          refine CG.go (c_ounces W_ (by omega)) ?_
          refine G_S (pc := 34) f_133_34 rfl rfl rfl ?_
          refine G_gR (pc := 35) f_133_35 (by decide) rfl (by first | assumption | exact hK.1 _ _ rfl) (by first | assumption | exact hK.2 _ _ _ rfl | (try dsimp only) <;> (repeat (first | exact up2_s | refine up2_o (by first | decide | omega) ?_)) <;> first | assumption | exact hK.2 _ _ _ rfl) ?_
          refine G_S (pc := 38) f_133_38 rfl rfl rfl ?_
          refine G_CV (pc := 39) f_133_39 rfl rfl (by decide) rfl rfl (by first | assumption | exact hK.1 _ _ rfl) (by decide) ⟨Nat.le_of_ble_eq_true rfl, Nat.le_of_ble_eq_true rfl⟩ ?_
          refine CG.go (c_ounces W_ (by omega)) ?_
          refine G_jgeZ (pc := 42) f_133_42 rfl (by first | exact nI_toInt (by omega) | exact zI_toInt (by omega) (by omega) | rfl) (by first | exact nI_toInt (by omega) | exact zI_toInt (by omega) (by omega) | rfl) (fun b4 => ?_) (fun b4 => ?_)
          · first | refine G_inc1 (pc := 47) f_133_47 rfl ?_ | refine G_S (pc := 47) f_133_47 rfl rfl rfl ?_
            refine G_S (pc := 50) f_133_50 rfl rfl rfl ?_
            have e := ih (by omega)
            first
              | (rw [bestF_no b2] at e; exact e)
              | (rw [bestF_first b2 (oI_m1 (fun c hc => by have := (q3 c hc).1; omega) b3)] at e; exact e)
              | (rw [bestF_new b2 hc (decide_eq_true (by omega))] at e; exact e)
              | (rw [bestF_keep hc (fun q => absurd (of_decide_eq_true q) (by omega))] at e; exact e)
          · refine G_S (pc := 45) f_133_45 rfl rfl rfl ?_
            refine G_S (pc := 46) f_133_46 rfl rfl rfl ?_
            first | refine G_inc1 (pc := 47) f_133_47 rfl ?_ | refine G_S (pc := 47) f_133_47 rfl rfl rfl ?_
            refine G_S (pc := 50) f_133_50 rfl rfl rfl ?_
            have e := ih (by omega)
            first
              | (rw [bestF_no b2] at e; exact e)
              | (rw [bestF_first b2 (oI_m1 (fun c hc => by have := (q3 c hc).1; omega) b3)] at e; exact e)
              | (rw [bestF_new b2 hc (decide_eq_true (by omega))] at e; exact e)
              | (rw [bestF_keep hc (fun q => absurd (of_decide_eq_true q) (by omega))] at e; exact e)
  refine CG_in (mL := 3) (hl := false) (lv := [some (.ref 85), none, none]) (ll := []) rfl rfl rfl ?_
  refine G_ic (v := zI (-1)) (pc := 0) f_133_0 (by decide) ?_
  refine G_S (pc := 1) f_133_1 rfl rfl rfl ?_
  refine G_ic (v := nI 0) (pc := 2) f_133_2 (by decide) ?_
  refine G_S (pc := 3) f_133_3 rfl rfl rfl ?_
  exact loop 0 (Nat.zero_le _)
def loI (D : Nat → Nat) : Option Nat → Int32
  | none => zI (-1)
  | some c => nI (ozS D c)
theorem y_lightOz (W : YW M h D) : CG C 134 [.ref 85] M (fun w M' => w = some (.int (loI D (bestF (uB D) (lightL D) (2 ^ D 2)))) ∧ M' = M) := by
  have W_ := W.1
  have hK := W_.1
  obtain ⟨⟨t0, t1, t2, t3, t4, t5, t6⟩, r0, r3, r4, r6, r7, r8⟩ := W_.2.1
  obtain ⟨hD, ⟨v0, v1, v2⟩, vh, vr, vw, vf⟩ := W_.2.2.1
  have hs := W_.2.2.2.1
  have hh := W_.2.2.2.2
  have hn0 : _ ≤ 8 := hD.1
  have hn1 : _ ≤ 6 := hD.2.1.2
  have hn2 : _ ≤ 8 := hD.2.2.1
  obtain ⟨ry, va, q1⟩ := W.2
  have hp := pw_le _ (Nat.lt_succ_of_le hn2)
  have hp1 := Nat.two_pow_pos (D 2)
  have q3 : ∀ c, bestF (uB D) (lightL D) (2 ^ D 2) = some c → c < 2 ^ D 2 ∧ uB D c = true := fun c hc => bestF_lt hc
  refine CG_in (mL := 2) (hl := false) (lv := [some (.ref 85), none]) (ll := []) rfl rfl rfl ?_
  refine G_S (pc := 0) f_134_0 rfl rfl rfl ?_
  refine G_CV (pc := 1) f_134_1 rfl rfl (by decide) rfl rfl (by first | assumption | exact hK.1 _ _ rfl) (by decide) ⟨Nat.le_of_ble_eq_true rfl, Nat.le_of_ble_eq_true rfl⟩ ?_
  refine CG.go (y_lightest W) ?_
  refine G_S (pc := 4) f_134_4 rfl rfl rfl ?_
  refine G_S (pc := 5) f_134_5 rfl rfl rfl ?_
  refine G_ic (v := zI (-1)) (pc := 6) f_134_6 (by decide) ?_
  refine G_jneZ (pc := 7) f_134_7 rfl (by first | exact nI_toInt (by omega) | exact zI_toInt (by omega) (by omega) | rfl) (by first | exact nI_toInt (by omega) | exact zI_toInt (by omega) (by omega) | rfl) (fun b1 => ?_) (fun b1 => ?_)
  · obtain ⟨c, hc⟩ := oI_nn b1
    have hc2 := (q3 c hc).1
    rw [hc, oI_some]
    refine G_S (pc := 14) f_134_14 rfl rfl rfl ?_
    refine G_gR (pc := 15) f_134_15 (by decide) rfl (by first | assumption | exact hK.1 _ _ rfl) (by first | assumption | exact hK.2 _ _ _ rfl | (try dsimp only) <;> (repeat (first | exact up2_s | refine up2_o (by first | decide | omega) ?_)) <;> first | assumption | exact hK.2 _ _ _ rfl) ?_
    refine G_S (pc := 18) f_134_18 rfl rfl rfl ?_
    refine G_CV (pc := 19) f_134_19 rfl rfl (by decide) rfl rfl (by first | assumption | exact hK.1 _ _ rfl) (by decide) ⟨Nat.le_of_ble_eq_true rfl, Nat.le_of_ble_eq_true rfl⟩ ?_
    refine CG.go (c_ounces W_ (by omega)) ?_
    refine G_ri (pc := 22) f_134_22 ?_
    first
      | exact ⟨rfl, rfl⟩
      | (rw [oI_m1 (fun c hc => by have := (q3 c hc).1; omega) b1]; exact ⟨rfl, rfl⟩)
  · refine G_ic (v := zI (-1)) (pc := 10) f_134_10 (by decide) ?_
    refine G_S (pc := 11) f_134_11 rfl rfl rfl ?_
    refine G_ri (pc := 22) f_134_22 ?_
    first
      | exact ⟨rfl, rfl⟩
      | (rw [oI_m1 (fun c hc => by have := (q3 c hc).1; omega) b1]; exact ⟨rfl, rfl⟩)
theorem y_trams (W : YW M h D) : CG C 135 [.ref 85] M (fun w M' => w = some (.int (nI (tra (uB D) (2 ^ D 2) (2 ^ D 2 - 1)))) ∧ Fc [87] M M') := by
  have inner : ∀ {Q} i, 1 ≤ i → i < 2 ^ D 2 → ∀ M1, YW M1 h D → (∀ s, s < i → M1.2.1 87 s = nI (tra (uB D) i s)) → G C 135 (63, [some (.ref 85), some (.int (nI i)), some (.int (nI ((mxT (uB D) (tra (uB D) i) i (i + 1))))), some (.int (nI (i + 1)))], [], [], M1) Q → ∀ j, j ≤ i + 1 → 1 ≤ j → G C 135 (21, [some (.ref 85), some (.int (nI i)), some (.int (nI ((mxT (uB D) (tra (uB D) i) i j)))), some (.int (nI j))], [], [], M1) Q := by
    intro Q i hi1 hi M1 W1 q2 K
    have W_ := W1.1
    have hK := W_.1
    obtain ⟨⟨t0, t1, t2, t3, t4, t5, t6⟩, r0, r3, r4, r6, r7, r8⟩ := W_.2.1
    obtain ⟨hD, ⟨v0, v1, v2⟩, vh, vr, vw, vf⟩ := W_.2.2.1
    have hs := W_.2.2.2.1
    have hh := W_.2.2.2.2
    have hn0 : _ ≤ 8 := hD.1
    have hn1 : _ ≤ 6 := hD.2.1.2
    have hn2 : _ ≤ 8 := hD.2.2.1
    obtain ⟨ry, va, q1⟩ := W1.2
    have hp := pw_le _ (Nat.lt_succ_of_le hn2)
    have hp1 := Nat.two_pow_pos (D 2)
    refine upto (fun j hj ih h1 => ?_)
    have hand : j &&& i ≤ j := Nat.and_le_left
    have hm := mxT_le (U := uB D) (t := tra (uB D) i) (set := i) (by omega) (fun s _ => tra_le i (by omega) s) j (by omega)
    refine G_S (pc := 21) f_135_21 rfl rfl rfl ?_
    refine G_S (pc := 22) f_135_22 rfl rfl rfl ?_
    refine G_jgtZ (pc := 23) f_135_23 rfl (by first | exact nI_toInt (by omega) | exact zI_toInt (by omega) (by omega) | rfl) (by first | exact nI_toInt (by omega) | exact zI_toInt (by omega) (by omega) | rfl) (fun b2 => ?_) (fun b2 => ?_)
    · rw [show j = i + 1 by omega]
      exact K
    · refine G_S (pc := 26) f_135_26 rfl rfl rfl ?_
      refine G_S (pc := 27) f_135_27 rfl rfl rfl ?_
      first | refine G_andN (pc := 28) f_135_28 ?_ | refine G_andnN (pc := 28) f_135_28 ?_ | refine G_S (pc := 28) f_135_28 rfl rfl rfl ?_
      refine G_S (pc := 29) f_135_29 rfl rfl rfl ?_
      refine G_jneZ (pc := 30) f_135_30 rfl (by first | exact nI_toInt (by omega) | exact zI_toInt (by omega) (by omega) | rfl) (by first | exact nI_toInt (by omega) | exact zI_toInt (by omega) (by omega) | rfl) (fun b3 => ?_) (fun b3 => ?_)
      · first | refine G_inc1 (pc := 57) f_135_57 rfl ?_ | refine G_S (pc := 57) f_135_57 rfl rfl rfl ?_
        refine G_S (pc := 60) f_135_60 rfl rfl rfl ?_
        have e := ih (by omega) (by omega)
        first
          | (rw [mxT, if_neg (fun q => absurd q.1.2 (by omega))] at e; exact e)
          | (rw [mxT, if_neg (fun q => b4 q.2)] at e; exact e)
          | (rw [mxT, if_pos ⟨⟨h1, by omega⟩, b4⟩] at e; exact e)
      · refine G_S (pc := 33) f_135_33 rfl rfl rfl ?_
        refine G_gR (pc := 34) f_135_34 (by decide) rfl (by first | assumption | exact hK.1 _ _ rfl) (by first | assumption | exact hK.2 _ _ _ rfl | (try dsimp only) <;> (repeat (first | exact up2_s | refine up2_o (by first | decide | omega) ?_)) <;> first | assumption | exact hK.2 _ _ _ rfl) ?_
        refine G_S (pc := 37) f_135_37 rfl rfl rfl ?_
        refine G_baN (pc := 38) f_135_38 (by first | assumption | exact hK.1 _ _ rfl) (by decide) (by omega) (by omega) (by first | assumption | exact q1 _ (by omega) | exact q2 _ (by omega) | exact q3 _ (by omega) | exact q4 _ (by omega) | exact q5 _ (by omega) | exact vh _ (by omega) | exact (vr _ (by omega)).1 | exact (vr _ (by omega)).2 | exact vw _ (by omega) | exact vf _ (by omega) (by omega) | rfl) ?_
        first | refine G_bEq (pc := 39) f_135_39 rfl (fun b4 => ?_) (fun b4 => ?_) | refine G_zeqZ (pc := 39) f_135_39 rfl (by first | exact nI_toInt (by omega) | exact zI_toInt (by omega) (by omega) | rfl) (fun b4 => ?_) (fun b4 => ?_)
        · first | refine G_inc1 (pc := 57) f_135_57 rfl ?_ | refine G_S (pc := 57) f_135_57 rfl rfl rfl ?_
          refine G_S (pc := 60) f_135_60 rfl rfl rfl ?_
          have e := ih (by omega) (by omega)
          first
            | (rw [mxT, if_neg (fun q => absurd q.1.2 (by omega))] at e; exact e)
            | (rw [mxT, if_neg (fun q => b4 q.2)] at e; exact e)
            | (rw [mxT, if_pos ⟨⟨h1, by omega⟩, b4⟩] at e; exact e)
        · have hx := xor_lt256 i (by omega) j (by omega) h1 (by omega)
          have ht := tra_le (U := uB D) i (by omega) (i ^^^ j)
          refine G_S (pc := 42) f_135_42 rfl rfl rfl ?_
          refine G_ic (v := nI 1) (pc := 43) f_135_43 (by decide) ?_
          refine G_S (pc := 44) f_135_44 rfl rfl rfl ?_
          refine G_gR (pc := 45) f_135_45 (by decide) rfl (by first | assumption | exact hK.1 _ _ rfl) (by first | assumption | exact hK.2 _ _ _ rfl | (try dsimp only) <;> (repeat (first | exact up2_s | refine up2_o (by first | decide | omega) ?_)) <;> first | assumption | exact hK.2 _ _ _ rfl) ?_
          refine G_S (pc := 48) f_135_48 rfl rfl rfl ?_
          refine G_S (pc := 49) f_135_49 rfl rfl rfl ?_
          first | refine G_xorN (pc := 50) f_135_50 ?_ | refine G_S (pc := 50) f_135_50 rfl rfl rfl ?_
          refine G_iaN (pc := 51) f_135_51 (by first | assumption | exact hK.1 _ _ rfl) (by omega) (by omega) (by first | assumption | exact q1 _ (by omega) | exact q2 _ (by omega) | exact q3 _ (by omega) | exact q4 _ (by omega) | exact q5 _ (by omega) | exact vh _ (by omega) | exact (vr _ (by omega)).1 | exact (vr _ (by omega)).2 | exact vw _ (by omega) | exact vf _ (by omega) (by omega) | rfl) ?_
          first | refine G_addN (pc := 52) f_135_52 ?_ | refine G_addZ (pc := 52) f_135_52 (by first | rfl | exact nI_zI _) (by first | rfl | exact nI_zI _) ?_ | refine G_S (pc := 52) f_135_52 rfl rfl rfl ?_
          first | refine G_maxN (pc := 53) f_135_53 rfl rfl (by omega) (by omega) ?_ | refine G_maxZ (pc := 53) f_135_53 rfl rfl (by first | exact nI_toInt (by omega) | exact zI_toInt (by omega) (by omega) | rfl) (by first | exact nI_toInt (by omega) | exact zI_toInt (by omega) (by omega) | rfl) ?_
          refine G_S (pc := 56) f_135_56 rfl rfl rfl ?_
          first | refine G_inc1 (pc := 57) f_135_57 rfl ?_ | refine G_S (pc := 57) f_135_57 rfl rfl rfl ?_
          refine G_S (pc := 60) f_135_60 rfl rfl rfl ?_
          have e := ih (by omega) (by omega)
          first
            | (rw [mxT, if_neg (fun q => absurd q.1.2 (by omega))] at e; exact e)
            | (rw [mxT, if_neg (fun q => b4 q.2)] at e; exact e)
            | (rw [mxT, if_pos ⟨⟨h1, by omega⟩, b4⟩] at e; exact e)
  have loop : ∀ i, i ≤ 2 ^ D 2 → 1 ≤ i → ∀ M1 a b, YW M1 h D → Fc [87] M M1 → (∀ s, s < i → M1.2.1 87 s = nI (tra (uB D) i s)) → G C 135 (9, [some (.ref 85), some (.int (nI i)), a, b], [], [], M1) (fun w M' => w = some (.int (nI (tra (uB D) (2 ^ D 2) (2 ^ D 2 - 1)))) ∧ Fc [87] M M') := by
    refine upto (fun i hi ih h1 M1 a b W1 hF q2 => ?_)
    have W_ := W1.1
    have hK := W_.1
    obtain ⟨⟨t0, t1, t2, t3, t4, t5, t6⟩, r0, r3, r4, r6, r7, r8⟩ := W_.2.1
    obtain ⟨hD, ⟨v0, v1, v2⟩, vh, vr, vw, vf⟩ := W_.2.2.1
    have hs := W_.2.2.2.1
    have hh := W_.2.2.2.2
    have hn0 : _ ≤ 8 := hD.1
    have hn1 : _ ≤ 6 := hD.2.1.2
    have hn2 : _ ≤ 8 := hD.2.2.1
    obtain ⟨ry, va, q1⟩ := W1.2
    have hp := pw_le _ (Nat.lt_succ_of_le hn2)
    have hp1 := Nat.two_pow_pos (D 2)
    refine G_S (pc := 9) f_135_9 rfl rfl rfl ?_
    refine G_S (pc := 10) f_135_10 rfl rfl rfl ?_
    refine G_gIv (pc := 11) f_135_11 (by decide) rfl (by decide) (by first | assumption | exact hK.1 _ _ rfl) (by first | assumption | (try dsimp only) <;> (repeat (first | exact up2_s | refine up2_o (by first | decide | omega) ?_)) <;> first | assumption | rfl) ?_
    refine G_jgtZ (pc := 14) f_135_14 rfl (by first | exact nI_toInt (by omega) | exact zI_toInt (by omega) (by omega) | rfl) (by first | exact nI_toInt (by omega) | exact zI_toInt (by omega) (by omega) | rfl) (fun b1 => ?_) (fun b1 => ?_)
    · refine G_S (pc := 76) f_135_76 rfl rfl rfl ?_
      refine G_gR (pc := 77) f_135_77 (by decide) rfl (by first | assumption | exact hK.1 _ _ rfl) (by first | assumption | exact hK.2 _ _ _ rfl | (try dsimp only) <;> (repeat (first | exact up2_s | refine up2_o (by first | decide | omega) ?_)) <;> first | assumption | exact hK.2 _ _ _ rfl) ?_
      refine G_S (pc := 80) f_135_80 rfl rfl rfl ?_
      refine G_gIv (pc := 81) f_135_81 (by decide) rfl (by decide) (by first | assumption | exact hK.1 _ _ rfl) (by first | assumption | (try dsimp only) <;> (repeat (first | exact up2_s | refine up2_o (by first | decide | omega) ?_)) <;> first | assumption | rfl) ?_
      refine G_iaN (pc := 84) f_135_84 (by first | assumption | exact hK.1 _ _ rfl) (by omega) (by omega) (by first | exact rfl | rfl) ?_
      refine G_ri (pc := 85) f_135_85 ?_
      rw [show i = 2 ^ D 2 by omega] at q2
      exact ⟨by rw [q2 _ (by omega)], hF⟩
    · refine G_ic (v := nI 0) (pc := 17) f_135_17 (by decide) ?_
      refine G_S (pc := 18) f_135_18 rfl rfl rfl ?_
      refine G_ic (v := nI 1) (pc := 19) f_135_19 (by decide) ?_
      refine G_S (pc := 20) f_135_20 rfl rfl rfl ?_
      refine inner i h1 (by omega) M1 W1 q2 ?_ 1 (by omega) (by omega)
      refine G_S (pc := 63) f_135_63 rfl rfl rfl ?_
      refine G_gR (pc := 64) f_135_64 (by decide) rfl (by first | assumption | exact hK.1 _ _ rfl) (by first | assumption | exact hK.2 _ _ _ rfl | (try dsimp only) <;> (repeat (first | exact up2_s | refine up2_o (by first | decide | omega) ?_)) <;> first | assumption | exact hK.2 _ _ _ rfl) ?_
      refine G_S (pc := 67) f_135_67 rfl rfl rfl ?_
      refine G_S (pc := 68) f_135_68 rfl rfl rfl ?_
      refine G_isN (pc := 69) f_135_69 (by first | assumption | exact hK.1 _ _ rfl) (by omega) (by omega) ?_
      first | refine G_inc1 (pc := 70) f_135_70 rfl ?_ | refine G_S (pc := 70) f_135_70 rfl rfl rfl ?_
      refine G_S (pc := 73) f_135_73 rfl rfl rfl ?_
      have hF3 : Fc [87] M1 _ := Fc.up (i := 87) (k := i) (x := nI (mxT (uB D) (tra (uB D) i) i (i + 1))) (by decide)
      refine ih (by omega) (by omega) _ _ _ (W1.fc hF3 (by decide) (by decide) (by decide)) (hF.tr hF3) (fun s hs => ?_)
      show _ = nI (if s = i then mxT (uB D) (tra (uB D) i) i (i + 1) else tra (uB D) i s)
      by_cases q : s = i
      · subst q
        rw [if_pos rfl]
        exact (by dsimp only; exact up2_s)
      · rw [if_neg q]
        exact (by dsimp only; exact up2_o (by omega) (q2 s (by omega)))
  have W_ := W.1
  have hK := W_.1
  obtain ⟨⟨t0, t1, t2, t3, t4, t5, t6⟩, r0, r3, r4, r6, r7, r8⟩ := W_.2.1
  obtain ⟨hD, ⟨v0, v1, v2⟩, vh, vr, vw, vf⟩ := W_.2.2.1
  have hs := W_.2.2.2.1
  have hh := W_.2.2.2.2
  have hn0 : _ ≤ 8 := hD.1
  have hn1 : _ ≤ 6 := hD.2.1.2
  have hn2 : _ ≤ 8 := hD.2.2.1
  obtain ⟨ry, va, q1⟩ := W.2
  have hp := pw_le _ (Nat.lt_succ_of_le hn2)
  have hp1 := Nat.two_pow_pos (D 2)
  refine CG_in (mL := 4) (hl := false) (lv := [some (.ref 85), none, none, none]) (ll := []) rfl rfl rfl ?_
  refine G_S (pc := 0) f_135_0 rfl rfl rfl ?_
  refine G_gR (pc := 1) f_135_1 (by decide) rfl (by first | assumption | exact hK.1 _ _ rfl) (by first | assumption | exact hK.2 _ _ _ rfl | (try dsimp only) <;> (repeat (first | exact up2_s | refine up2_o (by first | decide | omega) ?_)) <;> first | assumption | exact hK.2 _ _ _ rfl) ?_
  refine G_ic (v := nI 0) (pc := 4) f_135_4 (by decide) ?_
  refine G_ic (v := nI 0) (pc := 5) f_135_5 (by decide) ?_
  refine G_isN (pc := 6) f_135_6 (by first | assumption | exact hK.1 _ _ rfl) (by omega) (by omega) ?_
  refine G_ic (v := nI 1) (pc := 7) f_135_7 (by decide) ?_
  refine G_S (pc := 8) f_135_8 rfl rfl rfl ?_
  have hF3 : Fc [87] M _ := Fc.up (i := 87) (k := 0) (x := nI 0) (by decide)
  refine loop 1 (by omega) (by omega) _ _ _ (W.fc hF3 (by decide) (by decide) (by decide)) hF3 (fun s hs => ?_)
  rw [show s = 0 by omega]
  exact (by dsimp only; exact up2_s)
theorem y_needed (W : YW M h D) : CG C 136 [.ref 85] M (fun w M' => w = some (.int (nI (andF (uB D) (2 ^ D 2 - 1) (2 ^ D 2)))) ∧ M' = M) := by
  have W_ := W.1
  have hK := W_.1
  obtain ⟨⟨t0, t1, t2, t3, t4, t5, t6⟩, r0, r3, r4, r6, r7, r8⟩ := W_.2.1
  obtain ⟨hD, ⟨v0, v1, v2⟩, vh, vr, vw, vf⟩ := W_.2.2.1
  have hs := W_.2.2.2.1
  have hh := W_.2.2.2.2
  have hn0 : _ ≤ 8 := hD.1
  have hn1 : _ ≤ 6 := hD.2.1.2
  have hn2 : _ ≤ 8 := hD.2.2.1
  obtain ⟨ry, va, q1⟩ := W.2
  have hp := pw_le _ (Nat.lt_succ_of_le hn2)
  have hp1 := Nat.two_pow_pos (D 2)
  have loop : ∀ i, i ≤ 2 ^ D 2 → G C 136 (7, [some (.ref 85), some (.int (nI ((andF (uB D) (2 ^ D 2 - 1) i)))), some (.int (nI i))], [], [], M) (fun w M' => w = some (.int (nI (andF (uB D) (2 ^ D 2 - 1) (2 ^ D 2)))) ∧ M' = M) := by
    refine upto (fun i hi ih => ?_)
    refine G_S (pc := 7) f_136_7 rfl rfl rfl ?_
    refine G_S (pc := 8) f_136_8 rfl rfl rfl ?_
    refine G_gIv (pc := 9) f_136_9 (by decide) rfl (by decide) (by first | assumption | exact hK.1 _ _ rfl) (by first | assumption | (try dsimp only) <;> (repeat (first | exact up2_s | refine up2_o (by first | decide | omega) ?_)) <;> first | assumption | rfl) ?_
    refine G_jgtZ (pc := 12) f_136_12 rfl (by first | exact nI_toInt (by omega) | exact zI_toInt (by omega) (by omega) | rfl) (by first | exact nI_toInt (by omega) | exact zI_toInt (by omega) (by omega) | rfl) (fun b1 => ?_) (fun b1 => ?_)
    · refine G_S (pc := 34) f_136_34 rfl rfl rfl ?_
      refine G_ri (pc := 35) f_136_35 ?_
      rw [show i = 2 ^ D 2 by omega]
      exact ⟨rfl, rfl⟩
    · refine G_S (pc := 15) f_136_15 rfl rfl rfl ?_
      refine G_gR (pc := 16) f_136_16 (by decide) rfl (by first | assumption | exact hK.1 _ _ rfl) (by first | assumption | exact hK.2 _ _ _ rfl | (try dsimp only) <;> (repeat (first | exact up2_s | refine up2_o (by first | decide | omega) ?_)) <;> first | assumption | exact hK.2 _ _ _ rfl) ?_
      refine G_S (pc := 19) f_136_19 rfl rfl rfl ?_
      refine G_baN (pc := 20) f_136_20 (by first | assumption | exact hK.1 _ _ rfl) (by decide) (by omega) (by omega) (by first | assumption | exact q1 _ (by omega) | exact q2 _ (by omega) | exact q3 _ (by omega) | exact q4 _ (by omega) | exact q5 _ (by omega) | exact vh _ (by omega) | exact (vr _ (by omega)).1 | exact (vr _ (by omega)).2 | exact vw _ (by omega) | exact vf _ (by omega) (by omega) | rfl) ?_
      first | refine G_bEq (pc := 21) f_136_21 rfl (fun b2 => ?_) (fun b2 => ?_) | refine G_zeqZ (pc := 21) f_136_21 rfl (by first | exact nI_toInt (by omega) | exact zI_toInt (by omega) (by omega) | rfl) (fun b2 => ?_) (fun b2 => ?_)
      · first | refine G_inc1 (pc := 28) f_136_28 rfl ?_ | refine G_S (pc := 28) f_136_28 rfl rfl rfl ?_
        refine G_S (pc := 31) f_136_31 rfl rfl rfl ?_
        have e := ih (by omega)
        first
          | (rw [andF, if_pos b2] at e; exact e)
          | (rw [andF, if_neg b2] at e; exact e)
      · refine G_S (pc := 24) f_136_24 rfl rfl rfl ?_
        refine G_S (pc := 25) f_136_25 rfl rfl rfl ?_
        first | refine G_andN (pc := 26) f_136_26 ?_ | refine G_andnN (pc := 26) f_136_26 ?_ | refine G_S (pc := 26) f_136_26 rfl rfl rfl ?_
        refine G_S (pc := 27) f_136_27 rfl rfl rfl ?_
        first | refine G_inc1 (pc := 28) f_136_28 rfl ?_ | refine G_S (pc := 28) f_136_28 rfl rfl rfl ?_
        refine G_S (pc := 31) f_136_31 rfl rfl rfl ?_
        have e := ih (by omega)
        first
          | (rw [andF, if_pos b2] at e; exact e)
          | (rw [andF, if_neg b2] at e; exact e)
  refine CG_in (mL := 3) (hl := false) (lv := [some (.ref 85), none, none]) (ll := []) rfl rfl rfl ?_
  refine G_S (pc := 0) f_136_0 rfl rfl rfl ?_
  refine G_gIv (pc := 1) f_136_1 (by decide) rfl (by decide) (by first | assumption | exact hK.1 _ _ rfl) (by first | assumption | (try dsimp only) <;> (repeat (first | exact up2_s | refine up2_o (by first | decide | omega) ?_)) <;> first | assumption | rfl) ?_
  refine G_S (pc := 4) f_136_4 rfl rfl rfl ?_
  refine G_ic (v := nI 0) (pc := 5) f_136_5 (by decide) ?_
  refine G_S (pc := 6) f_136_6 rfl rfl rfl ?_
  exact loop 0 (Nat.zero_le _)
theorem y_many (W : YW M h D) : CG C 137 [.ref 85] M (fun w M' => w = some (.int (nI (cntF (uB D) (2 ^ D 2)))) ∧ M' = M) := by
  have W_ := W.1
  have hK := W_.1
  obtain ⟨⟨t0, t1, t2, t3, t4, t5, t6⟩, r0, r3, r4, r6, r7, r8⟩ := W_.2.1
  obtain ⟨hD, ⟨v0, v1, v2⟩, vh, vr, vw, vf⟩ := W_.2.2.1
  have hs := W_.2.2.2.1
  have hh := W_.2.2.2.2
  have hn0 : _ ≤ 8 := hD.1
  have hn1 : _ ≤ 6 := hD.2.1.2
  have hn2 : _ ≤ 8 := hD.2.2.1
  obtain ⟨ry, va, q1⟩ := W.2
  have hp := pw_le _ (Nat.lt_succ_of_le hn2)
  have hp1 := Nat.two_pow_pos (D 2)
  have loop : ∀ i, i ≤ 2 ^ D 2 → G C 137 (4, [some (.ref 85), some (.int (nI ((cntF (uB D) i)))), some (.int (nI i))], [], [], M) (fun w M' => w = some (.int (nI (cntF (uB D) (2 ^ D 2)))) ∧ M' = M) := by
    refine upto (fun i hi ih => ?_)
    refine G_S (pc := 4) f_137_4 rfl rfl rfl ?_
    refine G_S (pc := 5) f_137_5 rfl rfl rfl ?_
    refine G_gIv (pc := 6) f_137_6 (by decide) rfl (by decide) (by first | assumption | exact hK.1 _ _ rfl) (by first | assumption | (try dsimp only) <;> (repeat (first | exact up2_s | refine up2_o (by first | decide | omega) ?_)) <;> first | assumption | rfl) ?_
    refine G_jgtZ (pc := 9) f_137_9 rfl (by first | exact nI_toInt (by omega) | exact zI_toInt (by omega) (by omega) | rfl) (by first | exact nI_toInt (by omega) | exact zI_toInt (by omega) (by omega) | rfl) (fun b1 => ?_) (fun b1 => ?_)
    · refine G_S (pc := 30) f_137_30 rfl rfl rfl ?_
      refine G_ri (pc := 31) f_137_31 ?_
      rw [show i = 2 ^ D 2 by omega]
      exact ⟨rfl, rfl⟩
    · refine G_S (pc := 12) f_137_12 rfl rfl rfl ?_
      refine G_gR (pc := 13) f_137_13 (by decide) rfl (by first | assumption | exact hK.1 _ _ rfl) (by first | assumption | exact hK.2 _ _ _ rfl | (try dsimp only) <;> (repeat (first | exact up2_s | refine up2_o (by first | decide | omega) ?_)) <;> first | assumption | exact hK.2 _ _ _ rfl) ?_
      refine G_S (pc := 16) f_137_16 rfl rfl rfl ?_
      refine G_baN (pc := 17) f_137_17 (by first | assumption | exact hK.1 _ _ rfl) (by decide) (by omega) (by omega) (by first | assumption | exact q1 _ (by omega) | exact q2 _ (by omega) | exact q3 _ (by omega) | exact q4 _ (by omega) | exact q5 _ (by omega) | exact vh _ (by omega) | exact (vr _ (by omega)).1 | exact (vr _ (by omega)).2 | exact vw _ (by omega) | exact vf _ (by omega) (by omega) | rfl) ?_
      first | refine G_bEq (pc := 18) f_137_18 rfl (fun b2 => ?_) (fun b2 => ?_) | refine G_zeqZ (pc := 18) f_137_18 rfl (by first | exact nI_toInt (by omega) | exact zI_toInt (by omega) (by omega) | rfl) (fun b2 => ?_) (fun b2 => ?_)
      · first | refine G_inc1 (pc := 24) f_137_24 rfl ?_ | refine G_S (pc := 24) f_137_24 rfl rfl rfl ?_
        refine G_S (pc := 27) f_137_27 rfl rfl rfl ?_
        have e := ih (by omega)
        first
          | (rw [cntF, if_pos b2] at e; exact e)
          | (rw [cntF, if_neg b2] at e; exact e)
      · first | refine G_inc1 (pc := 21) f_137_21 rfl ?_ | refine G_S (pc := 21) f_137_21 rfl rfl rfl ?_
        first | refine G_inc1 (pc := 24) f_137_24 rfl ?_ | refine G_S (pc := 24) f_137_24 rfl rfl rfl ?_
        refine G_S (pc := 27) f_137_27 rfl rfl rfl ?_
        have e := ih (by omega)
        first
          | (rw [cntF, if_pos b2] at e; exact e)
          | (rw [cntF, if_neg b2] at e; exact e)
  refine CG_in (mL := 3) (hl := false) (lv := [some (.ref 85), none, none]) (ll := []) rfl rfl rfl ?_
  refine G_ic (v := nI 0) (pc := 0) f_137_0 (by decide) ?_
  refine G_S (pc := 1) f_137_1 rfl rfl rfl ?_
  refine G_ic (v := nI 0) (pc := 2) f_137_2 (by decide) ?_
  refine G_S (pc := 3) f_137_3 rfl rfl rfl ?_
  exact loop 0 (Nat.zero_le _)
end CY
