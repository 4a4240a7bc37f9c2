theorem nI_z0 : nI 0 = zI 0 := nI_zI 0
theorem b2i_congr {c d : Prop} {hc : Decidable c} {hd : Decidable d} (h : c ↔ d) : @b2i c hc = @b2i d hd := by
  by_cases q : c
  · rw [b2i_pos q, b2i_pos (h.mp q)]
  · rw [b2i_neg q, b2i_neg (fun z => q (h.mpr z))]
/-! what is told of lines, on both sides -/
def CLs (M : Mm) (n : Nat) (L : Nat → Nat → Nat) : Prop := KM M.1 M.2.2.2 ∧ M.2.1 3 0 = nI n ∧ n ≤ 2 ∧ ∀ l, l < n → LW M (8 + 22 * l) (L l)
def MLs (M : Mm) (n : Nat) (L : Nat → Nat → Nat) : Prop := KM M.1 M.2.2.2 ∧ M.2.1 103 0 = nI n ∧ n ≤ 2 ∧ ∀ l, l < n → RowD M l (L l)
def lin (n : Nat) (L : Nat → Nat → Nat) (k : Int32) : Option (Nat → Nat) := if 0 ≤ k.toInt ∧ k.toInt < n then some (L k.toInt.toNat) else none
theorem lin_some {n : Nat} {L : Nat → Nat → Nat} {k : Int32} {D : Nat → Nat} (h : lin n L k = some D) : ∃ l, l < n ∧ k = nI l ∧ D = L l := by
  unfold lin at h
  split at h
  · rename_i hk
    cases h
    refine ⟨k.toInt.toNat, by omega, ?_, rfl⟩
    rw [nI_zI, Int.toNat_of_nonneg hk.1, ← zI_of]
  · cases h
theorem lin_none {n : Nat} {L : Nat → Nat → Nat} {k : Int32} (h : lin n L k = none) : ¬ (0 ≤ k.toInt ∧ k.toInt < n) := by
  unfold lin at h
  split at h
  · cases h
  · assumption
/-- a set that is there, and has seats -/
def isS (D : Nat → Nat) (x : Int32) : Option Nat := if 0 ≤ x.toInt ∧ x.toInt < ((2 ^ D 2 : Nat) : Int) then some x.toInt.toNat else none
def sea (D : Nat → Nat) (x : Int32) : Option Nat := match isS D x with
  | none => none
  | some S => if pc8 S ≤ D 1 then some S else none
theorem isS_some {D : Nat → Nat} {x : Int32} {S : Nat} (h : isS D x = some S) : S < 2 ^ D 2 ∧ x = nI S := by
  unfold isS at h
  split at h
  · rename_i hk
    cases h
    refine ⟨by omega, ?_⟩
    rw [nI_zI, Int.toNat_of_nonneg hk.1, ← zI_of]
  · cases h
theorem isS_none {D : Nat → Nat} {x : Int32} (h : isS D x = none) : ¬ (0 ≤ x.toInt ∧ x.toInt < ((2 ^ D 2 : Nat) : Int)) := by
  unfold isS at h
  split at h
  · cases h
  · assumption
theorem sea_some {D : Nat → Nat} {x : Int32} {S : Nat} (h : sea D x = some S) : S < 2 ^ D 2 ∧ x = nI S ∧ pc8 S ≤ D 1 := by
  unfold sea at h
  split at h
  · cases h
  · rename_i q hq
    split at h
    · rename_i hp
      cases h
      exact ⟨(isS_some hq).1, (isS_some hq).2, hp⟩
    · cases h
theorem sea_none {D : Nat → Nat} {x : Int32} (h : sea D x = none) : isS D x = none ∨ ∃ S, isS D x = some S ∧ ¬ pc8 S ≤ D 1 := by
  unfold sea at h
  split at h
  · rename_i hq
    exact Or.inl hq
  · rename_i q hq
    split at h
    · cases h
    · rename_i hp
      exact Or.inr ⟨q, hq, hp⟩
def aLin (o : Option (Nat → Nat)) (d : Int32) (f : (Nat → Nat) → Int32) : Int32 := match o with
  | none => d
  | some D => f D
/-- the reference's calls that only ask -/
def mQ (M M' : Mm) : Prop := (M'.1 = M.1 ∧ M'.2.2.2 = M.2.2.2) ∧ ∀ i, ¬ (i = 98 ∨ (108 ≤ i ∧ i ≤ 129)) → M'.2.1 i = M.2.1 i ∧ M'.2.2.1 i = M.2.2.1 i
theorem mQ.rf {M : Mm} : mQ M M := ⟨⟨rfl, rfl⟩, fun _ _ => ⟨rfl, rfl⟩⟩
theorem mQ.tr {M M1 M2 : Mm} (h1 : mQ M M1) (h2 : mQ M1 M2) : mQ M M2 := ⟨⟨h2.1.1.trans h1.1.1, h2.1.2.trans h1.1.2⟩, fun i hi => ⟨(h2.2 i hi).1.trans (h1.2 i hi).1, (h2.2 i hi).2.trans (h1.2 i hi).2⟩⟩
theorem Fo.q {os : List Nat} {M M' : Mm} (h : Fo os M M') (ho : ∀ i, i ∈ os → i = 98 ∨ (108 ≤ i ∧ i ≤ 129)) : mQ M M' := ⟨h.1, fun i hi => h.2 i (fun q => hi (ho i q))⟩
theorem Fm.q {os fs : List Nat} {M M' : Mm} (h : Fm os fs M M') (ho : ∀ i, i ∈ os → i = 98 ∨ (108 ≤ i ∧ i ≤ 129)) : mQ M M' := ⟨h.1, fun i hi => h.2.1 i (fun q => hi (Or.inl q)) (fun q => hi (ho i q))⟩
theorem mQ.cod {M : Mm} {k : Nat} {x : Int32} : mQ M (M.1, up2 M.2.1 98 k x, M.2.2.1, M.2.2.2) := (Fo.up (os := [98]) (by decide)).q (by decide)
theorem mQ.K {M M' : Mm} (h : mQ M M') (hK : KM M.1 M.2.2.2) : KM M'.1 M'.2.2.2 := by
  rw [h.1.1, h.1.2]
  exact hK
theorem MLs.q {M M' : Mm} {n : Nat} {L : Nat → Nat → Nat} (W : MLs M n L) (h : mQ M M') : MLs M' n L := by
  refine ⟨h.K W.1, by rw [(h.2 103 (by decide)).1]; exact W.2.1, W.2.2.1, fun l hl => ?_⟩
  have := W.2.2.2 l hl
  unfold RowD at this ⊢
  rw [(h.2 104 (by decide)).1]
  exact this
theorem CLs.fc {M M' : Mm} {n : Nat} {L : Nat → Nat → Nat} {os : List Nat} (W : CLs M n L) (hF : Fc os M M') (hs : ∀ i, i ∈ os → 78 ≤ i ∧ i ≤ 97) : CLs M' n L :=
  ⟨hF.K W.1, by rw [(hF.2.2 3 (fun q => by have := hs _ q; omega)).1]; exact W.2.1, W.2.2.1, fun l hl => (W.2.2.2 l hl).fc hF hs⟩
section WL
variable {C : Ct} {M : Mm} {n h : Nat} {L : Nat → Nat → Nat} {k x : Int32} {D : Nat → Nat} {S : Nat}
theorem c_lineAtS (W : CLs M n L) (hl : lin n L k = some D) : CG C 178 [.ref 0, .int k] M (fun w M' => (∃ h, w = some (.ref h) ∧ LW M h D) ∧ M' = M) := by
  obtain ⟨l, h1, rfl, rfl⟩ := lin_some hl
  refine CG.mono (c_lineAt1 W.1 W.2.1 W.2.2.1 h1) ?_
  rintro w M' ⟨rfl, rfl⟩
  exact ⟨⟨_, rfl, W.2.2.2 l h1⟩, rfl⟩
theorem c_lineAtN (W : CLs M n L) (hl : lin n L k = none) : CG C 178 [.ref 0, .int k] M (fun w M' => w = some .null ∧ M' = M) := by
  have hn := W.2.2.1
  refine c_lineAt0 W.1 W.2.1 (fun q => lin_none hl ?_)
  have q1 := Int32.le_iff_toInt_le.mp q.1
  have q2 := Int32.lt_iff_toInt_lt.mp q.2
  rw [nI_toInt (by omega)] at q2
  rw [Int32.toInt_zero] at q1
  exact ⟨q1, q2⟩
/-- Line.has(set) -/
theorem c_hasN (W : LW M h D) : CG C 58 [.ref h, .int x] M (fun w M' => w = some (.int (b2i ((isS D x).isSome = true))) ∧ M' = M) := by
  refine CG.mono (c_has W.2.1 W.2.2.1) ?_
  rintro w M' ⟨rfl, rfl⟩
  refine ⟨?_, rfl⟩
  have hD := W.2.2.1.1
  have hp := pw_le (D 2) (by have := hD.2.2.1; omega)
  congr 2
  refine b2i_congr ?_
  unfold isS
  rw [Int32.lt_iff_toInt_lt, Int32.lt_iff_toInt_lt, nI_toInt (by omega), Int32.toInt_zero]
  constructor
  · intro q
    rw [if_pos ⟨by omega, q.2⟩]
    rfl
  · intro q
    split at q
    · omega
    · cases q
theorem c_seatsAllN (W : LW M h D) : CG C 59 [.ref h, .int x] M (fun w M' => w = some (.int (b2i ((sea D x).isSome = true))) ∧ M' = M) := by
  cases hx : isS D x with
  | none =>
    refine CG_in (mL := 2) (hl := false) (lv := [some (.ref h), some (.int x)]) (ll := []) rfl rfl rfl ?_
    have hK := W.1
    obtain ⟨⟨t0, t1, t2, t3, t4, t5, t6⟩, r0, r3, r4, r6, r7, r8⟩ := W.2.1
    obtain ⟨hD, ⟨v0, v1, v2⟩, vh, vr, vw, vf⟩ := W.2.2.1
    have hs := W.2.2.2.1
    have hh := W.2.2.2.2
    have hn0 : _ ≤ 8 := hD.1
    have hn1 : _ ≤ 6 := hD.2.1.2
    have hn2 : _ ≤ 8 := hD.2.2.1
    have e : sea D x = none := by
      unfold sea
      rw [hx]
    refine G_S (pc := 0) f_59_0 rfl rfl rfl ?_
    refine G_S (pc := 1) f_59_1 rfl rfl rfl ?_
    refine G_CV (pc := 2) f_59_2 rfl rfl (by decide) rfl rfl (by first | assumption | exact hK.1 _ _ rfl) (by decide) ⟨Nat.le_of_ble_eq_true rfl, Nat.le_of_ble_eq_true rfl⟩ ?_
    refine CG.go (c_hasN W) ?_
    first | refine G_bEq (pc := 5) f_59_5 rfl (fun b1 => ?_) (fun b1 => ?_) | refine G_zeqZ (pc := 5) f_59_5 rfl (by first | exact nI_toInt (by omega) | exact zI_toInt (by omega) (by omega) | rfl) (fun b1 => ?_) (fun b1 => ?_)
    · refine G_ic (v := nI 0) (pc := 23) f_59_23 (by decide) ?_
      refine G_rz (pc := 24) f_59_24 (by first | exact Or.inl rfl | exact Or.inr rfl | exact b2i_01 _ | assumption) ?_
      rw [e]
      exact ⟨rfl, rfl⟩
    · rw [hx] at b1
      cases b1
  | some S =>
    obtain ⟨h1, rfl⟩ := isS_some hx
    refine CG.mono (c_seatsAll1 W.2.1 W.2.2.1 h1) ?_
    rintro w M' ⟨rfl, rfl⟩
    refine ⟨?_, rfl⟩
    congr 2
    refine b2i_congr ?_
    unfold sea
    rw [hx]
    dsimp only
    split
    · simp_all
    · simp_all
theorem c_lineForS (W : CLs M n L) (hl : lin n L k = some D) (hx : sea D x = some S) : CG C 179 [.ref 0, .int k, .int x] M (fun w M' => (∃ h, w = some (.ref h) ∧ LW M h D) ∧ M' = M) := by
  refine CG_in (mL := 4) (hl := false) (lv := [some (.ref 0), some (.int k), some (.int x), none]) (ll := []) rfl rfl rfl ?_
  have hK := W.1
  refine G_S (pc := 0) f_179_0 rfl rfl rfl ?_
  refine G_S (pc := 1) f_179_1 rfl rfl rfl ?_
  refine G_CV (pc := 2) f_179_2 rfl rfl (by decide) rfl rfl (by first | assumption | exact hK.1 _ _ rfl) (by decide) ⟨Nat.le_of_ble_eq_true rfl, Nat.le_of_ble_eq_true rfl⟩ ?_
  refine CG.mono (c_lineAtS W hl) ?_
  rintro _ M1 ⟨⟨h, rfl, W1⟩, rfl⟩
  have hK := W1.1
  obtain ⟨⟨t0, t1, t2, t3, t4, t5, t6⟩, r0, r3, r4, r6, r7, r8⟩ := W1.2.1
  obtain ⟨hD, ⟨v0, v1, v2⟩, vh, vr, vw, vf⟩ := W1.2.2.1
  have hs := W1.2.2.2.1
  have hh := W1.2.2.2.2
  have hn0 : _ ≤ 8 := hD.1
  have hn1 : _ ≤ 6 := hD.2.1.2
  have hn2 : _ ≤ 8 := hD.2.2.1
  refine G_S (pc := 5) f_179_5 rfl rfl rfl ?_
  refine G_S (pc := 6) f_179_6 rfl rfl rfl ?_
  refine G_S (pc := 7) f_179_7 rfl rfl (if_pos (by first | assumption | omega)) ?_
  refine G_S (pc := 10) f_179_10 rfl rfl rfl ?_
  refine G_S (pc := 11) f_179_11 rfl rfl rfl ?_
  refine G_CV (pc := 12) f_179_12 rfl rfl (by decide) rfl rfl (by first | assumption | exact hK.1 _ _ rfl) (by decide) ⟨Nat.le_of_ble_eq_true rfl, Nat.le_of_ble_eq_true rfl⟩ ?_
  refine CG.go (c_seatsAllN W1) ?_
  first | refine G_bEq (pc := 15) f_179_15 rfl (fun b2 => ?_) (fun b2 => ?_) | refine G_zeqZ (pc := 15) f_179_15 rfl (by first | exact nI_toInt (by omega) | exact zI_toInt (by omega) (by omega) | rfl) (fun b2 => ?_) (fun b2 => ?_)
  · rw [hx] at b2
    exact absurd rfl b2
  · refine G_S (pc := 18) f_179_18 rfl rfl rfl ?_
    refine G_S (pc := 19) f_179_19 rfl rfl rfl ?_
    first | refine G_ra (pc := 23) f_179_23 ?_ | refine G_rnl (pc := 23) f_179_23 ?_
    exact ⟨⟨h, rfl, W1⟩, rfl⟩
theorem c_lineForN (W : CLs M n L) (hl : lin n L k = some D) (hx : sea D x = none) : CG C 179 [.ref 0, .int k, .int x] M (fun w M' => w = some .null ∧ M' = M) := by
  refine CG_in (mL := 4) (hl := false) (lv := [some (.ref 0), some (.int k), some (.int x), none]) (ll := []) rfl rfl rfl ?_
  have hK := W.1
  refine G_S (pc := 0) f_179_0 rfl rfl rfl ?_
  refine G_S (pc := 1) f_179_1 rfl rfl rfl ?_
  refine G_CV (pc := 2) f_179_2 rfl rfl (by decide) rfl rfl (by first | assumption | exact hK.1 _ _ rfl) (by decide) ⟨Nat.le_of_ble_eq_true rfl, Nat.le_of_ble_eq_true rfl⟩ ?_
  refine CG.mono (c_lineAtS W hl) ?_
  rintro _ M1 ⟨⟨h, rfl, W1⟩, rfl⟩
  have hK := W1.1
  obtain ⟨⟨t0, t1, t2, t3, t4, t5, t6⟩, r0, r3, r4, r6, r7, r8⟩ := W1.2.1
  obtain ⟨hD, ⟨v0, v1, v2⟩, vh, vr, vw, vf⟩ := W1.2.2.1
  have hs := W1.2.2.2.1
  have hh := W1.2.2.2.2
  have hn0 : _ ≤ 8 := hD.1
  have hn1 : _ ≤ 6 := hD.2.1.2
  have hn2 : _ ≤ 8 := hD.2.2.1
  refine G_S (pc := 5) f_179_5 rfl rfl rfl ?_
  refine G_S (pc := 6) f_179_6 rfl rfl rfl ?_
  refine G_S (pc := 7) f_179_7 rfl rfl (if_pos (by first | assumption | omega)) ?_
  refine G_S (pc := 10) f_179_10 rfl rfl rfl ?_
  refine G_S (pc := 11) f_179_11 rfl rfl rfl ?_
  refine G_CV (pc := 12) f_179_12 rfl rfl (by decide) rfl rfl (by first | assumption | exact hK.1 _ _ rfl) (by decide) ⟨Nat.le_of_ble_eq_true rfl, Nat.le_of_ble_eq_true rfl⟩ ?_
  refine CG.go (c_seatsAllN W1) ?_
  first | refine G_bEq (pc := 15) f_179_15 rfl (fun b2 => ?_) (fun b2 => ?_) | refine G_zeqZ (pc := 15) f_179_15 rfl (by first | exact nI_toInt (by omega) | exact zI_toInt (by omega) (by omega) | rfl) (fun b2 => ?_) (fun b2 => ?_)
  · refine G_S (pc := 22) f_179_22 rfl rfl rfl ?_
    first | refine G_ra (pc := 23) f_179_23 ?_ | refine G_rnl (pc := 23) f_179_23 ?_
    exact ⟨rfl, rfl⟩
  · rw [hx] at b2
    cases b2
theorem c_lineForN0 (W : CLs M n L) (hl : lin n L k = none) : CG C 179 [.ref 0, .int k, .int x] M (fun w M' => w = some .null ∧ M' = M) := by
  refine CG_in (mL := 4) (hl := false) (lv := [some (.ref 0), some (.int k), some (.int x), none]) (ll := []) rfl rfl rfl ?_
  have hK := W.1
  refine G_S (pc := 0) f_179_0 rfl rfl rfl ?_
  refine G_S (pc := 1) f_179_1 rfl rfl rfl ?_
  refine G_CV (pc := 2) f_179_2 rfl rfl (by decide) rfl rfl (by first | assumption | exact hK.1 _ _ rfl) (by decide) ⟨Nat.le_of_ble_eq_true rfl, Nat.le_of_ble_eq_true rfl⟩ ?_
  refine CG.go (c_lineAtN W hl) ?_
  refine G_S (pc := 5) f_179_5 rfl rfl rfl ?_
  refine G_S (pc := 6) f_179_6 rfl rfl rfl ?_
  refine G_S (pc := 7) f_179_7 rfl rfl rfl ?_
  refine G_S (pc := 22) f_179_22 rfl rfl rfl ?_
  first | refine G_ra (pc := 23) f_179_23 ?_ | refine G_rnl (pc := 23) f_179_23 ?_
  exact ⟨rfl, rfl⟩
/-! the reference's side -/
/-- the reference with a line at hand, its riders bear b -/
def MB (M : Mm) (l : Nat) (D b : Nat → Nat) : Prop := mH M l D ∧ ∀ r, r < D 2 → M.2.1 110 r = nI (b r) ∧ b r < 256
theorem mH.fo {l : Nat} {M' : Mm} {os : List Nat} (W : mH M l D) (hF : Fo os M M') (h1 : 98 ∉ os) (h2 : 104 ∉ os) : mH M' l D := ⟨hF.K W.1, W.2.fo hF h1 h2⟩
theorem MLs.out (W : MLs M n L) (hl : lin n L k = none) : ¬ (0 ≤ k ∧ k ≤ M.2.1 103 0 - 1) := by
  have hn := W.2.2.1
  intro q
  apply lin_none hl
  have q1 := Int32.le_iff_toInt_le.mp q.1
  have q2 := Int32.le_iff_toInt_le.mp q.2
  rw [W.2.1, show (1 : Int32) = nI 1 from rfl, pk_sub_toInt (by omega) (by omega)] at q2
  rw [Int32.toInt_zero] at q1
  omega
theorem g_handS (W : MLs M n L) (hl : lin n L k = some D) : CG C 226 [.ref 98, .int k] M (fun w M' => w = some (.int (b2i (True))) ∧ mQ M M' ∧ ∃ l, mH M' l D) := by
  obtain ⟨l, h1, rfl, rfl⟩ := lin_some hl
  refine CG.mono (m_handD W.1 W.2.1 W.2.2.1 h1 (W.2.2.2 l h1)) ?_
  rintro w M' ⟨rfl, hF, hH⟩
  exact ⟨rfl, hF.q (by decide), l, hF.K W.1, hH⟩
theorem g_handN (W : MLs M n L) (hl : lin n L k = none) : CG C 226 [.ref 98, .int k] M (fun w M' => w = some (.int (b2i (False))) ∧ M' = M) := m_hand0 W.1 (W.out hl)
theorem g_isSet {l : Nat} (W : mH M l D) : CG C 251 [.ref 98, .int x] M (fun w M' => w = some (.int (b2i ((isS D x).isSome = true))) ∧ M' = M) := by
  refine CG.mono (m_isSet W.1 W.2) ?_
  rintro w M' ⟨rfl, rfl⟩
  refine ⟨?_, rfl⟩
  have hD := W.2.2.2.1
  have hp := pw_le (D 2) (by have := hD.2.2.1; omega)
  have hp1 : 0 < 2 ^ D 2 := Nat.two_pow_pos _
  congr 2
  refine b2i_congr ?_
  unfold isS
  rw [Int32.le_iff_toInt_le, Int32.le_iff_toInt_le, nI_toInt (by omega), Int32.toInt_zero]
  constructor
  · intro q
    rw [if_pos ⟨q.1, by omega⟩]
    rfl
  · intro q
    split at q
    · omega
    · cases q
theorem g_seatedS (W : MLs M n L) (hl : lin n L k = some D) (hx : sea D x = some S) : CG C 266 [.ref 98, .int k, .int x] M (fun w M' => w = some (.int (b2i (True))) ∧ mQ M M' ∧ ∃ l, mH M' l D) := by
  obtain ⟨h1, rfl, h3⟩ := sea_some hx
  refine CG_in (mL := 3) (hl := false) (lv := [some (.ref 98), some (.int k), some (.int (nI S))]) (ll := []) rfl rfl rfl ?_
  have hK := W.1
  refine G_S (pc := 0) f_266_0 rfl rfl rfl ?_
  refine G_S (pc := 1) f_266_1 rfl rfl rfl ?_
  refine G_CV (pc := 2) f_266_2 rfl rfl (by decide) rfl rfl (by first | assumption | exact hK.1 _ _ rfl) (by decide) ⟨Nat.le_of_ble_eq_true rfl, Nat.le_of_ble_eq_true rfl⟩ ?_
  refine CG.mono (g_handS W hl) ?_
  rintro _ M1 ⟨rfl, hQ, l, W1⟩
  have hK := W1.1
  have hH := W1.2
  obtain ⟨⟨a0, a1, a2, a3⟩, hl8, hD, ao⟩ := W1.2
  have hn0 : _ ≤ 8 := hD.1
  have hn1 : _ ≤ 6 := hD.2.1.2
  have hn2 : _ ≤ 8 := hD.2.2.1
  first | refine G_bEq (pc := 5) f_266_5 rfl (fun b1 => ?_) (fun b1 => ?_) | refine G_zeqZ (pc := 5) f_266_5 rfl (by first | exact nI_toInt (by omega) | exact zI_toInt (by omega) (by omega) | rfl) (fun b1 => ?_) (fun b1 => ?_)
  · exact absurd trivial b1
  · refine G_S (pc := 8) f_266_8 rfl rfl rfl ?_
    refine G_S (pc := 9) f_266_9 rfl rfl rfl ?_
    refine G_CV (pc := 10) f_266_10 rfl rfl (by decide) rfl rfl (by first | assumption | exact hK.1 _ _ rfl) (by decide) ⟨Nat.le_of_ble_eq_true rfl, Nat.le_of_ble_eq_true rfl⟩ ?_
    refine CG.go (g_isSet W1) ?_
    first | refine G_bEq (pc := 13) f_266_13 rfl (fun b2 => ?_) (fun b2 => ?_) | refine G_zeqZ (pc := 13) f_266_13 rfl (by first | exact nI_toInt (by omega) | exact zI_toInt (by omega) (by omega) | rfl) (fun b2 => ?_) (fun b2 => ?_)
    · unfold isS at b2
      rw [if_pos (by rw [nI_toInt (by have := pw2 hn2 h1; omega)]; omega)] at b2
      exact absurd rfl b2
    · refine G_S (pc := 16) f_266_16 rfl rfl rfl ?_
      refine G_S (pc := 17) f_266_17 rfl rfl rfl ?_
      refine G_CV (pc := 18) f_266_18 rfl rfl (by decide) rfl rfl (by first | assumption | exact hK.1 _ _ rfl) (by decide) ⟨Nat.le_of_ble_eq_true rfl, Nat.le_of_ble_eq_true rfl⟩ ?_
      refine CG.go (m_isSeated hK hH (pw2 hn2 h1)) ?_
      first | refine G_bEq (pc := 21) f_266_21 rfl (fun b3 => ?_) (fun b3 => ?_) | refine G_zeqZ (pc := 21) f_266_21 rfl (by first | exact nI_toInt (by omega) | exact zI_toInt (by omega) (by omega) | rfl) (fun b3 => ?_) (fun b3 => ?_)
      · exact absurd h3 b3
      · refine G_ic (v := nI 1) (pc := 24) f_266_24 (by decide) ?_
        refine G_S (pc := 25) f_266_25 rfl rfl rfl ?_
        refine G_rz (pc := 29) f_266_29 (by first | exact Or.inl rfl | exact Or.inr rfl | exact b2i_01 _ | assumption) ?_
        exact ⟨rfl, hQ, l, W1⟩
theorem g_seatedN (W : MLs M n L) (hl : lin n L k = some D) (hx : sea D x = none) : CG C 266 [.ref 98, .int k, .int x] M (fun w M' => w = some (.int (b2i (False))) ∧ mQ M M') := by
  refine CG_in (mL := 3) (hl := false) (lv := [some (.ref 98), some (.int k), some (.int x)]) (ll := []) rfl rfl rfl ?_
  have hK := W.1
  refine G_S (pc := 0) f_266_0 rfl rfl rfl ?_
  refine G_S (pc := 1) f_266_1 rfl rfl rfl ?_
  refine G_CV (pc := 2) f_266_2 rfl rfl (by decide) rfl rfl (by first | assumption | exact hK.1 _ _ rfl) (by decide) ⟨Nat.le_of_ble_eq_true rfl, Nat.le_of_ble_eq_true rfl⟩ ?_
  refine CG.mono (g_handS W hl) ?_
  rintro _ M1 ⟨rfl, hQ, l, W1⟩
  have hK := W1.1
  have hH := W1.2
  obtain ⟨⟨a0, a1, a2, a3⟩, hl8, hD, ao⟩ := W1.2
  have hn0 : _ ≤ 8 := hD.1
  have hn1 : _ ≤ 6 := hD.2.1.2
  have hn2 : _ ≤ 8 := hD.2.2.1
  first | refine G_bEq (pc := 5) f_266_5 rfl (fun b1 => ?_) (fun b1 => ?_) | refine G_zeqZ (pc := 5) f_266_5 rfl (by first | exact nI_toInt (by omega) | exact zI_toInt (by omega) (by omega) | rfl) (fun b1 => ?_) (fun b1 => ?_)
  · exact absurd trivial b1
  · refine G_S (pc := 8) f_266_8 rfl rfl rfl ?_
    refine G_S (pc := 9) f_266_9 rfl rfl rfl ?_
    refine G_CV (pc := 10) f_266_10 rfl rfl (by decide) rfl rfl (by first | assumption | exact hK.1 _ _ rfl) (by decide) ⟨Nat.le_of_ble_eq_true rfl, Nat.le_of_ble_eq_true rfl⟩ ?_
    refine CG.go (g_isSet W1) ?_
    first | refine G_bEq (pc := 13) f_266_13 rfl (fun b2 => ?_) (fun b2 => ?_) | refine G_zeqZ (pc := 13) f_266_13 rfl (by first | exact nI_toInt (by omega) | exact zI_toInt (by omega) (by omega) | rfl) (fun b2 => ?_) (fun b2 => ?_)
    · refine G_ic (v := nI 0) (pc := 28) f_266_28 (by decide) ?_
      refine G_rz (pc := 29) f_266_29 (by first | exact Or.inl rfl | exact Or.inr rfl | exact b2i_01 _ | assumption) ?_
      exact ⟨rfl, hQ⟩
    · rcases sea_none hx with e | ⟨S, e, hp⟩
      · rw [e] at b2
        cases b2
      obtain ⟨e1, rfl⟩ := isS_some e
      refine G_S (pc := 16) f_266_16 rfl rfl rfl ?_
      refine G_S (pc := 17) f_266_17 rfl rfl rfl ?_
      refine G_CV (pc := 18) f_266_18 rfl rfl (by decide) rfl rfl (by first | assumption | exact hK.1 _ _ rfl) (by decide) ⟨Nat.le_of_ble_eq_true rfl, Nat.le_of_ble_eq_true rfl⟩ ?_
      refine CG.go (m_isSeated hK hH (pw2 hn2 e1)) ?_
      first | refine G_bEq (pc := 21) f_266_21 rfl (fun b3 => ?_) (fun b3 => ?_) | refine G_zeqZ (pc := 21) f_266_21 rfl (by first | exact nI_toInt (by omega) | exact zI_toInt (by omega) (by omega) | rfl) (fun b3 => ?_) (fun b3 => ?_)
      · refine G_ic (v := nI 0) (pc := 28) f_266_28 (by decide) ?_
        refine G_rz (pc := 29) f_266_29 (by first | exact Or.inl rfl | exact Or.inr rfl | exact b2i_01 _ | assumption) ?_
        exact ⟨rfl, hQ⟩
      · exact absurd b3 hp
theorem g_seatedN0 (W : MLs M n L) (hl : lin n L k = none) : CG C 266 [.ref 98, .int k, .int x] M (fun w M' => w = some (.int (b2i (False))) ∧ mQ M M') := by
  refine CG_in (mL := 3) (hl := false) (lv := [some (.ref 98), some (.int k), some (.int x)]) (ll := []) rfl rfl rfl ?_
  have hK := W.1
  refine G_S (pc := 0) f_266_0 rfl rfl rfl ?_
  refine G_S (pc := 1) f_266_1 rfl rfl rfl ?_
  refine G_CV (pc := 2) f_266_2 rfl rfl (by decide) rfl rfl (by first | assumption | exact hK.1 _ _ rfl) (by decide) ⟨Nat.le_of_ble_eq_true rfl, Nat.le_of_ble_eq_true rfl⟩ ?_
  refine CG.go (g_handN W hl) ?_
  first | refine G_bEq (pc := 5) f_266_5 rfl (fun b1 => ?_) (fun b1 => ?_) | refine G_zeqZ (pc := 5) f_266_5 rfl (by first | exact nI_toInt (by omega) | exact zI_toInt (by omega) (by omega) | rfl) (fun b1 => ?_) (fun b1 => ?_)
  · refine G_ic (v := nI 0) (pc := 28) f_266_28 (by decide) ?_
    refine G_rz (pc := 29) f_266_29 (by first | exact Or.inl rfl | exact Or.inr rfl | exact b2i_01 _ | assumption) ?_
    exact ⟨rfl, mQ.rf⟩
  · exact absurd b1 id
end WL
section GM
variable {C : Ct} {M : Mm} {l S : Nat} {D b : Nat → Nat}
theorem m_hasN {k : Nat} (hS : S < 256) (hk : k < 8) : CG C 190 [.int (nI S), .int (nI k)] M (fun w M' => w = some (.int (b2i (S.testBit k = true))) ∧ M' = M) := by
  refine CG.mono m_has ?_
  rintro w M' ⟨rfl, rfl⟩
  refine ⟨?_, rfl⟩
  congr 2
  exact b2i_congr (bit_at S hS k hk)
theorem g_lay {x : Int32} {m : Int} (W : mH M l D) (hx : x = zI m) (h1 : -100 ≤ m) (h2 : m ≤ 100) : CG C 253 [.ref 98, .int x] M (fun w M' => w = none ∧ Fo [110] M M' ∧ MB M' l D (layN D m)) := by
  have e : x.toInt = m := by
    rw [hx]
    exact zI_toInt (by omega) (by omega)
  refine CG.mono (m_laySet W.1 W.2 (by omega) (by omega)) ?_
  rintro w M' ⟨rfl, hF, hw⟩
  rw [e] at hw
  exact ⟨rfl, hF, W.fo hF (by decide) (by decide), fun r hr => ⟨hw r hr, by have := layN_le D m r; omega⟩⟩
theorem g_pull (W : MB M l D b) (hS : S < 256) : CG C 254 [.ref 98, .int (nI S)] M (fun w M' => w = some (.int (nI (plS D b S (D 2)))) ∧ M' = M) := m_pullOf W.1.1 W.1.2 hS W.2
theorem g_wears (W : MB M l D b) (hS : S < 256) : CG C 255 [.ref 98, .int (nI S)] M (fun w M' => w = none ∧ Fo [110] M M' ∧ MB M' l D (wn D b S)) := by
  refine CG.mono (m_wears W.1.1 W.1.2 hS W.2) ?_
  rintro w M' ⟨rfl, hF, hw⟩
  refine ⟨rfl, hF, W.1.fo hF (by decide) (by decide), fun r hr => ⟨hw r hr, ?_⟩⟩
  have := (W.2 r hr).2
  unfold wn
  split <;> omega
theorem g_comes {k : Nat} (W : MB M l D b) (hS : S < 256) (hk : k ≤ D 0) : CG C 256 [.ref 98, .int (nI S), .int (nI k)] M (fun w M' => w = some (.int (nI (cmF D S (D 0 - k) k b).1)) ∧ Fo [110] M M' ∧ MB M' l D (cmF D S (D 0 - k) k b).2) := by
  refine CG.mono (m_comes W.1.1 W.1.2 hS W.2 hk) ?_
  rintro w M' ⟨rfl, hF, hw⟩
  refine ⟨rfl, hF, W.1.fo hF (by decide) (by decide), fun r hr => ⟨hw r hr, ?_⟩⟩
  have := (W.2 r hr).2
  have := (cmF_le D S (D 0 - k) k b).2.2 r
  omega
theorem g_up {x : Int32} {m : Int} (W : mH M l D) (hS : S < 256) (hx : x = zI m) (h1 : -100 ≤ m) (h2 : m ≤ 100) : CG C 258 [.ref 98, .int (nI S), .int x] M (fun w M' => w = some (.int (b2i (gB D S m = true))) ∧ Fo [110] M M' ∧ mH M' l D) := by
  have e : x.toInt = m := by
    rw [hx]
    exact zI_toInt (by omega) (by omega)
  refine CG.mono (m_getsUp W.1 W.2 hS (by omega) (by omega)) ?_
  rintro w M' ⟨⟨v, rfl, h01, hv⟩, hF⟩
  refine ⟨?_, hF, W.fo hF (by decide) (by decide)⟩
  rw [e] at hv
  congr 2
  rcases h01 with rfl | rfl
  · rw [b2i_neg (fun q => absurd (hv.mpr (gB_iff.mp q)) (by decide))]
  · rw [b2i_pos (gB_iff.mpr (hv.mp rfl))]
end GM
/-! a line and a seated set at once -/
def slin (n : Nat) (L : Nat → Nat → Nat) (k x : Int32) : Option ((Nat → Nat) × Nat) := match lin n L k with
  | none => none
  | some D => match sea D x with
    | none => none
    | some S => some (D, S)
def aFor (o : Option ((Nat → Nat) × Nat)) (f : (Nat → Nat) → Nat → Int32) : Int32 := match o with
  | none => zI (-1)
  | some q => f q.1 q.2
theorem slin_some {n : Nat} {L : Nat → Nat → Nat} {k x : Int32} {D : Nat → Nat} {S : Nat} (h : slin n L k x = some (D, S)) : lin n L k = some D ∧ sea D x = some S := by
  unfold slin at h
  split at h
  · cases h
  · rename_i D' hD
    split at h
    · cases h
    · rename_i S' hS
      cases h
      exact ⟨hD, hS⟩
theorem slin_none {n : Nat} {L : Nat → Nat → Nat} {k x : Int32} (h : slin n L k x = none) : lin n L k = none ∨ ∃ D, lin n L k = some D ∧ sea D x = none := by
  unfold slin at h
  split at h
  · rename_i hD
    exact Or.inl hD
  · rename_i D' hD
    split at h
    · rename_i hS
      exact Or.inr ⟨D', hD, hS⟩
    · cases h
/-- the class's cells for its own use -/
def CS : List Nat := [14, 36, 21, 22, 23, 43, 44, 45, 78, 79, 80, 81, 82, 83, 84, 85, 86, 87, 88, 89, 90, 91, 92, 93, 94, 95, 96, 97]
section WF
variable {C : Ct} {M : Mm} {n : Nat} {L : Nat → Nat → Nat} {k x : Int32} {D : Nat → Nat} {S : Nat}
theorem c_for1 (W : CLs M n L) (hx : slin n L k x = some (D, S)) : CG C 179 [.ref 0, .int k, .int x] M (fun w M' => (∃ h, w = some (.ref h) ∧ LW M h D) ∧ M' = M) := c_lineForS W (slin_some hx).1 (slin_some hx).2
theorem c_for0 (W : CLs M n L) (hx : slin n L k x = none) : CG C 179 [.ref 0, .int k, .int x] M (fun w M' => w = some .null ∧ M' = M) := by
  rcases slin_none hx with e | ⟨D, e, e2⟩
  · exact c_lineForN0 W e
  · exact c_lineForN W e e2
theorem g_for1 (W : MLs M n L) (hx : slin n L k x = some (D, S)) : CG C 266 [.ref 98, .int k, .int x] M (fun w M' => w = some (.int (b2i (True))) ∧ mQ M M' ∧ ∃ l, mH M' l D) := g_seatedS W (slin_some hx).1 (slin_some hx).2
theorem g_for0 (W : MLs M n L) (hx : slin n L k x = none) : CG C 266 [.ref 98, .int k, .int x] M (fun w M' => w = some (.int (b2i (False))) ∧ mQ M M') := by
  rcases slin_none hx with e | ⟨D, e, e2⟩
  · exact g_seatedN0 W e
  · exact g_seatedN W e e2
theorem m_inZ {v a b : Int32} {zv za zb : Int} (e1 : v.toInt = zv) (e2 : a.toInt = za) (e3 : b.toInt = zb) : CG C 189 [.int v, .int a, .int b] M (fun w M' => w = some (.int (b2i (za ≤ zv ∧ zv ≤ zb))) ∧ M' = M) := by
  refine CG.mono m_in ?_
  rintro w M' ⟨rfl, rfl⟩
  refine ⟨?_, rfl⟩
  congr 2
  refine b2i_congr ?_
  rw [Int32.le_iff_toInt_le, Int32.le_iff_toInt_le, e1, e2, e3]
theorem m_greaterZ {a b : Int32} {za zb : Int} (e2 : a.toInt = za) (e3 : b.toInt = zb) : CG C 191 [.int a, .int b] M (fun w M' => w = some (.int (zI (max za zb))) ∧ M' = M) := by
  refine CG.mono m_greater ?_
  rintro w M' ⟨rfl, rfl⟩
  refine ⟨?_, rfl⟩
  congr 2
  rw [← zmax e2 e3]
  by_cases h : a < b
  · rw [if_pos h, if_pos (Int32.le_of_lt h)]
  · by_cases h2 : a ≤ b
    · rw [if_neg h, if_pos h2]
      exact Int32.le_antisymm (Int32.not_lt.mp h) h2
    · rw [if_neg h, if_neg h2]
theorem m_lesserZ {a b : Int32} {za zb : Int} (e2 : a.toInt = za) (e3 : b.toInt = zb) : CG C 192 [.int a, .int b] M (fun w M' => w = some (.int (zI (min za zb))) ∧ M' = M) := by
  refine CG.mono m_lesser ?_
  rintro w M' ⟨rfl, rfl⟩
  refine ⟨?_, rfl⟩
  congr 2
  rw [← zmin e2 e3]
  by_cases h : b < a
  · rw [if_pos h, if_pos (Int32.le_of_lt h)]
  · by_cases h2 : b ≤ a
    · rw [if_neg h, if_pos h2]
      exact Int32.le_antisymm h2 (Int32.not_lt.mp h)
    · rw [if_neg h, if_neg h2]
theorem m_greaterN {i j : Nat} (hi : i < 2 ^ 31) (hj : j < 2 ^ 31) : CG C 191 [.int (nI i), .int (nI j)] M (fun w M' => w = some (.int (nI (max i j))) ∧ M' = M) := by
  refine CG.mono (m_greaterZ (nI_toInt hi) (nI_toInt hj)) ?_
  rintro w M' ⟨rfl, rfl⟩
  refine ⟨?_, rfl⟩
  have e : max (i : Int) (j : Int) = ((max i j : Nat) : Int) := by omega
  rw [nI_zI, e]
theorem m_lesserN {i j : Nat} (hi : i < 2 ^ 31) (hj : j < 2 ^ 31) : CG C 192 [.int (nI i), .int (nI j)] M (fun w M' => w = some (.int (nI (min i j))) ∧ M' = M) := by
  refine CG.mono (m_lesserZ (nI_toInt hi) (nI_toInt hj)) ?_
  rintro w M' ⟨rfl, rfl⟩
  refine ⟨?_, rfl⟩
  have e : min (i : Int) (j : Int) = ((min i j : Nat) : Int) := by omega
  rw [nI_zI, e]
end WF
