/-! a tram under way: S 0 stop, S 1 stalls, S 2 first stall, S 3 climbed, S (20+r) seats, S (30+s) sitters; b ounces -/
def TOK (D : Nat → Nat) (k : Nat) (S : Nat → Int) (b : Nat → Nat) : Prop := (0 ≤ S 0 ∧ S 0 ≤ (D 0 : Int)) ∧ (0 ≤ S 1 ∧ S 1 ≤ (k : Int)) ∧ (-1 ≤ S 2 ∧ S 2 ≤ 8) ∧ (0 ≤ S 3 ∧ S 3 ≤ (k : Int)) ∧ (S 1 = 0 ↔ S 2 = -1) ∧ (∀ r, r < D 2 → (-1 ≤ S (20 + r) ∧ S (20 + r) < (D 1 : Int)) ∧ b r ≤ 99) ∧ ∀ s, s < 6 → -1 ≤ S (30 + s) ∧ S (30 + s) < (D 2 : Int)
def abd (S : Nat → Int) (r : Nat) : Bool := decide (S (20 + r) ≠ -1)
def ptN (D : Nat → Nat) (S : Nat → Int) (b : Nat → Nat) : Nat → Nat
  | 0 => 0
  | r + 1 => ptN D S b r + (if abd S r then pl (D (11 + r)) (b r) else 0)
def smN (D : Nat → Nat) (S : Nat → Int) (b : Nat → Nat) : Nat → Nat
  | 0 => 0
  | r + 1 => smN D S b r + (if abd S r = true ∧ D (11 + r) = 3 then b r else 0)
def abN (S : Nat → Int) : Nat → Nat
  | 0 => 0
  | r + 1 => abN S r ||| (if abd S r then 2 ^ r else 0)
def adB (S : Nat → Int) (n : Int) (b : Nat → Nat) (r : Nat) : Nat := if abd S r then (max 0 (min 99 ((b r : Int) + n))).toNat else b r
def wrT (D : Nat → Nat) (S : Nat → Int) (b : Nat → Nat) (r : Nat) : Nat := if abd S r then b r - D (27 + D (11 + r)) else b r
def evO (b : Nat → Nat) (i j : Nat) : Nat → Nat := if b j + 2 ≤ b i then up1 (up1 b i (b i - 1)) j (b j + 1) else if b i + 2 ≤ b j then up1 (up1 b i (b i + 1)) j (b j - 1) else b
def shN (S : Nat → Int) (b : Nat → Nat) : Nat → Nat → Nat
  | 0 => b
  | s + 1 => if S (30 + s) ≠ -1 ∧ S (30 + (s + 1)) ≠ -1 then evO (shN S b s) (S (30 + s)).toNat (S (30 + (s + 1))).toNat else shN S b s
theorem ptN_le {D : Nat → Nat} {S : Nat → Int} {b : Nat → Nat} : ∀ n, (∀ r, r < n → b r ≤ 99) → ptN D S b n ≤ n * 198
  | 0, _ => Nat.le_refl _
  | n + 1, h => by
    have h1 := ptN_le (D := D) (S := S) n (fun r hr => h r (by omega))
    have h2 := pl_le (D (11 + n)) (b n)
    have h3 := h n (by omega)
    rw [ptN, Nat.succ_mul]
    split <;> omega
theorem smN_le {D : Nat → Nat} {S : Nat → Int} {b : Nat → Nat} : ∀ n, (∀ r, r < n → b r ≤ 99) → smN D S b n ≤ n * 99
  | 0, _ => Nat.le_refl _
  | n + 1, h => by
    have h1 := smN_le (D := D) (S := S) n (fun r hr => h r (by omega))
    have h3 := h n (by omega)
    rw [smN, Nat.succ_mul]
    split <;> omega
theorem up1_s {α : Type} {f : Nat → α} {i : Nat} {x : α} : up1 f i x i = x := by simp [up1]
theorem up1_o {α : Type} {f : Nat → α} {i j : Nat} {x v : α} (h : j ≠ i) (hv : f j = v) : up1 f i x j = v := by
  unfold up1
  rw [if_neg h]
  exact hv
theorem evO_le {b : Nat → Nat} {i j n : Nat} (hi : i < n) (hj : j < n) (h : ∀ r, r < n → b r ≤ 99) : ∀ r, r < n → evO b i j r ≤ 99 := by
  intro r hr
  have := h r hr
  unfold evO
  split
  · unfold up1
    split
    · rename_i e; subst e; have := h i hi; omega
    · split
      · rename_i e; subst e; omega
      · exact this
  · split
    · unfold up1
      split
      · rename_i e; subst e; omega
      · split
        · rename_i e; subst e; have := h j hj; omega
        · exact this
    · exact this
def TW (M : Mm) (h : Nat) (D : Nat → Nat) (k : Nat) (S : Nat → Int) (b : Nat → Nat) : Prop := LW M h D ∧ M.2.2.2 78 0 = some h ∧ (M.2.1 78 1 = zI (S 0) ∧ M.2.1 78 2 = zI (S 1) ∧ M.2.1 78 3 = zI (S 2) ∧ M.2.1 78 4 = zI (S 3)) ∧ (∀ r, r < D 2 → M.2.1 79 r = nI (b r)) ∧ (∀ r, r < D 2 → M.2.1 80 r = zI (S (20 + r))) ∧ (∀ s, s < 6 → M.2.1 81 s = zI (S (30 + s))) ∧ TOK D k S b
def TF : List Nat := [78, 79, 80, 81]
/-- the tram's frame: its seed stays -/
def Fk (M M' : Mm) : Prop := Fc TF M M' ∧ M'.2.1 78 5 = M.2.1 78 5
theorem Fk.rf {M : Mm} : Fk M M := ⟨Fc.rf, rfl⟩
theorem Fk.tr {M M1 M2 : Mm} (h1 : Fk M M1) (h2 : Fk M1 M2) : Fk M M2 := ⟨h1.1.tr h2.1, h2.2.trans h1.2⟩
theorem Fk.of {M M' : Mm} (h : Fc [79] M M') : Fk M M' := ⟨h.sub (by decide), by rw [(h.2.2 78 (by decide)).1]⟩
theorem TFo : ∀ i, i ∈ TF → 78 ≤ i ∧ i ≤ 97 := by decide
section CTR
variable {C : Ct} {M : Mm} {h k : Nat} {D : Nat → Nat} {S : Nat → Int} {b : Nat → Nat} {x y : Int32}
theorem t_isRider (W : TW M h D k S b) : CG C 109 [.ref 78, .int x] M (fun w M' => w = some (.int (b2i (0 ≤ x.toInt ∧ x.toInt < (D 2 : Int)))) ∧ M' = M) := by
  have W_ := W.1
  have hK := W_.1
  obtain ⟨⟨t0, t1, t2, t3, t4, t5, t6⟩, r0, r3, r4, r6, r7, r8⟩ := W_.2.1
  obtain ⟨hD, ⟨v0, v1, v2⟩, vh, vr, vw, vf⟩ := W_.2.2.1
  have hs := W_.2.2.2.1
  have hh := W_.2.2.2.2
  have hn0 : _ ≤ 8 := hD.1
  have hn1 : _ ≤ 6 := hD.2.1.2
  have hn2 : _ ≤ 8 := hD.2.2.1
  obtain ⟨rl, ⟨s0, s1, s2, s3⟩, q1, q2, q3, hO⟩ := W.2
  obtain ⟨o0, o1, o2, o3, o4, o5, o6⟩ := hO
  refine CG_in (mL := 2) (hl := false) (lv := [some (.ref 78), some (.int x)]) (ll := []) rfl rfl rfl ?_
  refine G_S (pc := 0) f_109_0 rfl rfl rfl ?_
  refine G_zltZ (pc := 1) f_109_1 rfl (by first | exact nI_toInt (by omega) | exact zI_toInt (by omega) (by omega) | rfl) (fun b1 => ?_) (fun b1 => ?_)
  · refine G_ic (v := nI 0) (pc := 19) f_109_19 (by decide) ?_
    refine G_rz (pc := 20) f_109_20 (by first | exact Or.inl rfl | exact Or.inr rfl | exact b2i_01 _ | assumption) ?_
    refine ⟨?_, rfl⟩
    congr 2
    first
      | exact (b2i_1 (by omega)).symm
      | exact (b2i_0 (by omega)).symm
  · refine G_S (pc := 4) f_109_4 rfl rfl rfl ?_
    refine G_S (pc := 5) f_109_5 rfl rfl rfl ?_
    refine G_gR (pc := 6) f_109_6 (by decide) rfl (by first | assumption | exact hK.1 _ _ rfl) (by first | assumption | exact hK.2 _ _ _ rfl | (try dsimp only) <;> (repeat (first | exact up2_s | refine up2_o (by first | decide | omega) ?_)) <;> first | assumption | exact hK.2 _ _ _ rfl) ?_
    refine G_gIv (pc := 9) f_109_9 (by decide) rfl (by decide) (by first | assumption | exact hK.1 _ _ rfl) (by first | assumption | exact mI_s | ((refine mI_o (by first | decide | omega) ?_); (repeat (refine mI_o (by first | decide | omega) ?_)); first | exact mI_s | assumption) | rfl) ?_
    refine G_jgeZ (pc := 12) f_109_12 rfl (by first | exact nI_toInt (by omega) | exact zI_toInt (by omega) (by omega) | rfl) (by first | exact nI_toInt (by omega) | exact zI_toInt (by omega) (by omega) | rfl) (fun b2 => ?_) (fun b2 => ?_)
    · refine G_ic (v := nI 0) (pc := 19) f_109_19 (by decide) ?_
      refine G_rz (pc := 20) f_109_20 (by first | exact Or.inl rfl | exact Or.inr rfl | exact b2i_01 _ | assumption) ?_
      refine ⟨?_, rfl⟩
      congr 2
      first
        | exact (b2i_1 (by omega)).symm
        | exact (b2i_0 (by omega)).symm
    · refine G_ic (v := nI 1) (pc := 15) f_109_15 (by decide) ?_
      refine G_S (pc := 16) f_109_16 rfl rfl rfl ?_
      refine G_rz (pc := 20) f_109_20 (by first | exact Or.inl rfl | exact Or.inr rfl | exact b2i_01 _ | assumption) ?_
      refine ⟨?_, rfl⟩
      congr 2
      first
        | exact (b2i_1 (by omega)).symm
        | exact (b2i_0 (by omega)).symm
theorem t_isAboard {r : Nat} (W : TW M h D k S b) (hr : r < D 2) : CG C 110 [.ref 78, .int (nI r)] M (fun w M' => w = some (.int (b2i (abd S r = true))) ∧ M' = M) := by
  have W_ := W.1
  have hK := W_.1
  obtain ⟨⟨t0, t1, t2, t3, t4, t5, t6⟩, r0, r3, r4, r6, r7, r8⟩ := W_.2.1
  obtain ⟨hD, ⟨v0, v1, v2⟩, vh, vr, vw, vf⟩ := W_.2.2.1
  have hs := W_.2.2.2.1
  have hh := W_.2.2.2.2
  have hn0 : _ ≤ 8 := hD.1
  have hn1 : _ ≤ 6 := hD.2.1.2
  have hn2 : _ ≤ 8 := hD.2.2.1
  obtain ⟨rl, ⟨s0, s1, s2, s3⟩, q1, q2, q3, hO⟩ := W.2
  obtain ⟨o0, o1, o2, o3, o4, o5, o6⟩ := hO
  have ho := (o5 r hr).1
  refine CG_in (mL := 2) (hl := false) (lv := [some (.ref 78), some (.int (nI r))]) (ll := []) rfl rfl rfl ?_
  refine G_S (pc := 0) f_110_0 rfl rfl rfl ?_
  refine G_S (pc := 1) f_110_1 rfl rfl rfl ?_
  refine G_CV (pc := 2) f_110_2 rfl rfl (by decide) rfl rfl (by first | assumption | exact hK.1 _ _ rfl) (by decide) ⟨Nat.le_of_ble_eq_true rfl, Nat.le_of_ble_eq_true rfl⟩ ?_
  refine CG.go (t_isRider W) ?_
  first | refine G_bEq (pc := 5) f_110_5 rfl (fun b1 => ?_) (fun b1 => ?_) | refine G_zeqZ (pc := 5) f_110_5 rfl (by first | exact nI_toInt (by omega) | exact zI_toInt (by omega) (by omega) | rfl) (fun b1 => ?_) (fun b1 => ?_)
  · exact absurd (by rw [nI_toInt (by omega)]; omega) b1
  · refine G_S (pc := 8) f_110_8 rfl rfl rfl ?_
    refine G_gR (pc := 9) f_110_9 (by decide) rfl (by first | assumption | exact hK.1 _ _ rfl) (by first | assumption | exact hK.2 _ _ _ rfl | (try dsimp only) <;> (repeat (first | exact up2_s | refine up2_o (by first | decide | omega) ?_)) <;> first | assumption | exact hK.2 _ _ _ rfl) ?_
    refine G_S (pc := 12) f_110_12 rfl rfl rfl ?_
    refine G_iaN (pc := 13) f_110_13 (by first | assumption | exact hK.1 _ _ rfl) (by omega) (by omega) (by first | assumption | exact q1 _ (by omega) | exact q2 _ (by omega) | exact q3 _ (by omega) | exact q4 _ (by omega) | exact q5 _ (by omega) | exact vh _ (by omega) | exact (vr _ (by omega)).1 | exact (vr _ (by omega)).2 | exact vw _ (by omega) | exact vf _ (by omega) (by omega) | exact mI_s | ((refine mI_o (by first | decide | omega) ?_); (repeat (refine mI_o (by first | decide | omega) ?_)); first | exact mI_s | assumption | exact q1 _ (by omega) | exact q2 _ (by omega) | exact q3 _ (by omega) | exact q4 _ (by omega) | exact q5 _ (by omega) | exact vh _ (by omega) | exact (vr _ (by omega)).1 | exact (vr _ (by omega)).2 | exact vw _ (by omega) | exact vf _ (by omega) (by omega)) | rfl) ?_
    refine G_ic (v := zI (-1)) (pc := 14) f_110_14 (by decide) ?_
    refine G_jeqZ (pc := 15) f_110_15 rfl (by first | exact nI_toInt (by omega) | exact zI_toInt (by omega) (by omega) | rfl) (by first | exact nI_toInt (by omega) | exact zI_toInt (by omega) (by omega) | rfl) (fun b2 => ?_) (fun b2 => ?_)
    · refine G_ic (v := nI 0) (pc := 22) f_110_22 (by decide) ?_
      refine G_rz (pc := 23) f_110_23 (by first | exact Or.inl rfl | exact Or.inr rfl | exact b2i_01 _ | assumption) ?_
      refine ⟨?_, rfl⟩
      congr 2
      first
        | exact (b2i_1 (decide_eq_true b2)).symm
        | exact (b2i_0 (fun q => absurd b2 (of_decide_eq_true q))).symm
    · refine G_ic (v := nI 1) (pc := 18) f_110_18 (by decide) ?_
      refine G_S (pc := 19) f_110_19 rfl rfl rfl ?_
      refine G_rz (pc := 23) f_110_23 (by first | exact Or.inl rfl | exact Or.inr rfl | exact b2i_01 _ | assumption) ?_
      refine ⟨?_, rfl⟩
      congr 2
      first
        | exact (b2i_1 (decide_eq_true b2)).symm
        | exact (b2i_0 (fun q => absurd b2 (of_decide_eq_true q))).symm
theorem t_isAboardX (W : TW M h D k S b) : CG C 110 [.ref 78, .int x] M (fun w M' => w = some (.int (b2i ((0 ≤ x.toInt ∧ x.toInt < (D 2 : Int)) ∧ abd S x.toInt.toNat = true))) ∧ M' = M) := by
  have W_ := W.1
  have hK := W_.1
  obtain ⟨⟨t0, t1, t2, t3, t4, t5, t6⟩, r0, r3, r4, r6, r7, r8⟩ := W_.2.1
  obtain ⟨hD, ⟨v0, v1, v2⟩, vh, vr, vw, vf⟩ := W_.2.2.1
  have hs := W_.2.2.2.1
  have hh := W_.2.2.2.2
  have hn0 : _ ≤ 8 := hD.1
  have hn1 : _ ≤ 6 := hD.2.1.2
  have hn2 : _ ≤ 8 := hD.2.2.1
  obtain ⟨rl, ⟨s0, s1, s2, s3⟩, q1, q2, q3, hO⟩ := W.2
  obtain ⟨o0, o1, o2, o3, o4, o5, o6⟩ := hO
  by_cases hx : 0 ≤ x.toInt ∧ x.toInt < (D 2 : Int)
  · obtain ⟨r, hr, rfl⟩ := i_nat hx.1 hx.2
    refine CG.mono (t_isAboard W hr) ?_
    rintro w M' ⟨rfl, rfl⟩
    refine ⟨?_, rfl⟩
    congr 2
    refine b2i_congr ?_
    rw [nI_toInt (by omega), Int.toNat_natCast]
    exact ⟨fun q => ⟨by omega, q⟩, fun q => q.2⟩
  · refine CG_in (mL := 2) (hl := false) (lv := [some (.ref 78), some (.int x)]) (ll := []) rfl rfl rfl ?_
    refine G_S (pc := 0) f_110_0 rfl rfl rfl ?_
    refine G_S (pc := 1) f_110_1 rfl rfl rfl ?_
    refine G_CV (pc := 2) f_110_2 rfl rfl (by decide) rfl rfl (by first | assumption | exact hK.1 _ _ rfl) (by decide) ⟨Nat.le_of_ble_eq_true rfl, Nat.le_of_ble_eq_true rfl⟩ ?_
    refine CG.go (t_isRider W) ?_
    first | refine G_bEq (pc := 5) f_110_5 rfl (fun b1 => ?_) (fun b1 => ?_) | refine G_zeqZ (pc := 5) f_110_5 rfl (by first | exact nI_toInt (by omega) | exact zI_toInt (by omega) (by omega) | rfl) (fun b1 => ?_) (fun b1 => ?_)
    · refine G_ic (v := nI 0) (pc := 22) f_110_22 (by decide) ?_
      refine G_rz (pc := 23) f_110_23 (by first | exact Or.inl rfl | exact Or.inr rfl | exact b2i_01 _ | assumption) ?_
      refine ⟨?_, rfl⟩
      congr 2
      exact (b2i_0 (fun q => hx q.1)).symm
    · exact absurd b1 hx
theorem t_isFree (W : TW M h D k S b) : CG C 111 [.ref 78, .int x] M (fun w M' => w = some (.int (b2i ((0 ≤ x.toInt ∧ x.toInt < (D 1 : Int)) ∧ S (30 + x.toInt.toNat) = -1))) ∧ M' = M) := by
  have W_ := W.1
  have hK := W_.1
  obtain ⟨⟨t0, t1, t2, t3, t4, t5, t6⟩, r0, r3, r4, r6, r7, r8⟩ := W_.2.1
  obtain ⟨hD, ⟨v0, v1, v2⟩, vh, vr, vw, vf⟩ := W_.2.2.1
  have hs := W_.2.2.2.1
  have hh := W_.2.2.2.2
  have hn0 : _ ≤ 8 := hD.1
  have hn1 : _ ≤ 6 := hD.2.1.2
  have hn2 : _ ≤ 8 := hD.2.2.1
  obtain ⟨rl, ⟨s0, s1, s2, s3⟩, q1, q2, q3, hO⟩ := W.2
  obtain ⟨o0, o1, o2, o3, o4, o5, o6⟩ := hO
  by_cases hx : 0 ≤ x.toInt ∧ x.toInt < (D 1 : Int)
  · obtain ⟨s, hr, rfl⟩ := i_nat hx.1 hx.2
    have ho := o6 s (by omega)
    rw [nI_toInt (by omega), Int.toNat_natCast]
    refine CG_in (mL := 2) (hl := false) (lv := [some (.ref 78), some (.int (nI s))]) (ll := []) rfl rfl rfl ?_
    refine G_S (pc := 0) f_111_0 rfl rfl rfl ?_
    refine G_zltZ (pc := 1) f_111_1 rfl (by first | exact nI_toInt (by omega) | exact zI_toInt (by omega) (by omega) | rfl) (fun b1 => ?_) (fun b1 => ?_)
    · exfalso; omega
    · refine G_S (pc := 4) f_111_4 rfl rfl rfl ?_
      refine G_S (pc := 5) f_111_5 rfl rfl rfl ?_
      refine G_gR (pc := 6) f_111_6 (by decide) rfl (by first | assumption | exact hK.1 _ _ rfl) (by first | assumption | exact hK.2 _ _ _ rfl | (try dsimp only) <;> (repeat (first | exact up2_s | refine up2_o (by first | decide | omega) ?_)) <;> first | assumption | exact hK.2 _ _ _ rfl) ?_
      refine G_gIv (pc := 9) f_111_9 (by decide) rfl (by decide) (by first | assumption | exact hK.1 _ _ rfl) (by first | assumption | exact mI_s | ((refine mI_o (by first | decide | omega) ?_); (repeat (refine mI_o (by first | decide | omega) ?_)); first | exact mI_s | assumption) | rfl) ?_
      refine G_jgeZ (pc := 12) f_111_12 rfl (by first | exact nI_toInt (by omega) | exact zI_toInt (by omega) (by omega) | rfl) (by first | exact nI_toInt (by omega) | exact zI_toInt (by omega) (by omega) | rfl) (fun b2 => ?_) (fun b2 => ?_)
      · exfalso; omega
      · refine G_S (pc := 15) f_111_15 rfl rfl rfl ?_
        refine G_gR (pc := 16) f_111_16 (by decide) rfl (by first | assumption | exact hK.1 _ _ rfl) (by first | assumption | exact hK.2 _ _ _ rfl | (try dsimp only) <;> (repeat (first | exact up2_s | refine up2_o (by first | decide | omega) ?_)) <;> first | assumption | exact hK.2 _ _ _ rfl) ?_
        refine G_S (pc := 19) f_111_19 rfl rfl rfl ?_
        refine G_iaN (pc := 20) f_111_20 (by first | assumption | exact hK.1 _ _ rfl) (by omega) (by omega) (by first | assumption | exact q1 _ (by omega) | exact q2 _ (by omega) | exact q3 _ (by omega) | exact q4 _ (by omega) | exact q5 _ (by omega) | exact vh _ (by omega) | exact (vr _ (by omega)).1 | exact (vr _ (by omega)).2 | exact vw _ (by omega) | exact vf _ (by omega) (by omega) | exact mI_s | ((refine mI_o (by first | decide | omega) ?_); (repeat (refine mI_o (by first | decide | omega) ?_)); first | exact mI_s | assumption | exact q1 _ (by omega) | exact q2 _ (by omega) | exact q3 _ (by omega) | exact q4 _ (by omega) | exact q5 _ (by omega) | exact vh _ (by omega) | exact (vr _ (by omega)).1 | exact (vr _ (by omega)).2 | exact vw _ (by omega) | exact vf _ (by omega) (by omega)) | rfl) ?_
        refine G_ic (v := zI (-1)) (pc := 21) f_111_21 (by decide) ?_
        refine G_jneZ (pc := 22) f_111_22 rfl (by first | exact nI_toInt (by omega) | exact zI_toInt (by omega) (by omega) | rfl) (by first | exact nI_toInt (by omega) | exact zI_toInt (by omega) (by omega) | rfl) (fun b3 => ?_) (fun b3 => ?_)
        · refine G_ic (v := nI 0) (pc := 29) f_111_29 (by decide) ?_
          refine G_rz (pc := 30) f_111_30 (by first | exact Or.inl rfl | exact Or.inr rfl | exact b2i_01 _ | assumption) ?_
          refine ⟨?_, rfl⟩
          congr 2
          first
            | exact (b2i_1 ⟨by omega, b3⟩).symm
            | exact (b2i_0 (fun q => b3 q.2)).symm
        · refine G_ic (v := nI 1) (pc := 25) f_111_25 (by decide) ?_
          refine G_S (pc := 26) f_111_26 rfl rfl rfl ?_
          refine G_rz (pc := 30) f_111_30 (by first | exact Or.inl rfl | exact Or.inr rfl | exact b2i_01 _ | assumption) ?_
          refine ⟨?_, rfl⟩
          congr 2
          first
            | exact (b2i_1 ⟨by omega, b3⟩).symm
            | exact (b2i_0 (fun q => b3 q.2)).symm
  · refine CG_in (mL := 2) (hl := false) (lv := [some (.ref 78), some (.int x)]) (ll := []) rfl rfl rfl ?_
    refine G_S (pc := 0) f_111_0 rfl rfl rfl ?_
    refine G_zltZ (pc := 1) f_111_1 rfl (by first | exact nI_toInt (by omega) | exact zI_toInt (by omega) (by omega) | rfl) (fun b1 => ?_) (fun b1 => ?_)
    · refine G_ic (v := nI 0) (pc := 29) f_111_29 (by decide) ?_
      refine G_rz (pc := 30) f_111_30 (by first | exact Or.inl rfl | exact Or.inr rfl | exact b2i_01 _ | assumption) ?_
      refine ⟨?_, rfl⟩
      congr 2
      exact (b2i_0 (fun q => hx q.1)).symm
    · refine G_S (pc := 4) f_111_4 rfl rfl rfl ?_
      refine G_S (pc := 5) f_111_5 rfl rfl rfl ?_
      refine G_gR (pc := 6) f_111_6 (by decide) rfl (by first | assumption | exact hK.1 _ _ rfl) (by first | assumption | exact hK.2 _ _ _ rfl | (try dsimp only) <;> (repeat (first | exact up2_s | refine up2_o (by first | decide | omega) ?_)) <;> first | assumption | exact hK.2 _ _ _ rfl) ?_
      refine G_gIv (pc := 9) f_111_9 (by decide) rfl (by decide) (by first | assumption | exact hK.1 _ _ rfl) (by first | assumption | exact mI_s | ((refine mI_o (by first | decide | omega) ?_); (repeat (refine mI_o (by first | decide | omega) ?_)); first | exact mI_s | assumption) | rfl) ?_
      refine G_jgeZ (pc := 12) f_111_12 rfl (by first | exact nI_toInt (by omega) | exact zI_toInt (by omega) (by omega) | rfl) (by first | exact nI_toInt (by omega) | exact zI_toInt (by omega) (by omega) | rfl) (fun b2 => ?_) (fun b2 => ?_)
      · refine G_ic (v := nI 0) (pc := 29) f_111_29 (by decide) ?_
        refine G_rz (pc := 30) f_111_30 (by first | exact Or.inl rfl | exact Or.inr rfl | exact b2i_01 _ | assumption) ?_
        refine ⟨?_, rfl⟩
        congr 2
        exact (b2i_0 (fun q => hx q.1)).symm
      · exfalso; omega
/-- boarding -/
def bdB (D : Nat → Nat) (S : Nat → Int) (x y : Int) : Bool := decide ((0 ≤ x ∧ x < (D 2 : Int)) ∧ S (20 + x.toNat) = -1) && decide ((0 ≤ y ∧ y < (D 1 : Int)) ∧ S (30 + y.toNat) = -1)
def bdS (S : Nat → Int) (x y : Int) : Nat → Int := up1 (up1 S (20 + x.toNat) y) (30 + y.toNat) x
theorem bdS_lo {S : Nat → Int} {x y : Int} {j : Nat} (hj : j < 20) : bdS S x y j = S j := up1_o (by omega) (up1_o (by omega) rfl)
theorem TOK.bd {D : Nat → Nat} {k : Nat} {S : Nat → Int} {b : Nat → Nat} {x y : Int} (h : TOK D k S b) (hn2 : D 2 ≤ 8) (hx : 0 ≤ x ∧ x < (D 2 : Int)) (hy : 0 ≤ y ∧ y < (D 1 : Int)) : TOK D k (bdS S x y) b := by
  obtain ⟨o0, o1, o2, o3, o4, o5, o6⟩ := h
  have e : ∀ j, j < 20 → bdS S x y j = S j := fun j hj => up1_o (by omega) (up1_o (by omega) rfl)
  refine ⟨by rw [e 0 (by omega)]; exact o0, by rw [e 1 (by omega)]; exact o1, by rw [e 2 (by omega)]; exact o2, by rw [e 3 (by omega)]; exact o3, by rw [e 1 (by omega), e 2 (by omega)]; exact o4, fun r hr => ⟨?_, (o5 r hr).2⟩, fun s hs => ?_⟩
  · unfold bdS up1
    split
    · omega
    · split
      · omega
      · exact (o5 r hr).1
  · unfold bdS up1
    split
    · omega
    · split
      · omega
      · exact o6 s hs
theorem t_board (W : TW M h D k S b) : CG C 112 [.ref 78, .int x, .int y] M (fun w M' => w = some (.int (b2i (bdB D S x.toInt y.toInt = true))) ∧ Fk M M' ∧ TW M' h D k (if bdB D S x.toInt y.toInt then bdS S x.toInt y.toInt else S) b) := by
  have hO := W.2.2.2.2.2.2
  have W_ := W.1
  have hK := W_.1
  obtain ⟨⟨t0, t1, t2, t3, t4, t5, t6⟩, r0, r3, r4, r6, r7, r8⟩ := W_.2.1
  obtain ⟨hD, ⟨v0, v1, v2⟩, vh, vr, vw, vf⟩ := W_.2.2.1
  have hs := W_.2.2.2.1
  have hh := W_.2.2.2.2
  have hn0 : _ ≤ 8 := hD.1
  have hn1 : _ ≤ 6 := hD.2.1.2
  have hn2 : _ ≤ 8 := hD.2.2.1
  obtain ⟨rl, ⟨s0, s1, s2, s3⟩, q1, q2, q3, hO⟩ := W.2
  obtain ⟨o0, o1, o2, o3, o4, o5, o6⟩ := hO
  by_cases hx : 0 ≤ x.toInt ∧ x.toInt < (D 2 : Int)
  · obtain ⟨r, hr, rfl⟩ := i_nat hx.1 hx.2
    have ho := (o5 r hr).1
    refine CG_in (mL := 3) (hl := false) (lv := [some (.ref 78), some (.int (nI r)), some (.int y)]) (ll := []) rfl rfl rfl ?_
    refine G_S (pc := 0) f_112_0 rfl rfl rfl ?_
    refine G_S (pc := 1) f_112_1 rfl rfl rfl ?_
    refine G_CV (pc := 2) f_112_2 rfl rfl (by decide) rfl rfl (by first | assumption | exact hK.1 _ _ rfl) (by decide) ⟨Nat.le_of_ble_eq_true rfl, Nat.le_of_ble_eq_true rfl⟩ ?_
    refine CG.go (t_isRider W) ?_
    first | refine G_bEq (pc := 5) f_112_5 rfl (fun b1 => ?_) (fun b1 => ?_) | refine G_zeqZ (pc := 5) f_112_5 rfl (by first | exact nI_toInt (by omega) | exact zI_toInt (by omega) (by omega) | rfl) (fun b1 => ?_) (fun b1 => ?_)
    · exact absurd hx b1
    · refine G_S (pc := 8) f_112_8 rfl rfl rfl ?_
      refine G_gR (pc := 9) f_112_9 (by decide) rfl (by first | assumption | exact hK.1 _ _ rfl) (by first | assumption | exact hK.2 _ _ _ rfl | (try dsimp only) <;> (repeat (first | exact up2_s | refine up2_o (by first | decide | omega) ?_)) <;> first | assumption | exact hK.2 _ _ _ rfl) ?_
      refine G_S (pc := 12) f_112_12 rfl rfl rfl ?_
      refine G_iaN (pc := 13) f_112_13 (by first | assumption | exact hK.1 _ _ rfl) (by omega) (by omega) (by first | assumption | exact q1 _ (by omega) | exact q2 _ (by omega) | exact q3 _ (by omega) | exact q4 _ (by omega) | exact q5 _ (by omega) | exact vh _ (by omega) | exact (vr _ (by omega)).1 | exact (vr _ (by omega)).2 | exact vw _ (by omega) | exact vf _ (by omega) (by omega) | exact mI_s | ((refine mI_o (by first | decide | omega) ?_); (repeat (refine mI_o (by first | decide | omega) ?_)); first | exact mI_s | assumption | exact q1 _ (by omega) | exact q2 _ (by omega) | exact q3 _ (by omega) | exact q4 _ (by omega) | exact q5 _ (by omega) | exact vh _ (by omega) | exact (vr _ (by omega)).1 | exact (vr _ (by omega)).2 | exact vw _ (by omega) | exact vf _ (by omega) (by omega)) | rfl) ?_
      refine G_ic (v := zI (-1)) (pc := 14) f_112_14 (by decide) ?_
      refine G_jneZ (pc := 15) f_112_15 rfl (by first | exact nI_toInt (by omega) | exact zI_toInt (by omega) (by omega) | rfl) (by first | exact nI_toInt (by omega) | exact zI_toInt (by omega) (by omega) | rfl) (fun b2 => ?_) (fun b2 => ?_)
      · refine G_ic (v := nI 0) (pc := 26) f_112_26 (by decide) ?_
        refine G_rz (pc := 27) f_112_27 (by first | exact Or.inl rfl | exact Or.inr rfl | exact b2i_01 _ | assumption) ?_
        first
          | (have hb : ¬ bdB D S (nI r).toInt y.toInt = true := fun q => by
               first
                 | exact b3 (of_decide_eq_true (band.mp q).2)
                 | (have z := (of_decide_eq_true (band.mp q).1).2
                    rw [nI_toInt (by omega), Int.toNat_natCast] at z
                    exact b2 z)
             rw [if_neg hb, b2i_0 hb]
             exact ⟨rfl, Fk.rf, W⟩)
          | (have hb : bdB D S (nI r).toInt (nI s).toInt = true := band.mpr ⟨decide_eq_true ⟨hx, by rw [nI_toInt (by omega), Int.toNat_natCast]; exact b2⟩, decide_eq_true b3⟩
             rw [if_pos hb, b2i_1 hb]
             have hF : Fc TF M _ := (Fc.up (i := 80) (k := r) (x := nI s) (by decide)).tr (Fc.up (i := 81) (k := s) (x := nI r) (by decide))
             refine ⟨rfl, ⟨hF, (by (try dsimp only); exact up2_o (by omega) (by (try dsimp only); exact up2_o (by omega) rfl))⟩, W_.fc hF TFo, rl, ⟨?_, ?_, ?_, ?_⟩, fun i hi => (by (try dsimp only); exact up2_o (by omega) (by (try dsimp only); exact up2_o (by omega) (q1 i hi))), fun i hi => ?_, fun i hi => ?_, TOK.bd ⟨o0, o1, o2, o3, o4, o5, o6⟩ hn2 hx b3.1⟩
             · rw [bdS_lo (by omega)]
               exact (by (try dsimp only); exact up2_o (by omega) (by (try dsimp only); exact up2_o (by omega) s0))
             · rw [bdS_lo (by omega)]
               exact (by (try dsimp only); exact up2_o (by omega) (by (try dsimp only); exact up2_o (by omega) s1))
             · rw [bdS_lo (by omega)]
               exact (by (try dsimp only); exact up2_o (by omega) (by (try dsimp only); exact up2_o (by omega) s2))
             · rw [bdS_lo (by omega)]
               exact (by (try dsimp only); exact up2_o (by omega) (by (try dsimp only); exact up2_o (by omega) s3))
             · unfold bdS
               rw [nI_toInt (by omega), nI_toInt (by omega), Int.toNat_natCast, Int.toNat_natCast]
               by_cases q : i = r
               · subst q
                 rw [show up1 (up1 S (20 + i) (s : Int)) (30 + s) (i : Int) (20 + i) = (s : Int) from up1_o (by omega) up1_s, ← nI_zI]
                 exact (by (try dsimp only); exact up2_o (by omega) (by (try dsimp only); exact up2_s))
               · rw [show up1 (up1 S (20 + r) (s : Int)) (30 + s) (r : Int) (20 + i) = S (20 + i) from up1_o (by omega) (up1_o (by omega) rfl)]
                 exact (by (try dsimp only); exact up2_o (by omega) (by (try dsimp only); exact up2_o (by omega) (q2 i hi)))
             · unfold bdS
               rw [nI_toInt (by omega), nI_toInt (by omega), Int.toNat_natCast, Int.toNat_natCast]
               by_cases q : i = s
               · subst q
                 rw [show up1 (up1 S (20 + r) (i : Int)) (30 + i) (r : Int) (30 + i) = (r : Int) from up1_s, ← nI_zI]
                 exact (by (try dsimp only); exact up2_s)
               · rw [show up1 (up1 S (20 + r) (s : Int)) (30 + s) (r : Int) (30 + i) = S (30 + i) from up1_o (by omega) (up1_o (by omega) rfl)]
                 exact (by (try dsimp only); exact up2_o (by omega) (by (try dsimp only); exact up2_o (by omega) (q3 i hi))))
      · refine G_S (pc := 18) f_112_18 rfl rfl rfl ?_
        refine G_S (pc := 19) f_112_19 rfl rfl rfl ?_
        refine G_CV (pc := 20) f_112_20 rfl rfl (by decide) rfl rfl (by first | assumption | exact hK.1 _ _ rfl) (by decide) ⟨Nat.le_of_ble_eq_true rfl, Nat.le_of_ble_eq_true rfl⟩ ?_
        refine CG.go (t_isFree W) ?_
        first | refine G_bNe (pc := 23) f_112_23 rfl (fun b3 => ?_) (fun b3 => ?_) | refine G_zneZ (pc := 23) f_112_23 rfl (by first | exact nI_toInt (by omega) | exact zI_toInt (by omega) (by omega) | rfl) (fun b3 => ?_) (fun b3 => ?_)
        · obtain ⟨s, hs', rfl⟩ := i_nat b3.1.1 b3.1.2
          refine G_S (pc := 28) f_112_28 rfl rfl rfl ?_
          refine G_gR (pc := 29) f_112_29 (by decide) rfl (by first | assumption | exact hK.1 _ _ rfl) (by first | assumption | exact hK.2 _ _ _ rfl | (try dsimp only) <;> (repeat (first | exact up2_s | refine up2_o (by first | decide | omega) ?_)) <;> first | assumption | exact hK.2 _ _ _ rfl) ?_
          refine G_S (pc := 32) f_112_32 rfl rfl rfl ?_
          refine G_S (pc := 33) f_112_33 rfl rfl rfl ?_
          refine G_isN (pc := 34) f_112_34 (by first | assumption | exact hK.1 _ _ rfl) (by omega) (by omega) ?_
          refine G_S (pc := 35) f_112_35 rfl rfl rfl ?_
          refine G_gR (pc := 36) f_112_36 (by decide) rfl (by first | assumption | exact hK.1 _ _ rfl) (by first | assumption | exact hK.2 _ _ _ rfl | (try dsimp only) <;> (repeat (first | exact up2_s | refine up2_o (by first | decide | omega) ?_)) <;> first | assumption | exact hK.2 _ _ _ rfl) ?_
          refine G_S (pc := 39) f_112_39 rfl rfl rfl ?_
          refine G_S (pc := 40) f_112_40 rfl rfl rfl ?_
          refine G_isN (pc := 41) f_112_41 (by first | assumption | exact hK.1 _ _ rfl) (by omega) (by omega) ?_
          refine G_ic (v := nI 1) (pc := 42) f_112_42 (by decide) ?_
          refine G_rz (pc := 43) f_112_43 (by first | exact Or.inl rfl | exact Or.inr rfl | exact b2i_01 _ | assumption) ?_
          first
            | (have hb : ¬ bdB D S (nI r).toInt y.toInt = true := fun q => by
                 first
                   | exact b3 (of_decide_eq_true (band.mp q).2)
                   | (have z := (of_decide_eq_true (band.mp q).1).2
                      rw [nI_toInt (by omega), Int.toNat_natCast] at z
                      exact b2 z)
               rw [if_neg hb, b2i_0 hb]
               exact ⟨rfl, Fk.rf, W⟩)
            | (have hb : bdB D S (nI r).toInt (nI s).toInt = true := band.mpr ⟨decide_eq_true ⟨hx, by rw [nI_toInt (by omega), Int.toNat_natCast]; exact b2⟩, decide_eq_true b3⟩
               rw [if_pos hb, b2i_1 hb]
               have hF : Fc TF M _ := (Fc.up (i := 80) (k := r) (x := nI s) (by decide)).tr (Fc.up (i := 81) (k := s) (x := nI r) (by decide))
               refine ⟨rfl, ⟨hF, (by (try dsimp only); exact up2_o (by omega) (by (try dsimp only); exact up2_o (by omega) rfl))⟩, W_.fc hF TFo, rl, ⟨?_, ?_, ?_, ?_⟩, fun i hi => (by (try dsimp only); exact up2_o (by omega) (by (try dsimp only); exact up2_o (by omega) (q1 i hi))), fun i hi => ?_, fun i hi => ?_, TOK.bd ⟨o0, o1, o2, o3, o4, o5, o6⟩ hn2 hx b3.1⟩
               · rw [bdS_lo (by omega)]
                 exact (by (try dsimp only); exact up2_o (by omega) (by (try dsimp only); exact up2_o (by omega) s0))
               · rw [bdS_lo (by omega)]
                 exact (by (try dsimp only); exact up2_o (by omega) (by (try dsimp only); exact up2_o (by omega) s1))
               · rw [bdS_lo (by omega)]
                 exact (by (try dsimp only); exact up2_o (by omega) (by (try dsimp only); exact up2_o (by omega) s2))
               · rw [bdS_lo (by omega)]
                 exact (by (try dsimp only); exact up2_o (by omega) (by (try dsimp only); exact up2_o (by omega) s3))
               · unfold bdS
                 rw [nI_toInt (by omega), nI_toInt (by omega), Int.toNat_natCast, Int.toNat_natCast]
                 by_cases q : i = r
                 · subst q
                   rw [show up1 (up1 S (20 + i) (s : Int)) (30 + s) (i : Int) (20 + i) = (s : Int) from up1_o (by omega) up1_s, ← nI_zI]
                   exact (by (try dsimp only); exact up2_o (by omega) (by (try dsimp only); exact up2_s))
                 · rw [show up1 (up1 S (20 + r) (s : Int)) (30 + s) (r : Int) (20 + i) = S (20 + i) from up1_o (by omega) (up1_o (by omega) rfl)]
                   exact (by (try dsimp only); exact up2_o (by omega) (by (try dsimp only); exact up2_o (by omega) (q2 i hi)))
               · unfold bdS
                 rw [nI_toInt (by omega), nI_toInt (by omega), Int.toNat_natCast, Int.toNat_natCast]
                 by_cases q : i = s
                 · subst q
                   rw [show up1 (up1 S (20 + r) (i : Int)) (30 + i) (r : Int) (30 + i) = (r : Int) from up1_s, ← nI_zI]
                   exact (by (try dsimp only); exact up2_s)
                 · rw [show up1 (up1 S (20 + r) (s : Int)) (30 + s) (r : Int) (30 + i) = S (30 + i) from up1_o (by omega) (up1_o (by omega) rfl)]
                   exact (by (try dsimp only); exact up2_o (by omega) (by (try dsimp only); exact up2_o (by omega) (q3 i hi))))
        · refine G_ic (v := nI 0) (pc := 26) f_112_26 (by decide) ?_
          refine G_rz (pc := 27) f_112_27 (by first | exact Or.inl rfl | exact Or.inr rfl | exact b2i_01 _ | assumption) ?_
          first
            | (have hb : ¬ bdB D S (nI r).toInt y.toInt = true := fun q => by
                 first
                   | exact b3 (of_decide_eq_true (band.mp q).2)
                   | (have z := (of_decide_eq_true (band.mp q).1).2
                      rw [nI_toInt (by omega), Int.toNat_natCast] at z
                      exact b2 z)
               rw [if_neg hb, b2i_0 hb]
               exact ⟨rfl, Fk.rf, W⟩)
            | (have hb : bdB D S (nI r).toInt (nI s).toInt = true := band.mpr ⟨decide_eq_true ⟨hx, by rw [nI_toInt (by omega), Int.toNat_natCast]; exact b2⟩, decide_eq_true b3⟩
               rw [if_pos hb, b2i_1 hb]
               have hF : Fc TF M _ := (Fc.up (i := 80) (k := r) (x := nI s) (by decide)).tr (Fc.up (i := 81) (k := s) (x := nI r) (by decide))
               refine ⟨rfl, ⟨hF, (by (try dsimp only); exact up2_o (by omega) (by (try dsimp only); exact up2_o (by omega) rfl))⟩, W_.fc hF TFo, rl, ⟨?_, ?_, ?_, ?_⟩, fun i hi => (by (try dsimp only); exact up2_o (by omega) (by (try dsimp only); exact up2_o (by omega) (q1 i hi))), fun i hi => ?_, fun i hi => ?_, TOK.bd ⟨o0, o1, o2, o3, o4, o5, o6⟩ hn2 hx b3.1⟩
               · rw [bdS_lo (by omega)]
                 exact (by (try dsimp only); exact up2_o (by omega) (by (try dsimp only); exact up2_o (by omega) s0))
               · rw [bdS_lo (by omega)]
                 exact (by (try dsimp only); exact up2_o (by omega) (by (try dsimp only); exact up2_o (by omega) s1))
               · rw [bdS_lo (by omega)]
                 exact (by (try dsimp only); exact up2_o (by omega) (by (try dsimp only); exact up2_o (by omega) s2))
               · rw [bdS_lo (by omega)]
                 exact (by (try dsimp only); exact up2_o (by omega) (by (try dsimp only); exact up2_o (by omega) s3))
               · unfold bdS
                 rw [nI_toInt (by omega), nI_toInt (by omega), Int.toNat_natCast, Int.toNat_natCast]
                 by_cases q : i = r
                 · subst q
                   rw [show up1 (up1 S (20 + i) (s : Int)) (30 + s) (i : Int) (20 + i) = (s : Int) from up1_o (by omega) up1_s, ← nI_zI]
                   exact (by (try dsimp only); exact up2_o (by omega) (by (try dsimp only); exact up2_s))
                 · rw [show up1 (up1 S (20 + r) (s : Int)) (30 + s) (r : Int) (20 + i) = S (20 + i) from up1_o (by omega) (up1_o (by omega) rfl)]
                   exact (by (try dsimp only); exact up2_o (by omega) (by (try dsimp only); exact up2_o (by omega) (q2 i hi)))
               · unfold bdS
                 rw [nI_toInt (by omega), nI_toInt (by omega), Int.toNat_natCast, Int.toNat_natCast]
                 by_cases q : i = s
                 · subst q
                   rw [show up1 (up1 S (20 + r) (i : Int)) (30 + i) (r : Int) (30 + i) = (r : Int) from up1_s, ← nI_zI]
                   exact (by (try dsimp only); exact up2_s)
                 · rw [show up1 (up1 S (20 + r) (s : Int)) (30 + s) (r : Int) (30 + i) = S (30 + i) from up1_o (by omega) (up1_o (by omega) rfl)]
                   exact (by (try dsimp only); exact up2_o (by omega) (by (try dsimp only); exact up2_o (by omega) (q3 i hi))))
  · have hb : ¬ bdB D S x.toInt y.toInt = true := fun q => hx (of_decide_eq_true (band.mp q).1).1
    rw [if_neg hb]
    refine CG_in (mL := 3) (hl := false) (lv := [some (.ref 78), some (.int x), some (.int y)]) (ll := []) rfl rfl rfl ?_
    refine G_S (pc := 0) f_112_0 rfl rfl rfl ?_
    refine G_S (pc := 1) f_112_1 rfl rfl rfl ?_
    refine G_CV (pc := 2) f_112_2 rfl rfl (by decide) rfl rfl (by first | assumption | exact hK.1 _ _ rfl) (by decide) ⟨Nat.le_of_ble_eq_true rfl, Nat.le_of_ble_eq_true rfl⟩ ?_
    refine CG.go (t_isRider W) ?_
    first | refine G_bEq (pc := 5) f_112_5 rfl (fun b1 => ?_) (fun b1 => ?_) | refine G_zeqZ (pc := 5) f_112_5 rfl (by first | exact nI_toInt (by omega) | exact zI_toInt (by omega) (by omega) | rfl) (fun b1 => ?_) (fun b1 => ?_)
    · refine G_ic (v := nI 0) (pc := 26) f_112_26 (by decide) ?_
      refine G_rz (pc := 27) f_112_27 (by first | exact Or.inl rfl | exact Or.inr rfl | exact b2i_01 _ | assumption) ?_
      rw [b2i_0 hb]
      exact ⟨rfl, Fk.rf, W⟩
    · exact absurd b1 hx
/-- getting off -/
def ofS (S : Nat → Int) (r : Nat) : Nat → Int := up1 (up1 S (30 + (S (20 + r)).toNat) (-1)) (20 + r) (-1)
theorem ofS_lo {S : Nat → Int} {r j : Nat} (hj : j < 20) : ofS S r j = S j := up1_o (by omega) (up1_o (by omega) rfl)
theorem TOK.of {D : Nat → Nat} {k : Nat} {S : Nat → Int} {b : Nat → Nat} {r : Nat} (h : TOK D k S b) : TOK D k (ofS S r) b := by
  obtain ⟨o0, o1, o2, o3, o4, o5, o6⟩ := h
  have e : ∀ j, j < 20 → ofS S r j = S j := fun j hj => ofS_lo hj
  have hd : ∀ z : Nat, -1 < (z : Int) := fun z => by omega
  refine ⟨by rw [e 0 (by omega)]; exact o0, by rw [e 1 (by omega)]; exact o1, by rw [e 2 (by omega)]; exact o2, by rw [e 3 (by omega)]; exact o3, by rw [e 1 (by omega), e 2 (by omega)]; exact o4, fun i hi => ⟨?_, (o5 i hi).2⟩, fun s hs => ?_⟩
  · unfold ofS up1
    split
    · omega
    · split
      · omega
      · exact (o5 i hi).1
  · unfold ofS up1
    split
    · omega
    · split
      · omega
      · exact o6 s hs
theorem t_getOff {r : Nat} (W : TW M h D k S b) (hr : r < D 2) : CG C 114 [.ref 78, .int (nI r)] M (fun w M' => w = some (.int (b2i (abd S r = true))) ∧ Fk M M' ∧ TW M' h D k (if abd S r then ofS S r else S) b) := by
  have hO := W.2.2.2.2.2.2
  have W_ := W.1
  have hK := W_.1
  obtain ⟨⟨t0, t1, t2, t3, t4, t5, t6⟩, r0, r3, r4, r6, r7, r8⟩ := W_.2.1
  obtain ⟨hD, ⟨v0, v1, v2⟩, vh, vr, vw, vf⟩ := W_.2.2.1
  have hs := W_.2.2.2.1
  have hh := W_.2.2.2.2
  have hn0 : _ ≤ 8 := hD.1
  have hn1 : _ ≤ 6 := hD.2.1.2
  have hn2 : _ ≤ 8 := hD.2.2.1
  obtain ⟨rl, ⟨s0, s1, s2, s3⟩, q1, q2, q3, hO⟩ := W.2
  obtain ⟨o0, o1, o2, o3, o4, o5, o6⟩ := hO
  have ho := (o5 r hr).1
  by_cases ha : abd S r = true
  · have ha2 := of_decide_eq_true ha
    obtain ⟨s, hs1, hs2⟩ : ∃ s : Nat, S (20 + r) = (s : Int) ∧ s < 6 := ⟨(S (20 + r)).toNat, by omega, by omega⟩
    have hq : M.2.1 80 r = nI s := by rw [q2 r hr, hs1, nI_zI]
    rw [if_pos ha, b2i_1 ha]
    refine CG_in (mL := 3) (hl := false) (lv := [some (.ref 78), some (.int (nI r)), none]) (ll := []) rfl rfl rfl ?_
    refine G_S (pc := 0) f_114_0 rfl rfl rfl ?_
    refine G_S (pc := 1) f_114_1 rfl rfl rfl ?_
    refine G_CV (pc := 2) f_114_2 rfl rfl (by decide) rfl rfl (by first | assumption | exact hK.1 _ _ rfl) (by decide) ⟨Nat.le_of_ble_eq_true rfl, Nat.le_of_ble_eq_true rfl⟩ ?_
    refine CG.go (t_isAboard W hr) ?_
    first | refine G_bNe (pc := 5) f_114_5 rfl (fun b1 => ?_) (fun b1 => ?_) | refine G_zneZ (pc := 5) f_114_5 rfl (by first | exact nI_toInt (by omega) | exact zI_toInt (by omega) (by omega) | rfl) (fun b1 => ?_) (fun b1 => ?_)
    · refine G_S (pc := 10) f_114_10 rfl rfl rfl ?_
      refine G_gR (pc := 11) f_114_11 (by decide) rfl (by first | assumption | exact hK.1 _ _ rfl) (by first | assumption | exact hK.2 _ _ _ rfl | (try dsimp only) <;> (repeat (first | exact up2_s | refine up2_o (by first | decide | omega) ?_)) <;> first | assumption | exact hK.2 _ _ _ rfl) ?_
      refine G_S (pc := 14) f_114_14 rfl rfl rfl ?_
      refine G_iaN (pc := 15) f_114_15 (by first | assumption | exact hK.1 _ _ rfl) (by omega) (by omega) (by first | exact hq | rfl) ?_
      refine G_S (pc := 16) f_114_16 rfl rfl rfl ?_
      refine G_S (pc := 17) f_114_17 rfl rfl rfl ?_
      refine G_zltZ (pc := 18) f_114_18 rfl (by first | exact nI_toInt (by omega) | exact zI_toInt (by omega) (by omega) | rfl) (fun b2 => ?_) (fun b2 => ?_)
      · exfalso; omega
      · refine G_S (pc := 21) f_114_21 rfl rfl rfl ?_
        refine G_bi (v := nI 6) (pc := 22) f_114_22 (by decide) ?_
        refine G_jgeZ (pc := 24) f_114_24 rfl (by first | exact nI_toInt (by omega) | exact zI_toInt (by omega) (by omega) | rfl) (by first | exact nI_toInt (by omega) | exact zI_toInt (by omega) (by omega) | rfl) (fun b3 => ?_) (fun b3 => ?_)
        · exfalso; omega
        · refine G_S (pc := 27) f_114_27 rfl rfl rfl ?_
          refine G_gR (pc := 28) f_114_28 (by decide) rfl (by first | assumption | exact hK.1 _ _ rfl) (by first | assumption | exact hK.2 _ _ _ rfl | (try dsimp only) <;> (repeat (first | exact up2_s | refine up2_o (by first | decide | omega) ?_)) <;> first | assumption | exact hK.2 _ _ _ rfl) ?_
          refine G_S (pc := 31) f_114_31 rfl rfl rfl ?_
          refine G_ic (v := zI (-1)) (pc := 32) f_114_32 (by decide) ?_
          refine G_isN (pc := 33) f_114_33 (by first | assumption | exact hK.1 _ _ rfl) (by omega) (by omega) ?_
          refine G_S (pc := 34) f_114_34 rfl rfl rfl ?_
          refine G_gR (pc := 35) f_114_35 (by decide) rfl (by first | assumption | exact hK.1 _ _ rfl) (by first | assumption | exact hK.2 _ _ _ rfl | (try dsimp only) <;> (repeat (first | exact up2_s | refine up2_o (by first | decide | omega) ?_)) <;> first | assumption | exact hK.2 _ _ _ rfl) ?_
          refine G_S (pc := 38) f_114_38 rfl rfl rfl ?_
          refine G_ic (v := zI (-1)) (pc := 39) f_114_39 (by decide) ?_
          refine G_isN (pc := 40) f_114_40 (by first | assumption | exact hK.1 _ _ rfl) (by omega) (by omega) ?_
          refine G_ic (v := nI 1) (pc := 41) f_114_41 (by decide) ?_
          refine G_rz (pc := 42) f_114_42 (by first | exact Or.inl rfl | exact Or.inr rfl | exact b2i_01 _ | assumption) ?_
          have hF : Fc TF M _ := (Fc.up (i := 81) (k := s) (x := zI (-1)) (by decide)).tr (Fc.up (i := 80) (k := r) (x := zI (-1)) (by decide))
          refine ⟨rfl, ⟨hF, (by (try dsimp only); exact up2_o (by omega) (by (try dsimp only); exact up2_o (by omega) rfl))⟩, W_.fc hF TFo, rl, ⟨?_, ?_, ?_, ?_⟩, fun i hi => (by (try dsimp only); exact up2_o (by omega) (by (try dsimp only); exact up2_o (by omega) (q1 i hi))), fun i hi => ?_, fun i hi => ?_, hO.of⟩
          · rw [ofS_lo (by omega)]
            exact (by (try dsimp only); exact up2_o (by omega) (by (try dsimp only); exact up2_o (by omega) s0))
          · rw [ofS_lo (by omega)]
            exact (by (try dsimp only); exact up2_o (by omega) (by (try dsimp only); exact up2_o (by omega) s1))
          · rw [ofS_lo (by omega)]
            exact (by (try dsimp only); exact up2_o (by omega) (by (try dsimp only); exact up2_o (by omega) s2))
          · rw [ofS_lo (by omega)]
            exact (by (try dsimp only); exact up2_o (by omega) (by (try dsimp only); exact up2_o (by omega) s3))
          · unfold ofS
            by_cases q : i = r
            · subst q
              rw [up1_s]
              exact (by (try dsimp only); exact up2_s)
            · rw [show up1 (up1 S (30 + (S (20 + r)).toNat) (-1)) (20 + r) (-1) (20 + i) = S (20 + i) from up1_o (by omega) (up1_o (by omega) rfl)]
              exact (by (try dsimp only); exact up2_o (by omega) (by (try dsimp only); exact up2_o (by omega) (q2 i hi)))
          · unfold ofS
            rw [hs1, Int.toNat_natCast]
            by_cases q : i = s
            · subst q
              rw [show up1 (up1 S (30 + i) (-1)) (20 + r) (-1) (30 + i) = -1 from up1_o (by omega) up1_s]
              exact (by (try dsimp only); exact up2_o (by omega) (by (try dsimp only); exact up2_s))
            · rw [show up1 (up1 S (30 + s) (-1)) (20 + r) (-1) (30 + i) = S (30 + i) from up1_o (by omega) (up1_o (by omega) rfl)]
              exact (by (try dsimp only); exact up2_o (by omega) (by (try dsimp only); exact up2_o (by omega) (q3 i hi)))
    · exact absurd ha b1
  · rw [if_neg ha, b2i_0 ha]
    refine CG_in (mL := 3) (hl := false) (lv := [some (.ref 78), some (.int (nI r)), none]) (ll := []) rfl rfl rfl ?_
    refine G_S (pc := 0) f_114_0 rfl rfl rfl ?_
    refine G_S (pc := 1) f_114_1 rfl rfl rfl ?_
    refine G_CV (pc := 2) f_114_2 rfl rfl (by decide) rfl rfl (by first | assumption | exact hK.1 _ _ rfl) (by decide) ⟨Nat.le_of_ble_eq_true rfl, Nat.le_of_ble_eq_true rfl⟩ ?_
    refine CG.go (t_isAboard W hr) ?_
    first | refine G_bNe (pc := 5) f_114_5 rfl (fun b1 => ?_) (fun b1 => ?_) | refine G_zneZ (pc := 5) f_114_5 rfl (by first | exact nI_toInt (by omega) | exact zI_toInt (by omega) (by omega) | rfl) (fun b1 => ?_) (fun b1 => ?_)
    · exact absurd b1 ha
    · refine G_ic (v := nI 0) (pc := 8) f_114_8 (by decide) ?_
      refine G_rz (pc := 9) f_114_9 (by first | exact Or.inl rfl | exact Or.inr rfl | exact b2i_01 _ | assumption) ?_
      exact ⟨rfl, Fk.rf, W⟩
theorem t_getOffX (W : TW M h D k S b) : CG C 114 [.ref 78, .int x] M (fun w M' => w = some (.int (b2i ((0 ≤ x.toInt ∧ x.toInt < (D 2 : Int)) ∧ abd S x.toInt.toNat = true))) ∧ Fk M M' ∧ TW M' h D k (if (0 ≤ x.toInt ∧ x.toInt < (D 2 : Int)) ∧ abd S x.toInt.toNat = true then ofS S x.toInt.toNat else S) b) := by
  have W_ := W.1
  have hK := W_.1
  obtain ⟨⟨t0, t1, t2, t3, t4, t5, t6⟩, r0, r3, r4, r6, r7, r8⟩ := W_.2.1
  obtain ⟨hD, ⟨v0, v1, v2⟩, vh, vr, vw, vf⟩ := W_.2.2.1
  have hs := W_.2.2.2.1
  have hh := W_.2.2.2.2
  have hn0 : _ ≤ 8 := hD.1
  have hn1 : _ ≤ 6 := hD.2.1.2
  have hn2 : _ ≤ 8 := hD.2.2.1
  obtain ⟨rl, ⟨s0, s1, s2, s3⟩, q1, q2, q3, hO⟩ := W.2
  obtain ⟨o0, o1, o2, o3, o4, o5, o6⟩ := hO
  by_cases hx : 0 ≤ x.toInt ∧ x.toInt < (D 2 : Int)
  · obtain ⟨r, hr, rfl⟩ := i_nat hx.1 hx.2
    refine CG.mono (t_getOff W hr) ?_
    rintro w M' ⟨rfl, hF, W'⟩
    rw [nI_toInt (by omega), Int.toNat_natCast]
    by_cases ha : abd S r = true
    · rw [if_pos ha] at W'
      rw [if_pos ⟨by omega, ha⟩, b2i_1 ha, b2i_1 ⟨by omega, ha⟩]
      exact ⟨rfl, hF, W'⟩
    · rw [if_neg ha] at W'
      rw [if_neg (fun q => ha q.2), b2i_0 ha, b2i_0 (fun q => ha q.2)]
      exact ⟨rfl, hF, W'⟩
  · rw [if_neg (fun q => hx q.1), b2i_0 (fun q => hx q.1)]
    refine CG_in (mL := 3) (hl := false) (lv := [some (.ref 78), some (.int x), none]) (ll := []) rfl rfl rfl ?_
    refine G_S (pc := 0) f_114_0 rfl rfl rfl ?_
    refine G_S (pc := 1) f_114_1 rfl rfl rfl ?_
    refine G_CV (pc := 2) f_114_2 rfl rfl (by decide) rfl rfl (by first | assumption | exact hK.1 _ _ rfl) (by decide) ⟨Nat.le_of_ble_eq_true rfl, Nat.le_of_ble_eq_true rfl⟩ ?_
    refine CG.go (t_isAboardX W) ?_
    first | refine G_bNe (pc := 5) f_114_5 rfl (fun b1 => ?_) (fun b1 => ?_) | refine G_zneZ (pc := 5) f_114_5 rfl (by first | exact nI_toInt (by omega) | exact zI_toInt (by omega) (by omega) | rfl) (fun b1 => ?_) (fun b1 => ?_)
    · exact absurd b1.1 hx
    · refine G_ic (v := nI 0) (pc := 8) f_114_8 (by decide) ?_
      refine G_rz (pc := 9) f_114_9 (by first | exact Or.inl rfl | exact Or.inr rfl | exact b2i_01 _ | assumption) ?_
      exact ⟨rfl, Fk.rf, W⟩
/-- ounces changed alone -/
theorem TW.oz {M1 : Mm} {b' : Nat → Nat} (W : TW M h D k S b) (hF : Fc [79] M M1) (hq : ∀ r, r < D 2 → M1.2.1 79 r = nI (b' r)) (hb : ∀ r, r < D 2 → b' r ≤ 99) : TW M1 h D k S b' := by
  obtain ⟨W_, rl, hs, q1, q2, q3, o0, o1, o2, o3, o4, o5, o6⟩ := W
  refine ⟨W_.fc hF (by decide), (hF.2.1 78 0 (Or.inl (by decide))).trans rl, ?_, hq, ?_, ?_, o0, o1, o2, o3, o4, fun r hr => ⟨(o5 r hr).1, hb r hr⟩, o6⟩
  · rw [(hF.2.2 78 (by decide)).1]
    exact hs
  · rw [(hF.2.2 80 (by decide)).1]
    exact q2
  · rw [(hF.2.2 81 (by decide)).1]
    exact q3
theorem t_add {n : Int} (W : TW M h D k S b) (hx : x = zI n) (h1 : -1000 ≤ n) (h2 : n ≤ 1000) : CG C 115 [.ref 78, .int x] M (fun w M' => w = none ∧ Fk M M' ∧ TW M' h D k S (adB S n b)) := by
  subst hx
  have hbb := W.2.2.2.2.2.2.2.2.2.2.2.1
  have loop : ∀ i, i ≤ D 2 → ∀ M1, Fc [79] M M1 → TW M1 h D k S (mx i (adB S n b) b) → G C 115 (2, [some (.ref 78), some (.int (zI n)), some (.int (nI i))], [], [], M1) (fun w M' => w = none ∧ Fk M M' ∧ TW M' h D k S (adB S n b)) := by
    refine upto (fun i hi ih M1 hF W1 => ?_)
    have W_ := W1.1
    have hK := W_.1
    obtain ⟨⟨t0, t1, t2, t3, t4, t5, t6⟩, r0, r3, r4, r6, r7, r8⟩ := W_.2.1
    obtain ⟨hD, ⟨v0, v1, v2⟩, vh, vr, vw, vf⟩ := W_.2.2.1
    have hs := W_.2.2.2.1
    have hh := W_.2.2.2.2
    have hn0 : _ ≤ 8 := hD.1
    have hn1 : _ ≤ 6 := hD.2.1.2
    have hn2 : _ ≤ 8 := hD.2.2.1
    obtain ⟨rl, ⟨s0, s1, s2, s3⟩, q1, q2, q3, hO⟩ := W1.2
    obtain ⟨o0, o1, o2, o3, o4, o5, o6⟩ := hO
    have hbi : i < D 2 → b i ≤ 99 := fun q => (hbb i q).2
    have q4 : i < D 2 → M1.2.1 79 i = nI (b i) := fun q => by rw [q1 i q, mx, if_neg (by omega)]
    have nxt : ∀ M2, i < D 2 → Fc [79] M1 M2 → (∀ r, r < D 2 → r ≠ i → M2.2.1 79 r = M1.2.1 79 r) → M2.2.1 79 i = nI (adB S n b i) → TW M2 h D k S (mx (i + 1) (adB S n b) b) := by
      intro M2 hi2 hF2 e1 e2
      refine W1.oz hF2 (fun r hr => ?_) (fun r hr => ?_)
      · by_cases q : r = i
        · subst q
          rw [e2, mx, if_pos (by omega)]
        · rw [e1 r hr q, q1 r hr]
          unfold mx
          by_cases q2 : r < i
          · rw [if_pos q2, if_pos (by omega)]
          · rw [if_neg q2, if_neg (by omega)]
      · have := (hbb r hr).2
        unfold mx adB
        split
        · split <;> omega
        · omega
    refine G_S (pc := 2) f_115_2 rfl rfl rfl ?_
    refine G_S (pc := 3) f_115_3 rfl rfl rfl ?_
    refine G_gR (pc := 4) f_115_4 (by decide) rfl (by first | assumption | exact hK.1 _ _ rfl) (by first | assumption | exact hK.2 _ _ _ rfl | (try dsimp only) <;> (repeat (first | exact up2_s | refine up2_o (by first | decide | omega) ?_)) <;> first | assumption | exact hK.2 _ _ _ rfl) ?_
    refine G_gIv (pc := 7) f_115_7 (by decide) rfl (by decide) (by first | assumption | exact hK.1 _ _ rfl) (by first | assumption | exact mI_s | ((refine mI_o (by first | decide | omega) ?_); (repeat (refine mI_o (by first | decide | omega) ?_)); first | exact mI_s | assumption) | rfl) ?_
    refine G_jgeZ (pc := 10) f_115_10 rfl (by first | exact nI_toInt (by omega) | exact zI_toInt (by omega) (by omega) | rfl) (by first | exact nI_toInt (by omega) | exact zI_toInt (by omega) (by omega) | rfl) (fun b1 => ?_) (fun b1 => ?_)
    · refine G_rv (pc := 47) f_115_47 ?_
      refine ⟨rfl, Fk.of hF, W1.oz Fc.rf (fun r hr => ?_) (fun r hr => ?_)⟩
      · rw [q1 r hr, mx, if_pos (by omega)]
      · have := (hbb r hr).2
        unfold adB
        split <;> omega
    · have hbi := hbi (by omega)
      have q4 := q4 (by omega)
      refine G_S (pc := 13) f_115_13 rfl rfl rfl ?_
      refine G_S (pc := 14) f_115_14 rfl rfl rfl ?_
      refine G_CV (pc := 15) f_115_15 rfl rfl (by decide) rfl rfl (by first | assumption | exact hK.1 _ _ rfl) (by decide) ⟨Nat.le_of_ble_eq_true rfl, Nat.le_of_ble_eq_true rfl⟩ ?_
      refine CG.go (t_isAboard W1 (by omega)) ?_
      first | refine G_bEq (pc := 18) f_115_18 rfl (fun b2 => ?_) (fun b2 => ?_) | refine G_zeqZ (pc := 18) f_115_18 rfl (by first | exact nI_toInt (by omega) | exact zI_toInt (by omega) (by omega) | rfl) (fun b2 => ?_) (fun b2 => ?_)
      · first | refine G_inc1 (pc := 41) f_115_41 rfl ?_ | refine G_S (pc := 41) f_115_41 rfl rfl rfl ?_
        refine G_S (pc := 44) f_115_44 rfl rfl rfl ?_
        first
          | (refine ih (by omega) M1 hF (nxt M1 (by omega) Fc.rf (fun _ _ _ => rfl) ?_)
             rw [q4, adB, if_neg b2])
          | (have hF3 : Fc [79] M1 _ := Fc.up (i := 79) (k := i) (x := nI (max 0 (min 99 ((b i : Int) + n))).toNat) (by decide)
             refine ih (by omega) _ (hF.tr hF3) (nxt _ (by omega) hF3 (fun r hr hne => (by (try dsimp only); exact up2_o (by omega) rfl)) ?_)
             rw [adB, if_pos b2]
             exact (by (try dsimp only); exact up2_s))
      · refine G_S (pc := 21) f_115_21 rfl rfl rfl ?_
        refine G_gR (pc := 22) f_115_22 (by decide) rfl (by first | assumption | exact hK.1 _ _ rfl) (by first | assumption | exact hK.2 _ _ _ rfl | (try dsimp only) <;> (repeat (first | exact up2_s | refine up2_o (by first | decide | omega) ?_)) <;> first | assumption | exact hK.2 _ _ _ rfl) ?_
        refine G_S (pc := 25) f_115_25 rfl rfl rfl ?_
        refine G_S (pc := 26) f_115_26 rfl rfl rfl ?_
        refine G_gR (pc := 27) f_115_27 (by decide) rfl (by first | assumption | exact hK.1 _ _ rfl) (by first | assumption | exact hK.2 _ _ _ rfl | (try dsimp only) <;> (repeat (first | exact up2_s | refine up2_o (by first | decide | omega) ?_)) <;> first | assumption | exact hK.2 _ _ _ rfl) ?_
        refine G_S (pc := 30) f_115_30 rfl rfl rfl ?_
        refine G_iaN (pc := 31) f_115_31 (by first | assumption | exact hK.1 _ _ rfl) (by omega) (by omega) (by first | exact q4 | rfl) ?_
        refine G_S (pc := 32) f_115_32 rfl rfl rfl ?_
        first | refine G_addN (pc := 33) f_115_33 ?_ | refine G_addZ (pc := 33) f_115_33 (by first | rfl | exact nI_zI _) (by first | rfl | exact nI_zI _) ?_ | refine G_S (pc := 33) f_115_33 rfl rfl rfl ?_
        refine G_ic (v := nI 0) (pc := 34) f_115_34 (by decide) ?_
        refine G_bi (v := nI 99) (pc := 35) f_115_35 (by decide) ?_
        refine G_CS (pc := 37) f_115_37 rfl rfl (by decide) rfl rfl ⟨Nat.le_of_ble_eq_true rfl, Nat.le_of_ble_eq_true rfl⟩ ?_
        refine CG.go (c_within (by omega) (by omega)) ?_
        refine G_isN (pc := 40) f_115_40 (by first | assumption | exact hK.1 _ _ rfl) (by omega) (by omega) ?_
        first | refine G_inc1 (pc := 41) f_115_41 rfl ?_ | refine G_S (pc := 41) f_115_41 rfl rfl rfl ?_
        refine G_S (pc := 44) f_115_44 rfl rfl rfl ?_
        first
          | (refine ih (by omega) M1 hF (nxt M1 (by omega) Fc.rf (fun _ _ _ => rfl) ?_)
             rw [q4, adB, if_neg b2])
          | (have hF3 : Fc [79] M1 _ := Fc.up (i := 79) (k := i) (x := nI (max 0 (min 99 ((b i : Int) + n))).toNat) (by decide)
             refine ih (by omega) _ (hF.tr hF3) (nxt _ (by omega) hF3 (fun r hr hne => (by (try dsimp only); exact up2_o (by omega) rfl)) ?_)
             rw [adB, if_pos b2]
             exact (by (try dsimp only); exact up2_s))
  have W_ := W.1
  have hK := W_.1
  obtain ⟨⟨t0, t1, t2, t3, t4, t5, t6⟩, r0, r3, r4, r6, r7, r8⟩ := W_.2.1
  obtain ⟨hD, ⟨v0, v1, v2⟩, vh, vr, vw, vf⟩ := W_.2.2.1
  have hs := W_.2.2.2.1
  have hh := W_.2.2.2.2
  have hn0 : _ ≤ 8 := hD.1
  have hn1 : _ ≤ 6 := hD.2.1.2
  have hn2 : _ ≤ 8 := hD.2.2.1
  obtain ⟨rl, ⟨s0, s1, s2, s3⟩, q1, q2, q3, hO⟩ := W.2
  obtain ⟨o0, o1, o2, o3, o4, o5, o6⟩ := hO
  refine CG_in (mL := 3) (hl := false) (lv := [some (.ref 78), some (.int (zI n)), none]) (ll := []) rfl rfl rfl ?_
  refine G_ic (v := nI 0) (pc := 0) f_115_0 (by decide) ?_
  refine G_S (pc := 1) f_115_1 rfl rfl rfl ?_
  exact loop 0 (Nat.zero_le _) M Fc.rf W
theorem t_pulls (W : TW M h D k S b) : CG C 126 [.ref 78] M (fun w M' => w = some (.int (nI (ptN D S b (D 2)))) ∧ M' = M) := by
  have W_ := W.1
  have hK := W_.1
  obtain ⟨⟨t0, t1, t2, t3, t4, t5, t6⟩, r0, r3, r4, r6, r7, r8⟩ := W_.2.1
  obtain ⟨hD, ⟨v0, v1, v2⟩, vh, vr, vw, vf⟩ := W_.2.2.1
  have hs := W_.2.2.2.1
  have hh := W_.2.2.2.2
  have hn0 : _ ≤ 8 := hD.1
  have hn1 : _ ≤ 6 := hD.2.1.2
  have hn2 : _ ≤ 8 := hD.2.2.1
  obtain ⟨rl, ⟨s0, s1, s2, s3⟩, q1, q2, q3, hO⟩ := W.2
  obtain ⟨o0, o1, o2, o3, o4, o5, o6⟩ := hO
  have loop : ∀ i, i ≤ D 2 → G C 126 (4, [some (.ref 78), some (.int (nI (ptN D S b i))), some (.int (nI i))], [], [], M) (fun w M' => w = some (.int (nI (ptN D S b (D 2)))) ∧ M' = M) := by
    refine upto (fun i hi ih => ?_)
    have hbi : i < D 2 → b i ≤ 99 := fun q => (o5 i q).2
    refine G_S (pc := 4) f_126_4 rfl rfl rfl ?_
    refine G_S (pc := 5) f_126_5 rfl rfl rfl ?_
    refine G_gR (pc := 6) f_126_6 (by decide) rfl (by first | assumption | exact hK.1 _ _ rfl) (by first | assumption | exact hK.2 _ _ _ rfl | (try dsimp only) <;> (repeat (first | exact up2_s | refine up2_o (by first | decide | omega) ?_)) <;> first | assumption | exact hK.2 _ _ _ rfl) ?_
    refine G_gIv (pc := 9) f_126_9 (by decide) rfl (by decide) (by first | assumption | exact hK.1 _ _ rfl) (by first | assumption | exact mI_s | ((refine mI_o (by first | decide | omega) ?_); (repeat (refine mI_o (by first | decide | omega) ?_)); first | exact mI_s | assumption) | rfl) ?_
    refine G_jgeZ (pc := 12) f_126_12 rfl (by first | exact nI_toInt (by omega) | exact zI_toInt (by omega) (by omega) | rfl) (by first | exact nI_toInt (by omega) | exact zI_toInt (by omega) (by omega) | rfl) (fun b1 => ?_) (fun b1 => ?_)
    · refine G_S (pc := 46) f_126_46 rfl rfl rfl ?_
      refine G_ri (pc := 47) f_126_47 ?_
      rw [show i = D 2 by omega]
      exact ⟨rfl, rfl⟩
    · have hbi := hbi (by omega)
      refine G_S (pc := 15) f_126_15 rfl rfl rfl ?_
      refine G_S (pc := 16) f_126_16 rfl rfl rfl ?_
      refine G_CV (pc := 17) f_126_17 rfl rfl (by decide) rfl rfl (by first | assumption | exact hK.1 _ _ rfl) (by decide) ⟨Nat.le_of_ble_eq_true rfl, Nat.le_of_ble_eq_true rfl⟩ ?_
      refine CG.go (t_isAboard W (by omega)) ?_
      first | refine G_bEq (pc := 20) f_126_20 rfl (fun b2 => ?_) (fun b2 => ?_) | refine G_zeqZ (pc := 20) f_126_20 rfl (by first | exact nI_toInt (by omega) | exact zI_toInt (by omega) (by omega) | rfl) (fun b2 => ?_) (fun b2 => ?_)
      · first | refine G_inc1 (pc := 40) f_126_40 rfl ?_ | refine G_S (pc := 40) f_126_40 rfl rfl rfl ?_
        refine G_S (pc := 43) f_126_43 rfl rfl rfl ?_
        have e := ih (by omega)
        first
          | (rw [ptN, if_pos b2] at e; exact e)
          | (rw [ptN, if_neg b2, Nat.add_zero] at e; exact e)
      · refine G_S (pc := 23) f_126_23 rfl rfl rfl ?_
        refine G_S (pc := 24) f_126_24 rfl rfl rfl ?_
        refine G_gR (pc := 25) f_126_25 (by decide) rfl (by first | assumption | exact hK.1 _ _ rfl) (by first | assumption | exact hK.2 _ _ _ rfl | (try dsimp only) <;> (repeat (first | exact up2_s | refine up2_o (by first | decide | omega) ?_)) <;> first | assumption | exact hK.2 _ _ _ rfl) ?_
        refine G_S (pc := 28) f_126_28 rfl rfl rfl ?_
        refine G_S (pc := 29) f_126_29 rfl rfl rfl ?_
        refine G_gR (pc := 30) f_126_30 (by decide) rfl (by first | assumption | exact hK.1 _ _ rfl) (by first | assumption | exact hK.2 _ _ _ rfl | (try dsimp only) <;> (repeat (first | exact up2_s | refine up2_o (by first | decide | omega) ?_)) <;> first | assumption | exact hK.2 _ _ _ rfl) ?_
        refine G_S (pc := 33) f_126_33 rfl rfl rfl ?_
        refine G_iaN (pc := 34) f_126_34 (by first | assumption | exact hK.1 _ _ rfl) (by omega) (by omega) (by first | assumption | exact q1 _ (by omega) | exact q2 _ (by omega) | exact q3 _ (by omega) | exact q4 _ (by omega) | exact q5 _ (by omega) | exact vh _ (by omega) | exact (vr _ (by omega)).1 | exact (vr _ (by omega)).2 | exact vw _ (by omega) | exact vf _ (by omega) (by omega) | exact mI_s | ((refine mI_o (by first | decide | omega) ?_); (repeat (refine mI_o (by first | decide | omega) ?_)); first | exact mI_s | assumption | exact q1 _ (by omega) | exact q2 _ (by omega) | exact q3 _ (by omega) | exact q4 _ (by omega) | exact q5 _ (by omega) | exact vh _ (by omega) | exact (vr _ (by omega)).1 | exact (vr _ (by omega)).2 | exact vw _ (by omega) | exact vf _ (by omega) (by omega)) | rfl) ?_
        refine G_CV (pc := 35) f_126_35 rfl rfl (by decide) rfl rfl (by first | assumption | exact hK.1 _ _ rfl) (by decide) ⟨Nat.le_of_ble_eq_true rfl, Nat.le_of_ble_eq_true rfl⟩ ?_
        refine CG.go (c_pullOf W_.2.1 W_.2.2.1 (by omega) (by omega)) ?_
        first | refine G_addN (pc := 38) f_126_38 ?_ | refine G_addZ (pc := 38) f_126_38 (by first | rfl | exact nI_zI _) (by first | rfl | exact nI_zI _) ?_ | refine G_S (pc := 38) f_126_38 rfl rfl rfl ?_
        refine G_S (pc := 39) f_126_39 rfl rfl rfl ?_
        first | refine G_inc1 (pc := 40) f_126_40 rfl ?_ | refine G_S (pc := 40) f_126_40 rfl rfl rfl ?_
        refine G_S (pc := 43) f_126_43 rfl rfl rfl ?_
        have e := ih (by omega)
        first
          | (rw [ptN, if_pos b2] at e; exact e)
          | (rw [ptN, if_neg b2, Nat.add_zero] at e; exact e)
  refine CG_in (mL := 3) (hl := false) (lv := [some (.ref 78), none, none]) (ll := []) rfl rfl rfl ?_
  refine G_ic (v := nI 0) (pc := 0) f_126_0 (by decide) ?_
  refine G_S (pc := 1) f_126_1 rfl rfl rfl ?_
  refine G_ic (v := nI 0) (pc := 2) f_126_2 (by decide) ?_
  refine G_S (pc := 3) f_126_3 rfl rfl rfl ?_
  exact loop 0 (Nat.zero_le _)
theorem t_smoke (W : TW M h D k S b) : CG C 128 [.ref 78] M (fun w M' => w = some (.int (nI (smN D S b (D 2)))) ∧ M' = M) := by
  have W_ := W.1
  have hK := W_.1
  obtain ⟨⟨t0, t1, t2, t3, t4, t5, t6⟩, r0, r3, r4, r6, r7, r8⟩ := W_.2.1
  obtain ⟨hD, ⟨v0, v1, v2⟩, vh, vr, vw, vf⟩ := W_.2.2.1
  have hs := W_.2.2.2.1
  have hh := W_.2.2.2.2
  have hn0 : _ ≤ 8 := hD.1
  have hn1 : _ ≤ 6 := hD.2.1.2
  have hn2 : _ ≤ 8 := hD.2.2.1
  obtain ⟨rl, ⟨s0, s1, s2, s3⟩, q1, q2, q3, hO⟩ := W.2
  obtain ⟨o0, o1, o2, o3, o4, o5, o6⟩ := hO
  have loop : ∀ i, i ≤ D 2 → G C 128 (4, [some (.ref 78), some (.int (nI (smN D S b i))), some (.int (nI i))], [], [], M) (fun w M' => w = some (.int (nI (smN D S b (D 2)))) ∧ M' = M) := by
    refine upto (fun i hi ih => ?_)
    have hki : i < D 2 → D (11 + i) ≤ 3 := fun q => hD.2.2.2.2.1 i (by omega)
    refine G_S (pc := 4) f_128_4 rfl rfl rfl ?_
    refine G_S (pc := 5) f_128_5 rfl rfl rfl ?_
    refine G_gR (pc := 6) f_128_6 (by decide) rfl (by first | assumption | exact hK.1 _ _ rfl) (by first | assumption | exact hK.2 _ _ _ rfl | (try dsimp only) <;> (repeat (first | exact up2_s | refine up2_o (by first | decide | omega) ?_)) <;> first | assumption | exact hK.2 _ _ _ rfl) ?_
    refine G_gIv (pc := 9) f_128_9 (by decide) rfl (by decide) (by first | assumption | exact hK.1 _ _ rfl) (by first | assumption | exact mI_s | ((refine mI_o (by first | decide | omega) ?_); (repeat (refine mI_o (by first | decide | omega) ?_)); first | exact mI_s | assumption) | rfl) ?_
    refine G_jgeZ (pc := 12) f_128_12 rfl (by first | exact nI_toInt (by omega) | exact zI_toInt (by omega) (by omega) | rfl) (by first | exact nI_toInt (by omega) | exact zI_toInt (by omega) (by omega) | rfl) (fun b1 => ?_) (fun b1 => ?_)
    · refine G_S (pc := 51) f_128_51 rfl rfl rfl ?_
      refine G_ri (pc := 52) f_128_52 ?_
      rw [show i = D 2 by omega]
      exact ⟨rfl, rfl⟩
    · have hki := hki (by omega)
      refine G_S (pc := 15) f_128_15 rfl rfl rfl ?_
      refine G_S (pc := 16) f_128_16 rfl rfl rfl ?_
      refine G_CV (pc := 17) f_128_17 rfl rfl (by decide) rfl rfl (by first | assumption | exact hK.1 _ _ rfl) (by decide) ⟨Nat.le_of_ble_eq_true rfl, Nat.le_of_ble_eq_true rfl⟩ ?_
      refine CG.go (t_isAboard W (by omega)) ?_
      first | refine G_bEq (pc := 20) f_128_20 rfl (fun b2 => ?_) (fun b2 => ?_) | refine G_zeqZ (pc := 20) f_128_20 rfl (by first | exact nI_toInt (by omega) | exact zI_toInt (by omega) (by omega) | rfl) (fun b2 => ?_) (fun b2 => ?_)
      · first | refine G_inc1 (pc := 45) f_128_45 rfl ?_ | refine G_S (pc := 45) f_128_45 rfl rfl rfl ?_
        refine G_S (pc := 48) f_128_48 rfl rfl rfl ?_
        have e := ih (by omega)
        first
          | (rw [smN, if_neg (fun q => b2 q.1), Nat.add_zero] at e; exact e)
          | (rw [smN, if_neg (fun q => absurd q.2 (by omega)), Nat.add_zero] at e; exact e)
          | (rw [smN, if_pos ⟨b2, by omega⟩] at e; exact e)
      · refine G_S (pc := 23) f_128_23 rfl rfl rfl ?_
        refine G_gR (pc := 24) f_128_24 (by decide) rfl (by first | assumption | exact hK.1 _ _ rfl) (by first | assumption | exact hK.2 _ _ _ rfl | (try dsimp only) <;> (repeat (first | exact up2_s | refine up2_o (by first | decide | omega) ?_)) <;> first | assumption | exact hK.2 _ _ _ rfl) ?_
        refine G_gR (pc := 27) f_128_27 (by decide) rfl (by first | assumption | exact hK.1 _ _ rfl) (by first | assumption | exact hK.2 _ _ _ rfl | (try dsimp only) <;> (repeat (first | exact up2_s | refine up2_o (by first | decide | omega) ?_)) <;> first | assumption | exact hK.2 _ _ _ rfl) ?_
        refine G_S (pc := 30) f_128_30 rfl rfl rfl ?_
        refine G_iaN (pc := 31) f_128_31 (by first | assumption | exact hK.1 _ _ rfl) (by omega) (by omega) (by first | assumption | exact q1 _ (by omega) | exact q2 _ (by omega) | exact q3 _ (by omega) | exact q4 _ (by omega) | exact q5 _ (by omega) | exact vh _ (by omega) | exact (vr _ (by omega)).1 | exact (vr _ (by omega)).2 | exact vw _ (by omega) | exact vf _ (by omega) (by omega) | exact mI_s | ((refine mI_o (by first | decide | omega) ?_); (repeat (refine mI_o (by first | decide | omega) ?_)); first | exact mI_s | assumption | exact q1 _ (by omega) | exact q2 _ (by omega) | exact q3 _ (by omega) | exact q4 _ (by omega) | exact q5 _ (by omega) | exact vh _ (by omega) | exact (vr _ (by omega)).1 | exact (vr _ (by omega)).2 | exact vw _ (by omega) | exact vf _ (by omega) (by omega)) | rfl) ?_
        refine G_ic (v := nI 3) (pc := 32) f_128_32 (by decide) ?_
        refine G_jneZ (pc := 33) f_128_33 rfl (by first | exact nI_toInt (by omega) | exact zI_toInt (by omega) (by omega) | rfl) (by first | exact nI_toInt (by omega) | exact zI_toInt (by omega) (by omega) | rfl) (fun b3 => ?_) (fun b3 => ?_)
        · first | refine G_inc1 (pc := 45) f_128_45 rfl ?_ | refine G_S (pc := 45) f_128_45 rfl rfl rfl ?_
          refine G_S (pc := 48) f_128_48 rfl rfl rfl ?_
          have e := ih (by omega)
          first
            | (rw [smN, if_neg (fun q => b2 q.1), Nat.add_zero] at e; exact e)
            | (rw [smN, if_neg (fun q => absurd q.2 (by omega)), Nat.add_zero] at e; exact e)
            | (rw [smN, if_pos ⟨b2, by omega⟩] at e; exact e)
        · refine G_S (pc := 36) f_128_36 rfl rfl rfl ?_
          refine G_S (pc := 37) f_128_37 rfl rfl rfl ?_
          refine G_gR (pc := 38) f_128_38 (by decide) rfl (by first | assumption | exact hK.1 _ _ rfl) (by first | assumption | exact hK.2 _ _ _ rfl | (try dsimp only) <;> (repeat (first | exact up2_s | refine up2_o (by first | decide | omega) ?_)) <;> first | assumption | exact hK.2 _ _ _ rfl) ?_
          refine G_S (pc := 41) f_128_41 rfl rfl rfl ?_
          refine G_iaN (pc := 42) f_128_42 (by first | assumption | exact hK.1 _ _ rfl) (by omega) (by omega) (by first | assumption | exact q1 _ (by omega) | exact q2 _ (by omega) | exact q3 _ (by omega) | exact q4 _ (by omega) | exact q5 _ (by omega) | exact vh _ (by omega) | exact (vr _ (by omega)).1 | exact (vr _ (by omega)).2 | exact vw _ (by omega) | exact vf _ (by omega) (by omega) | exact mI_s | ((refine mI_o (by first | decide | omega) ?_); (repeat (refine mI_o (by first | decide | omega) ?_)); first | exact mI_s | assumption | exact q1 _ (by omega) | exact q2 _ (by omega) | exact q3 _ (by omega) | exact q4 _ (by omega) | exact q5 _ (by omega) | exact vh _ (by omega) | exact (vr _ (by omega)).1 | exact (vr _ (by omega)).2 | exact vw _ (by omega) | exact vf _ (by omega) (by omega)) | rfl) ?_
          first | refine G_addN (pc := 43) f_128_43 ?_ | refine G_addZ (pc := 43) f_128_43 (by first | rfl | exact nI_zI _) (by first | rfl | exact nI_zI _) ?_ | refine G_S (pc := 43) f_128_43 rfl rfl rfl ?_
          refine G_S (pc := 44) f_128_44 rfl rfl rfl ?_
          first | refine G_inc1 (pc := 45) f_128_45 rfl ?_ | refine G_S (pc := 45) f_128_45 rfl rfl rfl ?_
          refine G_S (pc := 48) f_128_48 rfl rfl rfl ?_
          have e := ih (by omega)
          first
            | (rw [smN, if_neg (fun q => b2 q.1), Nat.add_zero] at e; exact e)
            | (rw [smN, if_neg (fun q => absurd q.2 (by omega)), Nat.add_zero] at e; exact e)
            | (rw [smN, if_pos ⟨b2, by omega⟩] at e; exact e)
  refine CG_in (mL := 3) (hl := false) (lv := [some (.ref 78), none, none]) (ll := []) rfl rfl rfl ?_
  refine G_ic (v := nI 0) (pc := 0) f_128_0 (by decide) ?_
  refine G_S (pc := 1) f_128_1 rfl rfl rfl ?_
  refine G_ic (v := nI 0) (pc := 2) f_128_2 (by decide) ?_
  refine G_S (pc := 3) f_128_3 rfl rfl rfl ?_
  exact loop 0 (Nat.zero_le _)
theorem t_aboard (W : TW M h D k S b) : CG C 127 [.ref 78] M (fun w M' => w = some (.int (nI (abN S (D 2)))) ∧ M' = M) := by
  have W_ := W.1
  have hK := W_.1
  obtain ⟨⟨t0, t1, t2, t3, t4, t5, t6⟩, r0, r3, r4, r6, r7, r8⟩ := W_.2.1
  obtain ⟨hD, ⟨v0, v1, v2⟩, vh, vr, vw, vf⟩ := W_.2.2.1
  have hs := W_.2.2.2.1
  have hh := W_.2.2.2.2
  have hn0 : _ ≤ 8 := hD.1
  have hn1 : _ ≤ 6 := hD.2.1.2
  have hn2 : _ ≤ 8 := hD.2.2.1
  obtain ⟨rl, ⟨s0, s1, s2, s3⟩, q1, q2, q3, hO⟩ := W.2
  obtain ⟨o0, o1, o2, o3, o4, o5, o6⟩ := hO
  have loop : ∀ i, i ≤ D 2 → G C 127 (4, [some (.ref 78), some (.int (nI (abN S i))), some (.int (nI i))], [], [], M) (fun w M' => w = some (.int (nI (abN S (D 2)))) ∧ M' = M) := by
    refine upto (fun i hi ih => ?_)
    refine G_S (pc := 4) f_127_4 rfl rfl rfl ?_
    refine G_S (pc := 5) f_127_5 rfl rfl rfl ?_
    refine G_gR (pc := 6) f_127_6 (by decide) rfl (by first | assumption | exact hK.1 _ _ rfl) (by first | assumption | exact hK.2 _ _ _ rfl | (try dsimp only) <;> (repeat (first | exact up2_s | refine up2_o (by first | decide | omega) ?_)) <;> first | assumption | exact hK.2 _ _ _ rfl) ?_
    refine G_gIv (pc := 9) f_127_9 (by decide) rfl (by decide) (by first | assumption | exact hK.1 _ _ rfl) (by first | assumption | exact mI_s | ((refine mI_o (by first | decide | omega) ?_); (repeat (refine mI_o (by first | decide | omega) ?_)); first | exact mI_s | assumption) | rfl) ?_
    refine G_jgeZ (pc := 12) f_127_12 rfl (by first | exact nI_toInt (by omega) | exact zI_toInt (by omega) (by omega) | rfl) (by first | exact nI_toInt (by omega) | exact zI_toInt (by omega) (by omega) | rfl) (fun b1 => ?_) (fun b1 => ?_)
    · refine G_S (pc := 35) f_127_35 rfl rfl rfl ?_
      refine G_ri (pc := 36) f_127_36 ?_
      rw [show i = D 2 by omega]
      exact ⟨rfl, rfl⟩
    · refine G_S (pc := 15) f_127_15 rfl rfl rfl ?_
      refine G_S (pc := 16) f_127_16 rfl rfl rfl ?_
      refine G_CV (pc := 17) f_127_17 rfl rfl (by decide) rfl rfl (by first | assumption | exact hK.1 _ _ rfl) (by decide) ⟨Nat.le_of_ble_eq_true rfl, Nat.le_of_ble_eq_true rfl⟩ ?_
      refine CG.go (t_isAboard W (by omega)) ?_
      first | refine G_bEq (pc := 20) f_127_20 rfl (fun b2 => ?_) (fun b2 => ?_) | refine G_zeqZ (pc := 20) f_127_20 rfl (by first | exact nI_toInt (by omega) | exact zI_toInt (by omega) (by omega) | rfl) (fun b2 => ?_) (fun b2 => ?_)
      · first | refine G_inc1 (pc := 29) f_127_29 rfl ?_ | refine G_S (pc := 29) f_127_29 rfl rfl rfl ?_
        refine G_S (pc := 32) f_127_32 rfl rfl rfl ?_
        have e := ih (by omega)
        first
          | (rw [abN, if_pos b2] at e; exact e)
          | (rw [abN, if_neg b2, Nat.or_zero] at e; exact e)
      · refine G_S (pc := 23) f_127_23 rfl rfl rfl ?_
        refine G_ic (v := nI 1) (pc := 24) f_127_24 (by decide) ?_
        refine G_S (pc := 25) f_127_25 rfl rfl rfl ?_
        first | refine G_shl1 (pc := 26) f_127_26 (by omega) ?_ | refine G_S (pc := 26) f_127_26 rfl rfl rfl ?_
        first | refine G_orN (pc := 27) f_127_27 ?_ | refine G_S (pc := 27) f_127_27 rfl rfl rfl ?_
        refine G_S (pc := 28) f_127_28 rfl rfl rfl ?_
        first | refine G_inc1 (pc := 29) f_127_29 rfl ?_ | refine G_S (pc := 29) f_127_29 rfl rfl rfl ?_
        refine G_S (pc := 32) f_127_32 rfl rfl rfl ?_
        have e := ih (by omega)
        first
          | (rw [abN, if_pos b2] at e; exact e)
          | (rw [abN, if_neg b2, Nat.or_zero] at e; exact e)
  refine CG_in (mL := 3) (hl := false) (lv := [some (.ref 78), none, none]) (ll := []) rfl rfl rfl ?_
  refine G_ic (v := nI 0) (pc := 0) f_127_0 (by decide) ?_
  refine G_S (pc := 1) f_127_1 rfl rfl rfl ?_
  refine G_ic (v := nI 0) (pc := 2) f_127_2 (by decide) ?_
  refine G_S (pc := 3) f_127_3 rfl rfl rfl ?_
  exact loop 0 (Nat.zero_le _)
end CTR
