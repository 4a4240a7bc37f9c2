/-! all that is told, at a place of the class's memory -/
def LQ (M M' : Mm) (h h' : Nat) : Prop := (M'.2.1 h 1 = M.2.1 h' 1 ∧ M'.2.1 h 2 = M.2.1 h' 2 ∧ M'.2.1 h 5 = M.2.1 h' 5) ∧ (∀ k, k < 8 → M'.2.1 (h + 1) k = M.2.1 (h' + 1) k) ∧ (∀ k, k < 8 → M'.2.1 (h + 2) k = M.2.1 (h' + 2) k ∧ M'.2.1 (h + 3) k = M.2.1 (h' + 3) k) ∧ (∀ k, k < 4 → M'.2.1 (h + 4) k = M.2.1 (h' + 4) k) ∧ ∀ k, k < 9 → M'.2.1 (h + 5) k = M.2.1 (h' + 5) k
def RQ (M M' : Mm) (h h' : Nat) : Prop := M'.2.1 h 3 = M.2.1 h' 3 ∧ (∀ k, k < 40 → M'.2.1 (h + 1) k = M.2.1 (h' + 1) k) ∧ (∀ k, k < 40 → M'.2.1 (h + 2) k = M.2.1 (h' + 2) k) ∧ ∀ k, k < 40 → M'.2.1 (h + 3) k = M.2.1 (h' + 3) k
def FQ (M M' : Mm) (h h' : Nat) : Prop := M'.2.1 h 0 = M.2.1 h' 0 ∧ ∀ k, k < 24 → M'.2.1 (h + 1) k = M.2.1 (h' + 1) k
def SQ (M M' : Mm) (h h' : Nat) : Prop := (M'.2.1 h 0 = M.2.1 h' 0 ∧ M'.2.1 h 1 = M.2.1 h' 1 ∧ M'.2.1 h 5 = M.2.1 h' 5 ∧ M'.2.1 h 6 = M.2.1 h' 6 ∧ M'.2.1 h 7 = M.2.1 h' 7) ∧ (∀ k, k < 10 → M'.2.1 (h + 1) k = M.2.1 (h' + 1) k) ∧ (∀ k, k < 10 → M'.2.1 (h + 2) k = M.2.1 (h' + 2) k) ∧ (∀ k, k < 10 → M'.2.1 (h + 3) k = M.2.1 (h' + 3) k) ∧ (∀ k, k < 4 → M'.2.1 (h + 4) k = M.2.1 (h' + 4) k) ∧ ∀ k, k < 4 → M'.2.1 (h + 5) k = M.2.1 (h' + 5) k
theorem LQ.cg {M M' N N' : Mm} {h h' : Nat} (q : LQ M M' h h') (e1 : ∀ j, j < 6 → N'.2.1 (h + j) = M'.2.1 (h + j)) (e2 : ∀ j, j < 6 → N.2.1 (h' + j) = M.2.1 (h' + j)) : LQ N N' h h' := by
  unfold LQ at q ⊢
  have a0 := e1 0 (by decide)
  have b0 := e2 0 (by decide)
  rw [Nat.add_zero] at a0 b0
  rw [a0, b0, e1 1 (by decide), e1 2 (by decide), e1 3 (by decide), e1 4 (by decide), e1 5 (by decide), e2 1 (by decide), e2 2 (by decide), e2 3 (by decide), e2 4 (by decide), e2 5 (by decide)]
  exact q
theorem RQ.cg {M M' N N' : Mm} {h h' : Nat} (q : RQ M M' h h') (e1 : ∀ j, j < 4 → N'.2.1 (h + j) = M'.2.1 (h + j)) (e2 : ∀ j, j < 4 → N.2.1 (h' + j) = M.2.1 (h' + j)) : RQ N N' h h' := by
  unfold RQ at q ⊢
  have a0 := e1 0 (by decide)
  have b0 := e2 0 (by decide)
  rw [Nat.add_zero] at a0 b0
  rw [a0, b0, e1 1 (by decide), e1 2 (by decide), e1 3 (by decide), e2 1 (by decide), e2 2 (by decide), e2 3 (by decide)]
  exact q
theorem FQ.cg {M M' N N' : Mm} {h h' : Nat} (q : FQ M M' h h') (e1 : ∀ j, j < 2 → N'.2.1 (h + j) = M'.2.1 (h + j)) (e2 : ∀ j, j < 2 → N.2.1 (h' + j) = M.2.1 (h' + j)) : FQ N N' h h' := by
  unfold FQ at q ⊢
  have a0 := e1 0 (by decide)
  have b0 := e2 0 (by decide)
  rw [Nat.add_zero] at a0 b0
  rw [a0, b0, e1 1 (by decide), e2 1 (by decide)]
  exact q
theorem SQ.cg {M M' N N' : Mm} {h h' : Nat} (q : SQ M M' h h') (e1 : ∀ j, j < 6 → N'.2.1 (h + j) = M'.2.1 (h + j)) (e2 : ∀ j, j < 6 → N.2.1 (h' + j) = M.2.1 (h' + j)) : SQ N N' h h' := by
  unfold SQ at q ⊢
  have a0 := e1 0 (by decide)
  have b0 := e2 0 (by decide)
  rw [Nat.add_zero] at a0 b0
  rw [a0, b0, e1 1 (by decide), e1 2 (by decide), e1 3 (by decide), e1 4 (by decide), e1 5 (by decide), e2 1 (by decide), e2 2 (by decide), e2 3 (by decide), e2 4 (by decide), e2 5 (by decide)]
  exact q
/-- one of two: what the objects from h on hold -/
def OQ (M M' : Mm) (h h' : Nat) : Prop := LQ M M' h h' ∧ RQ M M' (h + 7) (h' + 7) ∧ FQ M M' (h + 11) (h' + 11) ∧ SQ M M' (h + 16) (h' + 16)
theorem OQ.cg {M M' N N' : Mm} {h h' : Nat} (q : OQ M M' h h') (e1 : ∀ j, j < 22 → N'.2.1 (h + j) = M'.2.1 (h + j)) (e2 : ∀ j, j < 22 → N.2.1 (h' + j) = M.2.1 (h' + j)) : OQ N N' h h' := by
  unfold OQ LQ RQ FQ SQ at q ⊢
  simp only [Nat.add_assoc] at q ⊢
  have a0 := e1 0 (by decide)
  have b0 := e2 0 (by decide)
  rw [Nat.add_zero] at a0 b0
  rw [a0, b0, e1 1 (by decide), e1 2 (by decide), e1 3 (by decide), e1 4 (by decide), e1 5 (by decide), e1 7 (by decide), e1 (7 + 1) (by decide), e1 (7 + 2) (by decide), e1 (7 + 3) (by decide), e1 11 (by decide), e1 (11 + 1) (by decide), e1 16 (by decide), e1 (16 + 1) (by decide), e1 (16 + 2) (by decide), e1 (16 + 3) (by decide), e1 (16 + 4) (by decide), e1 (16 + 5) (by decide), e2 1 (by decide), e2 2 (by decide), e2 3 (by decide), e2 4 (by decide), e2 5 (by decide), e2 7 (by decide), e2 (7 + 1) (by decide), e2 (7 + 2) (by decide), e2 (7 + 3) (by decide), e2 11 (by decide), e2 (11 + 1) (by decide), e2 16 (by decide), e2 (16 + 1) (by decide), e2 (16 + 2) (by decide), e2 (16 + 3) (by decide), e2 (16 + 4) (by decide), e2 (16 + 5) (by decide)]
  exact q
/-- the places of a Told at b -/
def OT (M : Mm) (h : Nat) : Prop := LnT M h ∧ RT_ M (h + 7) ∧ FT_ M (h + 11) ∧ ST_ M (h + 16)
def BT (M : Mm) (b : Nat) : Prop := (M.1[b]? = some (8, 9) ∧ M.1[b + 1]? = some (51, 600) ∧ M.1[b + 2]? = some (50, 4) ∧ M.1[b + 3]? = some (54, 2) ∧ M.1[b + 4]? = some (55, 2) ∧ M.1[b + 5]? = some (56, 2) ∧ M.1[b + 6]? = some (57, 2)) ∧ (M.2.2.2 b 0 = some (b + 1) ∧ M.2.2.2 b 4 = some (b + 2) ∧ M.2.2.2 b 5 = some (b + 3) ∧ M.2.2.2 b 6 = some (b + 4) ∧ M.2.2.2 b 7 = some (b + 5) ∧ M.2.2.2 b 8 = some (b + 6)) ∧ ∀ l, l < 2 → (M.2.2.2 (b + 3) l = some (b + 7 + 22 * l) ∧ M.2.2.2 (b + 4) l = some (b + 7 + 22 * l + 7) ∧ M.2.2.2 (b + 5) l = some (b + 7 + 22 * l + 11) ∧ M.2.2.2 (b + 6) l = some (b + 7 + 22 * l + 16)) ∧ OT M (b + 7 + 22 * l)
theorem OT.sm {M M' : Mm} {h : Nat} (q : OT M h) (e1 : M'.1 = M.1) (e2 : M'.2.2.2 = M.2.2.2) : OT M' h := by
  unfold OT LnT RT_ FT_ ST_ at q ⊢
  rw [e1, e2]
  exact q
theorem BT.sm {M M' : Mm} {b : Nat} (q : BT M b) (e1 : M'.1 = M.1) (e2 : M'.2.2.2 = M.2.2.2) : BT M' b := by
  obtain ⟨q1, q2, q3⟩ := q
  refine ⟨by rw [e1]; exact q1, by rw [e2]; exact q2, fun l hl => ⟨by rw [e2]; exact (q3 l hl).1, (q3 l hl).2.sm e1 e2⟩⟩
theorem BT_1 {M : Mm} (hK : KM M.1 M.2.2.2) : BT M 1 := by
  refine ⟨⟨hK.1 1 _ rfl, hK.1 2 _ rfl, hK.1 3 _ rfl, hK.1 4 _ rfl, hK.1 5 _ rfl, hK.1 6 _ rfl, hK.1 7 _ rfl⟩, ⟨hK.2 1 0 _ rfl, hK.2 1 4 _ rfl, hK.2 1 5 _ rfl, hK.2 1 6 _ rfl, hK.2 1 7 _ rfl, hK.2 1 8 _ rfl⟩, fun l hl => ?_⟩
  rcases (show l = 0 ∨ l = 1 by omega) with rfl | rfl
  · refine ⟨⟨hK.2 4 0 _ rfl, hK.2 5 0 _ rfl, hK.2 6 0 _ rfl, hK.2 7 0 _ rfl⟩, ⟨⟨hK.1 8 _ rfl, hK.1 9 _ rfl, hK.1 10 _ rfl, hK.1 11 _ rfl, hK.1 12 _ rfl, hK.1 13 _ rfl, hK.1 14 _ rfl⟩, hK.2 8 0 _ rfl, hK.2 8 3 _ rfl, hK.2 8 4 _ rfl, hK.2 8 6 _ rfl, hK.2 8 7 _ rfl, hK.2 8 8 _ rfl⟩, ⟨⟨hK.1 15 _ rfl, hK.1 16 _ rfl, hK.1 17 _ rfl, hK.1 18 _ rfl⟩, hK.2 15 0 _ rfl, hK.2 15 1 _ rfl, hK.2 15 2 _ rfl⟩, ⟨⟨hK.1 19 _ rfl, hK.1 20 _ rfl, hK.1 21 _ rfl, hK.1 22 _ rfl, hK.1 23 _ rfl⟩, hK.2 19 1 _ rfl, hK.2 19 2 _ rfl, hK.2 19 3 _ rfl, hK.2 19 4 _ rfl⟩, ⟨hK.1 24 _ rfl, hK.1 25 _ rfl, hK.1 26 _ rfl, hK.1 27 _ rfl, hK.1 28 _ rfl, hK.1 29 _ rfl⟩, hK.2 24 2 _ rfl, hK.2 24 3 _ rfl, hK.2 24 4 _ rfl, hK.2 24 8 _ rfl, hK.2 24 9 _ rfl⟩
  · refine ⟨⟨hK.2 4 1 _ rfl, hK.2 5 1 _ rfl, hK.2 6 1 _ rfl, hK.2 7 1 _ rfl⟩, ⟨⟨hK.1 30 _ rfl, hK.1 31 _ rfl, hK.1 32 _ rfl, hK.1 33 _ rfl, hK.1 34 _ rfl, hK.1 35 _ rfl, hK.1 36 _ rfl⟩, hK.2 30 0 _ rfl, hK.2 30 3 _ rfl, hK.2 30 4 _ rfl, hK.2 30 6 _ rfl, hK.2 30 7 _ rfl, hK.2 30 8 _ rfl⟩, ⟨⟨hK.1 37 _ rfl, hK.1 38 _ rfl, hK.1 39 _ rfl, hK.1 40 _ rfl⟩, hK.2 37 0 _ rfl, hK.2 37 1 _ rfl, hK.2 37 2 _ rfl⟩, ⟨⟨hK.1 41 _ rfl, hK.1 42 _ rfl, hK.1 43 _ rfl, hK.1 44 _ rfl, hK.1 45 _ rfl⟩, hK.2 41 1 _ rfl, hK.2 41 2 _ rfl, hK.2 41 3 _ rfl, hK.2 41 4 _ rfl⟩, ⟨hK.1 46 _ rfl, hK.1 47 _ rfl, hK.1 48 _ rfl, hK.1 49 _ rfl, hK.1 50 _ rfl, hK.1 51 _ rfl⟩, hK.2 46 2 _ rfl, hK.2 46 3 _ rfl, hK.2 46 4 _ rfl, hK.2 46 8 _ rfl, hK.2 46 9 _ rfl⟩
/-- a frame: the Told at b alone changes -/
def FoB (b : Nat) (M M' : Mm) : Prop := (M'.1 = M.1 ∧ M'.2.2.2 = M.2.2.2) ∧ ∀ i, i < b ∨ b + 50 < i → M'.2.1 i = M.2.1 i ∧ M'.2.2.1 i = M.2.2.1 i
theorem FoB.rf {b : Nat} {M : Mm} : FoB b M M := ⟨⟨rfl, rfl⟩, fun _ _ => ⟨rfl, rfl⟩⟩
theorem FoB.tr {b : Nat} {M M1 M2 : Mm} (h1 : FoB b M M1) (h2 : FoB b M1 M2) : FoB b M M2 := ⟨⟨h2.1.1.trans h1.1.1, h2.1.2.trans h1.1.2⟩, fun i hi => ⟨(h2.2 i hi).1.trans (h1.2 i hi).1, (h2.2 i hi).2.trans (h1.2 i hi).2⟩⟩
theorem Fo.B {os : List Nat} {b : Nat} {M M' : Mm} (h : Fo os M M') (ho : ∀ i, i ∈ os → b ≤ i ∧ i ≤ b + 50) : FoB b M M' := ⟨h.1, fun i hi => h.2 i (fun q => by have := ho i q; omega)⟩
/-- alike in two places -/
def BQ (M M' : Mm) (b b' i : Nat) : Prop := (M'.2.1 b 1 = M.2.1 b' 1 ∧ M'.2.1 b 2 = M.2.1 b' 2 ∧ M'.2.1 b 3 = M.2.1 b' 3) ∧ (∀ k, k < 600 → M'.2.1 (b + 1) k = M.2.1 (b' + 1) k) ∧ (∀ k, k < 4 → M'.2.1 (b + 2) k = M.2.1 (b' + 2) k) ∧ ∀ l, l < i → OQ M M' (b + 7 + 22 * l) (b' + 7 + 22 * l)
section CTC
variable {C : Ct} {M : Mm} {b b' : Nat}
/-- the two of a number copied -/
theorem c_toldCopy (B : BT M b) (B' : BT M b') (sep : b + 50 < b' ∨ b' + 50 < b) (hb : b < 900000 ∧ b' < 900000) (hj : ∀ l, l < 2 → M.2.1 (b' + 7 + 22 * l + 16) 5 = 0 ∨ M.2.1 (b' + 7 + 22 * l + 16) 5 = 1) : CG C 104 [.ref b, .ref (b')] M (fun w M' => w = none ∧ FoB b M M' ∧ BQ M M' b b' 2) := by
  have loop : ∀ i, i ≤ 2 → ∀ M1, FoB b M M1 → BQ M M1 b b' i → G C 104 (53, [some (.ref b), some (.ref (b')), some (.int (nI i))], [], [], M1) (fun w M' => w = none ∧ FoB b M M' ∧ BQ M M' b b' 2) := by
    refine upto (fun i hi ih M1 hF hQ => ?_)
    by_cases h2 : i < 2
    · obtain ⟨⟨t0, t1, t2, t3, t4, t5, t6⟩, ⟨r0, r4, r5, r6, r7, r8⟩, bo⟩ := B.sm hF.1.1 hF.1.2
      obtain ⟨⟨t0', t1', t2', t3', t4', t5', t6'⟩, ⟨r0', r4', r5', r6', r7', r8'⟩, bo'⟩ := B'.sm hF.1.1 hF.1.2
      obtain ⟨⟨q3, q4, q5, q6⟩, oL, oR, oF, oS⟩ := bo i h2
      obtain ⟨⟨q3', q4', q5', q6'⟩, oL', oR', oF', oS'⟩ := bo' i h2
      have hj' : M1.2.1 (b' + 7 + 22 * i + 16) 5 = 0 ∨ M1.2.1 (b' + 7 + 22 * i + 16) 5 = 1 := by
        rw [(hF.2 _ (by omega)).1]
        exact hj i h2
      have l0 := oL.1.1
      have l0' := oL'.1.1
      have m0 := oR.1.1
      have m0' := oR'.1.1
      have n0 := oF.1.1
      have n0' := oF'.1.1
      have s0 := oS.1.1
      have s0' := oS'.1.1
      refine G_S (pc := 53) f_104_53 rfl rfl rfl ?_
      refine G_ic (v := nI 2) (pc := 54) f_104_54 (by decide) ?_
      refine G_jgeZ (pc := 55) f_104_55 rfl (by first | exact nI_toInt (by omega) | exact zI_toInt (by omega) (by omega) | rfl) (by first | exact nI_toInt (by omega) | exact zI_toInt (by omega) (by omega) | rfl) (fun b1 => ?_) (fun b1 => ?_)
      · exfalso; omega
      · refine G_S (pc := 58) f_104_58 rfl rfl rfl ?_
        refine G_gR (pc := 59) f_104_59 (by decide) rfl (by first | assumption | exact hK.1 _ _ rfl) (by first | assumption | exact hK.2 _ _ _ rfl | (try dsimp only) <;> (repeat (first | exact up2_s | refine up2_o (by first | decide | omega) ?_)) <;> first | assumption | exact hK.2 _ _ _ rfl) ?_
        refine G_S (pc := 62) f_104_62 rfl rfl rfl ?_
        refine G_aaN2 (pc := 63) f_104_63 (by first | assumption | exact hK.1 _ _ rfl) (by decide) (by omega) (by omega) (by first | exact q3 | assumption) ?_
        refine G_S (pc := 64) f_104_64 rfl rfl rfl ?_
        refine G_gR (pc := 65) f_104_65 (by decide) rfl (by first | assumption | exact hK.1 _ _ rfl) (by first | assumption | exact hK.2 _ _ _ rfl | (try dsimp only) <;> (repeat (first | exact up2_s | refine up2_o (by first | decide | omega) ?_)) <;> first | assumption | exact hK.2 _ _ _ rfl) ?_
        refine G_S (pc := 68) f_104_68 rfl rfl rfl ?_
        refine G_aaN2 (pc := 69) f_104_69 (by first | assumption | exact hK.1 _ _ rfl) (by decide) (by omega) (by omega) (by first | exact q3' | assumption) ?_
        refine G_CV (pc := 70) f_104_70 rfl rfl (by decide) rfl rfl (by first | assumption | exact hK.1 _ _ rfl) (by decide) ⟨Nat.le_of_ble_eq_true rfl, Nat.le_of_ble_eq_true rfl⟩ ?_
        refine CG.mono (c_lineCopyR oL oL' (by omega) (by omega) rfl rfl rfl) ?_
        rintro _ M2 ⟨rfl, hF2, x2⟩
        have e21 := hF2.1.1
        have e22 := hF2.1.2
        rw [← e21] at t0 t4 t5 t6 t0' t4' t5' t6' m0 m0' n0 n0' s0 s0'
        rw [← e22] at r6 r7 r8 r6' r7' r8' q4 q5 q6 q4' q5' q6'
        have oR := (show OT M1 _ from ⟨oL, oR, oF, oS⟩).sm e21 e22
        have oR' := (show OT M1 _ from ⟨oL', oR', oF', oS'⟩).sm e21 e22
        refine G_S (pc := 73) f_104_73 rfl rfl rfl ?_
        refine G_gR (pc := 74) f_104_74 (by decide) rfl (by first | assumption | exact hK.1 _ _ rfl) (by first | assumption | exact hK.2 _ _ _ rfl | (try dsimp only) <;> (repeat (first | exact up2_s | refine up2_o (by first | decide | omega) ?_)) <;> first | assumption | exact hK.2 _ _ _ rfl) ?_
        refine G_S (pc := 77) f_104_77 rfl rfl rfl ?_
        refine G_aaN2 (pc := 78) f_104_78 (by first | assumption | exact hK.1 _ _ rfl) (by decide) (by omega) (by omega) (by first | exact q4 | assumption) ?_
        refine G_S (pc := 79) f_104_79 rfl rfl rfl ?_
        refine G_gR (pc := 80) f_104_80 (by decide) rfl (by first | assumption | exact hK.1 _ _ rfl) (by first | assumption | exact hK.2 _ _ _ rfl | (try dsimp only) <;> (repeat (first | exact up2_s | refine up2_o (by first | decide | omega) ?_)) <;> first | assumption | exact hK.2 _ _ _ rfl) ?_
        refine G_S (pc := 83) f_104_83 rfl rfl rfl ?_
        refine G_aaN2 (pc := 84) f_104_84 (by first | assumption | exact hK.1 _ _ rfl) (by decide) (by omega) (by omega) (by first | exact q4' | assumption) ?_
        refine G_CV (pc := 85) f_104_85 rfl rfl (by decide) rfl rfl (by first | assumption | exact hK.1 _ _ rfl) (by decide) ⟨Nat.le_of_ble_eq_true rfl, Nat.le_of_ble_eq_true rfl⟩ ?_
        refine CG.mono (c_rideCopyR oR.2.1 oR'.2.1 (by omega) (by omega) rfl) ?_
        rintro _ M3 ⟨rfl, hF3, x3⟩
        have e31 := hF3.1.1
        have e32 := hF3.1.2
        rw [← e31] at t0 t5 t6 t0' t5' t6' n0 n0' s0 s0'
        rw [← e32] at r7 r8 r7' r8' q5 q6 q5' q6'
        have oF := oR.sm e31 e32
        have oF' := oR'.sm e31 e32
        refine G_S (pc := 88) f_104_88 rfl rfl rfl ?_
        refine G_gR (pc := 89) f_104_89 (by decide) rfl (by first | assumption | exact hK.1 _ _ rfl) (by first | assumption | exact hK.2 _ _ _ rfl | (try dsimp only) <;> (repeat (first | exact up2_s | refine up2_o (by first | decide | omega) ?_)) <;> first | assumption | exact hK.2 _ _ _ rfl) ?_
        refine G_S (pc := 92) f_104_92 rfl rfl rfl ?_
        refine G_aaN2 (pc := 93) f_104_93 (by first | assumption | exact hK.1 _ _ rfl) (by decide) (by omega) (by omega) (by first | exact q5 | assumption) ?_
        refine G_S (pc := 94) f_104_94 rfl rfl rfl ?_
        refine G_gR (pc := 95) f_104_95 (by decide) rfl (by first | assumption | exact hK.1 _ _ rfl) (by first | assumption | exact hK.2 _ _ _ rfl | (try dsimp only) <;> (repeat (first | exact up2_s | refine up2_o (by first | decide | omega) ?_)) <;> first | assumption | exact hK.2 _ _ _ rfl) ?_
        refine G_S (pc := 98) f_104_98 rfl rfl rfl ?_
        refine G_aaN2 (pc := 99) f_104_99 (by first | assumption | exact hK.1 _ _ rfl) (by decide) (by omega) (by omega) (by first | exact q5' | assumption) ?_
        refine G_CV (pc := 100) f_104_100 rfl rfl (by decide) rfl rfl (by first | assumption | exact hK.1 _ _ rfl) (by decide) ⟨Nat.le_of_ble_eq_true rfl, Nat.le_of_ble_eq_true rfl⟩ ?_
        refine CG.mono (c_flowCopyR oF.2.2.1 oF'.2.2.1 (by omega) (by omega) rfl) ?_
        rintro _ M4 ⟨rfl, hF4, x4⟩
        have e41 := hF4.1.1
        have e42 := hF4.1.2
        rw [← e41] at t0 t6 t0' t6' s0 s0'
        rw [← e42] at r8 r8' q6 q6'
        have oS := oF.sm e41 e42
        have oS' := oF'.sm e41 e42
        have n2 : ∀ j, j < 22 → M2.2.1 (b' + 7 + 22 * i + j) = M1.2.1 (b' + 7 + 22 * i + j) := fun j hj => (hF2.2 _ (by simp; omega)).1
        have n3 : ∀ j, j < 22 → M3.2.1 (b' + 7 + 22 * i + j) = M2.2.1 (b' + 7 + 22 * i + j) := fun j hj => (hF3.2 _ (by simp; omega)).1
        have n4 : ∀ j, j < 22 → M4.2.1 (b' + 7 + 22 * i + j) = M3.2.1 (b' + 7 + 22 * i + j) := fun j hj => (hF4.2 _ (by simp; omega)).1
        have hj4 : M4.2.1 (b' + 7 + 22 * i + 16) 5 = 0 ∨ M4.2.1 (b' + 7 + 22 * i + 16) 5 = 1 := by
          rw [n4 16 (by decide), n3 16 (by decide), n2 16 (by decide)]
          exact hj'
        refine G_S (pc := 103) f_104_103 rfl rfl rfl ?_
        refine G_gR (pc := 104) f_104_104 (by decide) rfl (by first | assumption | exact hK.1 _ _ rfl) (by first | assumption | exact hK.2 _ _ _ rfl | (try dsimp only) <;> (repeat (first | exact up2_s | refine up2_o (by first | decide | omega) ?_)) <;> first | assumption | exact hK.2 _ _ _ rfl) ?_
        refine G_S (pc := 107) f_104_107 rfl rfl rfl ?_
        refine G_aaN2 (pc := 108) f_104_108 (by first | assumption | exact hK.1 _ _ rfl) (by decide) (by omega) (by omega) (by first | exact q6 | assumption) ?_
        refine G_S (pc := 109) f_104_109 rfl rfl rfl ?_
        refine G_gR (pc := 110) f_104_110 (by decide) rfl (by first | assumption | exact hK.1 _ _ rfl) (by first | assumption | exact hK.2 _ _ _ rfl | (try dsimp only) <;> (repeat (first | exact up2_s | refine up2_o (by first | decide | omega) ?_)) <;> first | assumption | exact hK.2 _ _ _ rfl) ?_
        refine G_S (pc := 113) f_104_113 rfl rfl rfl ?_
        refine G_aaN2 (pc := 114) f_104_114 (by first | assumption | exact hK.1 _ _ rfl) (by decide) (by omega) (by omega) (by first | exact q6' | assumption) ?_
        refine G_CV (pc := 115) f_104_115 rfl rfl (by decide) rfl rfl (by first | assumption | exact hK.1 _ _ rfl) (by decide) ⟨Nat.le_of_ble_eq_true rfl, Nat.le_of_ble_eq_true rfl⟩ ?_
        refine CG.mono (c_sightCopyR oS.2.2.2 oS'.2.2.2 (by omega) (by omega) rfl rfl rfl hj4) ?_
        rintro _ M5 ⟨rfl, hF5, x5⟩
        first | refine G_inc1 (pc := 118) f_104_118 rfl ?_ | refine G_S (pc := 118) f_104_118 rfl rfl rfl ?_
        refine G_S (pc := 121) f_104_121 rfl rfl rfl ?_
        have g2 : ∀ j, (j < b + 7 + 22 * i ∨ b + 7 + 22 * i + 21 < j) → M2.2.1 j = M1.2.1 j := fun j hj => (hF2.2 _ (by simp; omega)).1
        have g3 : ∀ j, (j < b + 7 + 22 * i ∨ b + 7 + 22 * i + 21 < j) → M3.2.1 j = M2.2.1 j := fun j hj => (hF3.2 _ (by simp; omega)).1
        have g4 : ∀ j, (j < b + 7 + 22 * i ∨ b + 7 + 22 * i + 21 < j) → M4.2.1 j = M3.2.1 j := fun j hj => (hF4.2 _ (by simp; omega)).1
        have g5 : ∀ j, (j < b + 7 + 22 * i ∨ b + 7 + 22 * i + 21 < j) → M5.2.1 j = M4.2.1 j := fun j hj => (hF5.2 _ (by simp; omega)).1
        have g : ∀ j, (j < b + 7 + 22 * i ∨ b + 7 + 22 * i + 21 < j) → M5.2.1 j = M1.2.1 j := fun j hj => by rw [g5 j hj, g4 j hj, g3 j hj, g2 j hj]
        have f2 : FoB b M1 M2 := hF2.B (fun j hj => by simp at hj; omega)
        have f3 : FoB b M2 M3 := hF3.B (fun j hj => by simp at hj; omega)
        have f4 : FoB b M3 M4 := hF4.B (fun j hj => by simp at hj; omega)
        have f5 : FoB b M4 M5 := hF5.B (fun j hj => by simp at hj; omega)
        have hs : ∀ j, j < 22 → M1.2.1 (b' + 7 + 22 * i + j) = M.2.1 (b' + 7 + 22 * i + j) := fun j hj => (hF.2 _ (by omega)).1
        obtain ⟨⟨y1, y2, y3⟩, yt, yc, yo⟩ := hQ
        refine ih h2 M5 (hF.tr (f2.tr (f3.tr (f4.tr f5)))) ⟨⟨by rw [g b (by omega)]; exact y1, by rw [g b (by omega)]; exact y2, by rw [g b (by omega)]; exact y3⟩, fun k hk => by rw [g (b + 1) (by omega)]; exact yt k hk, fun k hk => by rw [g (b + 2) (by omega)]; exact yc k hk, fun l hl => ?_⟩
        by_cases hli : l < i
        · exact (yo l hli).cg (fun j hj => g _ (by omega)) (fun j hj => rfl)
        · obtain rfl : l = i := by omega
          have a2 : ∀ j, j < 6 → M5.2.1 (b + 7 + 22 * l + j) = M2.2.1 (b + 7 + 22 * l + j) := fun j hj => by rw [(hF5.2 _ (by simp; omega)).1, (hF4.2 _ (by simp; omega)).1, (hF3.2 _ (by simp; omega)).1]
          have a3 : ∀ j, j < 4 → M5.2.1 (b + 7 + 22 * l + 7 + j) = M3.2.1 (b + 7 + 22 * l + 7 + j) := fun j hj => by rw [(hF5.2 _ (by simp; omega)).1, (hF4.2 _ (by simp; omega)).1]
          have a4 : ∀ j, j < 2 → M5.2.1 (b + 7 + 22 * l + 11 + j) = M4.2.1 (b + 7 + 22 * l + 11 + j) := fun j hj => by rw [(hF5.2 _ (by simp; omega)).1]
          have c3 : ∀ j, j < 22 → M2.2.1 (b' + 7 + 22 * l + j) = M.2.1 (b' + 7 + 22 * l + j) := fun j hj => (n2 j hj).trans (hs j hj)
          have c4 : ∀ j, j < 22 → M3.2.1 (b' + 7 + 22 * l + j) = M.2.1 (b' + 7 + 22 * l + j) := fun j hj => (n3 j hj).trans (c3 j hj)
          have c5 : ∀ j, j < 22 → M4.2.1 (b' + 7 + 22 * l + j) = M.2.1 (b' + 7 + 22 * l + j) := fun j hj => (n4 j hj).trans (c4 j hj)
          exact ⟨LQ.cg x2 a2 (fun j hj => (hs j (by omega)).symm), RQ.cg x3 a3 (fun j hj => by rw [Nat.add_assoc]; exact (c3 (7 + j) (by omega)).symm), FQ.cg x4 a4 (fun j hj => by rw [Nat.add_assoc]; exact (c4 (11 + j) (by omega)).symm), SQ.cg x5 (fun j hj => rfl) (fun j hj => by rw [Nat.add_assoc]; exact (c5 (16 + j) (by omega)).symm)⟩
    · refine G_S (pc := 53) f_104_53 rfl rfl rfl ?_
      refine G_ic (v := nI 2) (pc := 54) f_104_54 (by decide) ?_
      refine G_jgeZ (pc := 55) f_104_55 rfl (by first | exact nI_toInt (by omega) | exact zI_toInt (by omega) (by omega) | rfl) (by first | exact nI_toInt (by omega) | exact zI_toInt (by omega) (by omega) | rfl) (fun b1 => ?_) (fun b1 => ?_)
      · refine G_rv (pc := 124) f_104_124 ?_
        rw [show i = 2 by omega] at hQ
        exact ⟨rfl, hF, hQ⟩
      · exfalso; omega
  obtain ⟨⟨t0, t1, t2, t3, t4, t5, t6⟩, ⟨r0, r4, r5, r6, r7, r8⟩, bo⟩ := id B
  obtain ⟨⟨t0', t1', t2', t3', t4', t5', t6'⟩, ⟨r0', r4', r5', r6', r7', r8'⟩, bo'⟩ := id B'
  have e : (600 : Int32).toNatClampNeg = 600 := by decide
  have z : (0 : Int32).toNatClampNeg = 0 := by decide
  refine CG_in (mL := 3) (hl := false) (lv := [some (.ref b), some (.ref (b')), none]) (ll := []) rfl rfl rfl ?_
  refine G_S (pc := 0) f_104_0 rfl rfl rfl ?_
  refine G_gR (pc := 1) f_104_1 (by decide) rfl (by first | assumption | exact hK.1 _ _ rfl) (by first | assumption | exact hK.2 _ _ _ rfl | (try dsimp only) <;> (repeat (first | exact up2_s | refine up2_o (by first | decide | omega) ?_)) <;> first | assumption | exact hK.2 _ _ _ rfl) ?_
  refine G_ic (v := nI 0) (pc := 4) f_104_4 (by decide) ?_
  refine G_S (pc := 5) f_104_5 rfl rfl rfl ?_
  refine G_gR (pc := 6) f_104_6 (by decide) rfl (by first | assumption | exact hK.1 _ _ rfl) (by first | assumption | exact hK.2 _ _ _ rfl | (try dsimp only) <;> (repeat (first | exact up2_s | refine up2_o (by first | decide | omega) ?_)) <;> first | assumption | exact hK.2 _ _ _ rfl) ?_
  refine G_ic (v := nI 0) (pc := 9) f_104_9 (by decide) ?_
  refine G_si (v := nI 600) (pc := 10) f_104_10 (by decide) ?_
  refine G_cp (pc := 13) f_104_13 rfl (by first | assumption | exact hK.1 _ _ rfl) (by first | assumption | exact hK.1 _ _ rfl) (by decide) ⟨by decide, by decide, by decide⟩ (by decide) (by decide) ?_
  refine G_S (pc := 16) f_104_16 rfl rfl rfl ?_
  refine G_S (pc := 17) f_104_17 rfl rfl rfl ?_
  refine G_gIv (pc := 18) f_104_18 (by decide) rfl (by decide) (by first | assumption | exact hK.1 _ _ rfl) (by first | assumption | exact mI_s | ((refine mI_o (by first | decide | omega) ?_); (repeat (refine mI_o (by first | decide | omega) ?_)); first | exact mI_s | assumption) | rfl) ?_
  refine G_pI (pc := 21) f_104_21 rfl (by first | assumption | exact hK.1 _ _ rfl) ?_
  refine G_S (pc := 24) f_104_24 rfl rfl rfl ?_
  refine G_S (pc := 25) f_104_25 rfl rfl rfl ?_
  refine G_gIv (pc := 26) f_104_26 (by decide) rfl (by decide) (by first | assumption | exact hK.1 _ _ rfl) (by first | assumption | exact mI_s | ((refine mI_o (by first | decide | omega) ?_); (repeat (refine mI_o (by first | decide | omega) ?_)); first | exact mI_s | assumption) | rfl) ?_
  refine G_pI (pc := 29) f_104_29 rfl (by first | assumption | exact hK.1 _ _ rfl) ?_
  refine G_S (pc := 32) f_104_32 rfl rfl rfl ?_
  refine G_S (pc := 33) f_104_33 rfl rfl rfl ?_
  refine G_gIv (pc := 34) f_104_34 (by decide) rfl (by decide) (by first | assumption | exact hK.1 _ _ rfl) (by first | assumption | exact mI_s | ((refine mI_o (by first | decide | omega) ?_); (repeat (refine mI_o (by first | decide | omega) ?_)); first | exact mI_s | assumption) | rfl) ?_
  refine G_pI (pc := 37) f_104_37 rfl (by first | assumption | exact hK.1 _ _ rfl) ?_
  refine G_S (pc := 40) f_104_40 rfl rfl rfl ?_
  refine G_gR (pc := 41) f_104_41 (by decide) rfl (by first | assumption | exact hK.1 _ _ rfl) (by first | assumption | exact hK.2 _ _ _ rfl | (try dsimp only) <;> (repeat (first | exact up2_s | refine up2_o (by first | decide | omega) ?_)) <;> first | assumption | exact hK.2 _ _ _ rfl) ?_
  refine G_S (pc := 44) f_104_44 rfl rfl rfl ?_
  refine G_gR (pc := 45) f_104_45 (by decide) rfl (by first | assumption | exact hK.1 _ _ rfl) (by first | assumption | exact hK.2 _ _ _ rfl | (try dsimp only) <;> (repeat (first | exact up2_s | refine up2_o (by first | decide | omega) ?_)) <;> first | assumption | exact hK.2 _ _ _ rfl) ?_
  refine G_CS (pc := 48) f_104_48 rfl rfl (by decide) rfl rfl ⟨Nat.le_of_ble_eq_true rfl, Nat.le_of_ble_eq_true rfl⟩ ?_
  refine CG.mono (c_cpX t2' t2 (by decide)) ?_
  rintro _ M1 ⟨rfl, X1, rfl, h1, k1⟩
  refine G_ic (v := nI 0) (pc := 51) f_104_51 (by decide) ?_
  refine G_S (pc := 52) f_104_52 rfl rfl rfl ?_
  dsimp only at h1 k1
  refine loop 0 (Nat.zero_le _) _ ⟨⟨rfl, rfl⟩, fun i hi => ⟨?_, rfl⟩⟩ ⟨⟨?_, ?_, ?_⟩, fun k hk => ?_, fun k hk => ?_, fun l hl => absurd hl (Nat.not_lt_zero l)⟩
  · dsimp only
    rw [h1 i (by omega), up2_ne (by omega), up2_ne (by omega), up2_ne (by omega)]
    exact up1_o (by omega) rfl
  · dsimp only
    rw [h1 b (by omega)]
    refine up2_o (by omega) (up2_o (by omega) (up2_s.trans ?_))
    rw [up1_o (by omega) rfl]
  · dsimp only
    rw [h1 b (by omega)]
    refine up2_o (by omega) (up2_s.trans ?_)
    rw [up2_ne (by omega), up1_o (by omega) rfl]
  · dsimp only
    rw [h1 b (by omega)]
    refine up2_s.trans ?_
    rw [up2_ne (by omega), up2_ne (by omega), up1_o (by omega) rfl]
  · dsimp only
    rw [h1 _ (by omega), up2_ne (by omega), up2_ne (by omega), up2_ne (by omega), up1_s, nI_clamp (by decide), nI_clamp (by decide), pk_cpy_in (Nat.zero_le k) (by omega), Nat.sub_zero, Nat.zero_add]
  · dsimp only
    rw [k1 k hk, up2_ne (by omega), up2_ne (by omega), up2_ne (by omega), up1_o (by omega) rfl]
end CTC
