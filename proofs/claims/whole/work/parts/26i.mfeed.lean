/-! the reference: numbers put on the tape -/
section MFD
variable {C : Ct} {M : Mm} {n : Nat} {x : Int32}
def FNq (n : Nat) (x : Int32) (M : Mm) (i : Nat) (X : Nat → Nat → Int32) : Prop := (∀ i, i ≠ 99 → i ≠ 100 → X i = M.2.1 i) ∧ X 100 0 = nI (n + i) ∧ (∀ k, k ≠ 0 → X 100 k = M.2.1 100 k) ∧ (∀ j, j < i → X 99 (n + j) = zI (byF x j)) ∧ (∀ j, j < n → X 99 j = M.2.1 99 j) ∧ ∀ j, 600 ≤ j → X 99 j = M.2.1 99 j
theorem m_four (hK : KM M.1 M.2.2.2) (h1 : M.2.1 100 0 = nI n) (hn : n + 4 ≤ 600) : CG C 198 [.ref 98, .int x] M (fun w M' => w = none ∧ ∃ X, M' = (M.1, X, M.2.2.1, M.2.2.2) ∧ FNq n x M 4 X) := by
  have loop : ∀ i, i ≤ 4 → ∀ X, FNq n x M i X → G C 198 (3, [some (.ref 98), some (.int x), some (.int ((zI (24 - 8 * (i : Int)))))], [], [], (M.1, X, M.2.2.1, M.2.2.2)) (fun w M' => w = none ∧ ∃ X, M' = (M.1, X, M.2.2.1, M.2.2.2) ∧ FNq n x M 4 X) := by
    refine upto (fun i hi ih X hX => ?_)
    have hl := hX.2.1
    have ez : (zI (24 - 8 * (i : Int))).toInt = 24 - 8 * (i : Int) := zI_toInt (by omega) (by omega)
    by_cases h4 : i < 4
    · refine G_S (pc := 3) f_198_3 rfl rfl rfl ?_
      refine G_zltZ (pc := 4) f_198_4 rfl (by first | exact nI_toInt (by omega) | exact zI_toInt (by omega) (by omega) | rfl) (fun b1 => ?_) (fun b1 => ?_)
      · exfalso; omega
      · refine G_S (pc := 7) f_198_7 rfl rfl rfl ?_
        refine G_gR (pc := 8) f_198_8 (by decide) rfl (by first | assumption | exact hK.1 _ _ rfl) (by first | assumption | exact hK.2 _ _ _ rfl | (try dsimp only) <;> (repeat (first | exact up2_s | refine up2_o (by first | decide | omega) ?_)) <;> first | assumption | exact hK.2 _ _ _ rfl) ?_
        refine G_S (pc := 11) f_198_11 rfl rfl rfl ?_
        refine G_gR (pc := 12) f_198_12 (by decide) rfl (by first | assumption | exact hK.1 _ _ rfl) (by first | assumption | exact hK.2 _ _ _ rfl | (try dsimp only) <;> (repeat (first | exact up2_s | refine up2_o (by first | decide | omega) ?_)) <;> first | assumption | exact hK.2 _ _ _ rfl) ?_
        refine G_ic (v := nI 0) (pc := 15) f_198_15 (by decide) ?_
        refine G_iaN (pc := 16) f_198_16 (by first | assumption | exact hK.1 _ _ rfl) (by omega) (by omega) (by first | exact hl | rfl) ?_
        refine G_S (pc := 17) f_198_17 rfl rfl rfl ?_
        refine G_S (pc := 18) f_198_18 rfl rfl rfl ?_
        refine G_S (pc := 19) f_198_19 rfl rfl rfl ?_
        refine G_S (pc := 20) f_198_20 rfl rfl rfl ?_
        refine G_bsN (pc := 21) f_198_21 (by first | assumption | exact hK.1 _ _ rfl) (by omega) (by omega) ?_
        refine G_S (pc := 22) f_198_22 rfl rfl rfl ?_
        refine G_gR (pc := 23) f_198_23 (by decide) rfl (by first | assumption | exact hK.1 _ _ rfl) (by first | assumption | exact hK.2 _ _ _ rfl | (try dsimp only) <;> (repeat (first | exact up2_s | refine up2_o (by first | decide | omega) ?_)) <;> first | assumption | exact hK.2 _ _ _ rfl) ?_
        refine G_ic (v := nI 0) (pc := 26) f_198_26 (by decide) ?_
        refine G_S (pc := 27) f_198_27 rfl rfl rfl ?_
        refine G_iaN (pc := 28) f_198_28 (by first | assumption | exact hK.1 _ _ rfl) (by omega) (by omega) (by first | exact (mI_o (by omega) hl) | rfl) ?_
        refine G_ic (v := nI 1) (pc := 29) f_198_29 (by decide) ?_
        first | refine G_addN (pc := 30) f_198_30 ?_ | refine G_addZ (pc := 30) f_198_30 (by first | rfl | exact nI_zI _) (by first | rfl | exact nI_zI _) ?_ | refine G_S (pc := 30) f_198_30 rfl rfl rfl ?_
        refine G_isN (pc := 31) f_198_31 (by first | assumption | exact hK.1 _ _ rfl) (by omega) (by omega) ?_
        first | refine G_incN (pc := 32) f_198_32 rfl (by decide) ?_ | refine G_incZ (pc := 32) f_198_32 rfl (by first | rfl | exact nI_zI _) ?_ | refine G_S (pc := 32) f_198_32 rfl rfl rfl ?_
        refine G_S (pc := 35) f_198_35 rfl rfl rfl ?_
        rw [byF_z, zI_8 (byF_b x i), show (24 - 8 * (i : Int) + -8 : Int) = 24 - 8 * ((i + 1 : Nat) : Int) by omega]
        obtain ⟨p1, p2, p3, p4, p5, p6⟩ := hX
        refine ih h4 _ ⟨fun j z1 z2 => ?_, up2_s, fun k hk => ?_, fun j hj => ?_, fun j hj => ?_, fun j hj => ?_⟩
        · dsimp only
          rw [up2_ne z2, up2_ne z1, p1 j z1 z2]
        · dsimp only
          refine up2_o (fun z => hk z.2) ?_
          rw [up2_ne (by decide)]
          exact p3 k hk
        · dsimp only
          rw [up2_ne (by decide)]
          by_cases q : j = i
          · subst q
            exact up2_s
          · exact up2_o (by omega) (p4 j (by omega))
        · dsimp only
          rw [up2_ne (by decide)]
          exact up2_o (by omega) (p5 j hj)
        · dsimp only
          rw [up2_ne (by decide)]
          exact up2_o (by omega) (p6 j hj)
    · refine G_S (pc := 3) f_198_3 rfl rfl rfl ?_
      refine G_zltZ (pc := 4) f_198_4 rfl (by first | exact nI_toInt (by omega) | exact zI_toInt (by omega) (by omega) | rfl) (fun b1 => ?_) (fun b1 => ?_)
      · refine G_rv (pc := 38) f_198_38 ?_
        rw [show i = 4 by omega] at hX
        exact ⟨rfl, X, rfl, hX⟩
      · exfalso; omega
  refine CG_in (mL := 3) (hl := false) (lv := [some (.ref 98), some (.int x), none]) (ll := []) rfl rfl rfl ?_
  refine G_bi (v := nI 24) (pc := 0) f_198_0 (by decide) ?_
  refine G_S (pc := 2) f_198_2 rfl rfl rfl ?_
  exact loop 0 (Nat.zero_le _) _ ⟨fun _ _ _ => rfl, h1, fun _ _ => rfl, fun j hj => absurd hj (Nat.not_lt_zero j), fun _ _ => rfl, fun _ _ => rfl⟩
/-- the other slots stand -/
def Mso (M M' : Mm) : Prop := ∀ k, k < 4 → k ≠ 0 → MQk M M' k k
theorem MQk.rf {k : Nat} : MQk M M k k := ⟨⟨rfl, rfl, rfl⟩, fun _ _ => Or.inl rfl, fun _ _ => rfl, fun _ _ => rfl, fun _ _ => rfl, fun _ _ => rfl, fun _ _ => rfl⟩
theorem i8_8 (a : Int32) : a.toInt8.toInt32.toInt8.toInt32 = a.toInt8.toInt32 := by
  rw [Int8.toInt8_toInt32]
theorem MQk.tr {M M1 M2 : Mm} {k k1 k2 : Nat} (h1 : MQk M M1 k1 k) (h2 : MQk M1 M2 k2 k1) : MQk M M2 k2 k := by
  obtain ⟨⟨a1, a2, a3⟩, a4, a5, a6, a7, a8, a9⟩ := h1
  obtain ⟨⟨b1, b2, b3⟩, b4, b5, b6, b7, b8, b9⟩ := h2
  refine ⟨⟨b1.trans a1, b2.trans a2, b3.trans a3⟩, fun i hi => ?_, fun i hi => (b5 i hi).trans (a5 i hi), fun i hi => (b6 i hi).trans (a6 i hi), fun i hi => (b7 i hi).trans (a7 i hi), fun i hi => (b8 i hi).trans (a8 i hi), fun i hi => (b9 i hi).trans (a9 i hi)⟩
  rcases b4 i hi with q | q <;> rcases a4 i hi with r | r <;> rw [r] at q
  · exact Or.inl q
  · exact Or.inr q
  · exact Or.inr q
  · rw [i8_8] at q
    exact Or.inr q
theorem Mso.tr {M M1 M2 : Mm} (h1 : Mso M M1) (h2 : Mso M1 M2) : Mso M M2 := fun k a b => (h1 k a b).tr (h2 k a b)
theorem mQ.sl {M M' : Mm} (h : mQ M M') (k : Nat) : MQk M M' k k := (MQk.rf (M := M) (k := k)).cg (fun _ _ _ => rfl) (fun i h1 h2 => (h.2 i (by omega)).1)
theorem m_put4 {s : Sg} (hK : KM M.1 M.2.2.2) (h : MSl M 0 s) (hs : SgOK s) (hn : s.len + 4 ≤ 600) : CG C 198 [.ref 98, .int x] M (fun w M' => w = none ∧ Fo [99, 100] M M' ∧ MSl M' 0 (put4 s x) ∧ Mso M M') := by
  refine CG.mono (m_four hK h.1.1 hn) ?_
  rintro w M' ⟨rfl, X, rfl, p1, p2, p3, p4, p5, p6⟩
  refine ⟨rfl, ⟨⟨rfl, rfl⟩, fun i hi => ⟨p1 i (fun z => hi (by rw [z]; simp)) (fun z => hi (by rw [z]; simp)), rfl⟩⟩, ?_, fun k hk h0 => ?_⟩
  · obtain ⟨⟨h1, h2, h3⟩, ht, hc, hL, hP, hF, hZ⟩ := h
    unfold MSl
    dsimp only
    rw [p1 101 (by decide) (by decide), p1 102 (by decide) (by decide), p1 103 (by decide) (by decide), p1 104 (by decide) (by decide), p1 105 (by decide) (by decide), p1 106 (by decide) (by decide), p1 107 (by decide) (by decide)]
    refine ⟨⟨p2, h2, h3⟩, fun i hi => ?_, hc, hL, hP, hF, hZ⟩
    rw [Nat.mul_zero, Nat.zero_add]
    show X 99 i = zI (if i < s.len then s.tp i else byF x (i - s.len))
    have hi : i < s.len + 4 := hi
    split
    · rename_i z
      have a := ht i z
      rw [Nat.mul_zero, Nat.zero_add] at a
      exact (p5 i z).trans a
    · have a := p4 (i - s.len) (by omega)
      rw [show s.len + (i - s.len) = i by omega] at a
      exact a
  · unfold MQk
    dsimp only
    rw [p1 101 (by decide) (by decide), p1 102 (by decide) (by decide), p1 103 (by decide) (by decide), p1 104 (by decide) (by decide), p1 105 (by decide) (by decide), p1 106 (by decide) (by decide), p1 107 (by decide) (by decide)]
    exact ⟨⟨p3 k h0, rfl, rfl⟩, fun i _ => Or.inl (p6 _ (by omega)), fun _ _ => rfl, fun _ _ => rfl, fun _ _ => rfl, fun _ _ => rfl, fun _ _ => rfl⟩
end MFD
