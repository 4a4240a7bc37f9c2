/-! the program: takesText, put -/
section CPT
variable {C : Ct} {M : Mm} {s : Sg} {x y : Int32} {n m : Nat} {E : Nat → Int}
/-- is a text taken here -/
def tkQ (s : Sg) (x y : Int32) : Bool := decide ((0 ≤ x.toInt ∧ x.toInt ≤ 3) ∧ ((y.toInt = -1 ∧ s.ct x.toInt.toNat < 2) ∨ (0 ≤ y.toInt ∧ y.toInt < (s.ct x.toInt.toNat : Int))))
theorem c_takes (hK : KM M.1 M.2.2.2) (h : CB M 1 s) (hs : SgOK s) : CG C 102 [.ref 1, .int x, .int y] M (fun w M' => w = some (.int (b2i (tkQ s x y = true))) ∧ M' = M) := by
  by_cases xn : x.toInt < 0
  · rw [b2i_neg (fun q : tkQ s x y = true => absurd (of_decide_eq_true q).1.1 (by omega))]
    refine CG_in (mL := 3) (hl := false) (lv := [some (.ref 1), some (.int x), some (.int y)]) (ll := []) rfl rfl rfl ?_
    refine G_S (pc := 0) f_102_0 rfl rfl rfl ?_
    refine G_zltZ (pc := 1) f_102_1 rfl (by first | exact nI_toInt (by omega) | exact zI_toInt (by omega) (by omega) | rfl) (fun b1 => ?_) (fun b1 => ?_)
    · refine G_ic (v := nI 0) (pc := 9) f_102_9 (by decide) ?_
      refine G_rz (pc := 10) f_102_10 (by first | exact Or.inl rfl | exact Or.inr rfl | exact b2i_01 _ | assumption) ?_
      exact ⟨rfl, rfl⟩
    · exfalso; omega
  · by_cases x3 : 3 < x.toInt
    · rw [b2i_neg (fun q : tkQ s x y = true => absurd (of_decide_eq_true q).1.2 (by omega))]
      refine CG_in (mL := 3) (hl := false) (lv := [some (.ref 1), some (.int x), some (.int y)]) (ll := []) rfl rfl rfl ?_
      refine G_S (pc := 0) f_102_0 rfl rfl rfl ?_
      refine G_zltZ (pc := 1) f_102_1 rfl (by first | exact nI_toInt (by omega) | exact zI_toInt (by omega) (by omega) | rfl) (fun b1 => ?_) (fun b1 => ?_)
      · exfalso; omega
      · refine G_S (pc := 4) f_102_4 rfl rfl rfl ?_
        refine G_ic (v := nI 4) (pc := 5) f_102_5 (by decide) ?_
        refine G_jltZ (pc := 6) f_102_6 rfl (by first | exact nI_toInt (by omega) | exact zI_toInt (by omega) (by omega) | rfl) (by first | exact nI_toInt (by omega) | exact zI_toInt (by omega) (by omega) | rfl) (fun b2 => ?_) (fun b2 => ?_)
        · exfalso; omega
        · refine G_ic (v := nI 0) (pc := 9) f_102_9 (by decide) ?_
          refine G_rz (pc := 10) f_102_10 (by first | exact Or.inl rfl | exact Or.inr rfl | exact b2i_01 _ | assumption) ?_
          exact ⟨rfl, rfl⟩
    · obtain ⟨n, rfl, e, -⟩ := nI_tt (x := x) (by omega)
      have hn : n ≤ 3 := by omega
      have hc := h.2.2.1 n (by omega)
      have h2 := hs.2.2.2.2 n
      have te : tkQ s (nI n) y = true ↔ ((y.toInt = -1 ∧ s.ct n < 2) ∨ (0 ≤ y.toInt ∧ y.toInt < (s.ct n : Int))) := by
        unfold tkQ
        rw [e, Int.toNat_natCast, decide_eq_true_iff]
        exact ⟨fun q => q.2, fun q => ⟨by omega, q⟩⟩
      generalize tkQ s (nI n) y = tq at te
      generalize s.ct n = c at hc h2 te
      refine CG_in (mL := 3) (hl := false) (lv := [some (.ref 1), some (.int (nI n)), some (.int y)]) (ll := []) rfl rfl rfl ?_
      refine G_S (pc := 0) f_102_0 rfl rfl rfl ?_
      refine G_zltZ (pc := 1) f_102_1 rfl (by first | exact nI_toInt (by omega) | exact zI_toInt (by omega) (by omega) | rfl) (fun b1 => ?_) (fun b1 => ?_)
      · exfalso; omega
      · refine G_S (pc := 4) f_102_4 rfl rfl rfl ?_
        refine G_ic (v := nI 4) (pc := 5) f_102_5 (by decide) ?_
        refine G_jltZ (pc := 6) f_102_6 rfl (by first | exact nI_toInt (by omega) | exact zI_toInt (by omega) (by omega) | rfl) (by first | exact nI_toInt (by omega) | exact zI_toInt (by omega) (by omega) | rfl) (fun b2 => ?_) (fun b2 => ?_)
        · refine G_S (pc := 11) f_102_11 rfl rfl rfl ?_
          refine G_ic (v := zI (-1)) (pc := 12) f_102_12 (by decide) ?_
          refine G_jneZ (pc := 13) f_102_13 rfl (by first | exact nI_toInt (by omega) | exact zI_toInt (by omega) (by omega) | rfl) (by first | exact nI_toInt (by omega) | exact zI_toInt (by omega) (by omega) | rfl) (fun b3 => ?_) (fun b3 => ?_)
          · refine G_S (pc := 32) f_102_32 rfl rfl rfl ?_
            refine G_zltZ (pc := 33) f_102_33 rfl (by first | exact nI_toInt (by omega) | exact zI_toInt (by omega) (by omega) | rfl) (fun b5 => ?_) (fun b5 => ?_)
            · refine G_ic (v := nI 0) (pc := 50) f_102_50 (by decide) ?_
              refine G_rz (pc := 51) f_102_51 (by first | exact Or.inl rfl | exact Or.inr rfl | exact b2i_01 _ | assumption) ?_
              first
                | exact ⟨by rw [b2i_pos (te.mpr (by omega))]; rfl, rfl⟩
                | exact ⟨by rw [b2i_neg (fun q => absurd (te.mp q) (by omega))]; rfl, rfl⟩
            · refine G_S (pc := 36) f_102_36 rfl rfl rfl ?_
              refine G_S (pc := 37) f_102_37 rfl rfl rfl ?_
              refine G_gR (pc := 38) f_102_38 (by decide) rfl (by first | assumption | exact hK.1 _ _ rfl) (by first | assumption | exact hK.2 _ _ _ rfl | (try dsimp only) <;> (repeat (first | exact up2_s | refine up2_o (by first | decide | omega) ?_)) <;> first | assumption | exact hK.2 _ _ _ rfl) ?_
              refine G_S (pc := 41) f_102_41 rfl rfl rfl ?_
              refine G_iaN (pc := 42) f_102_42 (by first | assumption | exact hK.1 _ _ rfl) (by omega) (by omega) (by first | exact hc | rfl) ?_
              refine G_jgeZ (pc := 43) f_102_43 rfl (by first | exact nI_toInt (by omega) | exact zI_toInt (by omega) (by omega) | rfl) (by first | exact nI_toInt (by omega) | exact zI_toInt (by omega) (by omega) | rfl) (fun b6 => ?_) (fun b6 => ?_)
              · refine G_ic (v := nI 0) (pc := 50) f_102_50 (by decide) ?_
                refine G_rz (pc := 51) f_102_51 (by first | exact Or.inl rfl | exact Or.inr rfl | exact b2i_01 _ | assumption) ?_
                first
                  | exact ⟨by rw [b2i_pos (te.mpr (by omega))]; rfl, rfl⟩
                  | exact ⟨by rw [b2i_neg (fun q => absurd (te.mp q) (by omega))]; rfl, rfl⟩
              · refine G_ic (v := nI 1) (pc := 46) f_102_46 (by decide) ?_
                refine G_S (pc := 47) f_102_47 rfl rfl rfl ?_
                refine G_rz (pc := 51) f_102_51 (by first | exact Or.inl rfl | exact Or.inr rfl | exact b2i_01 _ | assumption) ?_
                first
                  | exact ⟨by rw [b2i_pos (te.mpr (by omega))]; rfl, rfl⟩
                  | exact ⟨by rw [b2i_neg (fun q => absurd (te.mp q) (by omega))]; rfl, rfl⟩
          · refine G_S (pc := 16) f_102_16 rfl rfl rfl ?_
            refine G_gR (pc := 17) f_102_17 (by decide) rfl (by first | assumption | exact hK.1 _ _ rfl) (by first | assumption | exact hK.2 _ _ _ rfl | (try dsimp only) <;> (repeat (first | exact up2_s | refine up2_o (by first | decide | omega) ?_)) <;> first | assumption | exact hK.2 _ _ _ rfl) ?_
            refine G_S (pc := 20) f_102_20 rfl rfl rfl ?_
            refine G_iaN (pc := 21) f_102_21 (by first | assumption | exact hK.1 _ _ rfl) (by omega) (by omega) (by first | exact hc | rfl) ?_
            refine G_ic (v := nI 2) (pc := 22) f_102_22 (by decide) ?_
            refine G_jgeZ (pc := 23) f_102_23 rfl (by first | exact nI_toInt (by omega) | exact zI_toInt (by omega) (by omega) | rfl) (by first | exact nI_toInt (by omega) | exact zI_toInt (by omega) (by omega) | rfl) (fun b4 => ?_) (fun b4 => ?_)
            · refine G_ic (v := nI 0) (pc := 30) f_102_30 (by decide) ?_
              refine G_rz (pc := 31) f_102_31 (by first | exact Or.inl rfl | exact Or.inr rfl | exact b2i_01 _ | assumption) ?_
              first
                | exact ⟨by rw [b2i_pos (te.mpr (by omega))]; rfl, rfl⟩
                | exact ⟨by rw [b2i_neg (fun q => absurd (te.mp q) (by omega))]; rfl, rfl⟩
            · refine G_ic (v := nI 1) (pc := 26) f_102_26 (by decide) ?_
              refine G_S (pc := 27) f_102_27 rfl rfl rfl ?_
              refine G_rz (pc := 31) f_102_31 (by first | exact Or.inl rfl | exact Or.inr rfl | exact b2i_01 _ | assumption) ?_
              first
                | exact ⟨by rw [b2i_pos (te.mpr (by omega))]; rfl, rfl⟩
                | exact ⟨by rw [b2i_neg (fun q => absurd (te.mp q) (by omega))]; rfl, rfl⟩
        · exfalso; omega
/-- the counts with one of a sort put -/
def ctF (c : Nat → Nat) (so m : Nat) : Nat → Nat := fun i => if i = so then max (c so) (m + 1) else c i
theorem ctF_le {c : Nat → Nat} {so : Nat} (h : ∀ i, c i ≤ 2) (hm : m < 2) (i : Nat) : ctF c so m i ≤ 2 := by
  unfold ctF
  have := h i
  have := h so
  split <;> omega
def ptF (s : Sg) (so m : Nat) (E : Nat → Int) : Sg := (s.1, s.2.1, s.2.2.1, ctF s.ct so m, (if so = 0 then fun l => if l = m then nt_ E else s.L l else s.L), (if so = 1 then fun l => if l = m then E else s.P l else s.P), (if so = 2 then fun l => if l = m then nt_ E else s.F l else s.F), (if so = 3 then fun l => if l = m then nt_ E else s.Z l else s.Z))
theorem ptF_ok {so : Nat} (h : SgOK s) (hm : m < 2) : SgOK (ptF s so m E) := ⟨h.1, h.2.1, trivial, trivial, fun i => ctF_le h.2.2.2.2 hm i⟩
theorem LQ.self {M M' : Mm} {h : Nat} (e : ∀ j, j < 6 → M'.2.1 (h + j) = M.2.1 (h + j)) : LQ M M' h h := LQ.cg (M := M) (M' := M) ⟨⟨rfl, rfl, rfl⟩, fun _ _ => rfl, fun _ _ => ⟨rfl, rfl⟩, fun _ _ => rfl, fun _ _ => rfl⟩ e (fun _ _ => rfl)
theorem RQ.self {M M' : Mm} {h : Nat} (e : ∀ j, j < 4 → M'.2.1 (h + j) = M.2.1 (h + j)) : RQ M M' h h := RQ.cg (M := M) (M' := M) ⟨rfl, fun _ _ => rfl, fun _ _ => rfl, fun _ _ => rfl⟩ e (fun _ _ => rfl)
theorem FQ.self {M M' : Mm} {h : Nat} (e : ∀ j, j < 2 → M'.2.1 (h + j) = M.2.1 (h + j)) : FQ M M' h h := FQ.cg (M := M) (M' := M) ⟨rfl, fun _ _ => rfl⟩ e (fun _ _ => rfl)
theorem SQ.self {M M' : Mm} {h : Nat} (e : ∀ j, j < 6 → M'.2.1 (h + j) = M.2.1 (h + j)) : SQ M M' h h := SQ.cg (M := M) (M' := M) ⟨⟨rfl, rfl, rfl, rfl, rfl⟩, fun _ _ => rfl, fun _ _ => rfl, fun _ _ => rfl, fun _ _ => rfl, fun _ _ => rfl⟩ e (fun _ _ => rfl)
theorem CB.pt {N : Mm} {so : Nat} (h : CB M 1 s) (hs : SgOK s) (hm : m < 2) (hmc : m ≤ s.ct so) (e1 : N.2.1 1 = M.2.1 1) (e2 : N.2.1 2 = M.2.1 2) (e3 : N.2.1 3 so = nI (max (s.ct so) (m + 1))) (e3' : ∀ i, i ≠ so → N.2.1 3 i = M.2.1 3 i) (kL : ∀ l, l < 2 → so ≠ 0 ∨ l ≠ m → LQ M N (1 + 7 + 22 * l) (1 + 7 + 22 * l)) (kR : ∀ l, l < 2 → so ≠ 1 ∨ l ≠ m → RQ M N (1 + 7 + 22 * l + 7) (1 + 7 + 22 * l + 7)) (kF : ∀ l, l < 2 → so ≠ 2 ∨ l ≠ m → FQ M N (1 + 7 + 22 * l + 11) (1 + 7 + 22 * l + 11)) (kS : ∀ l, l < 2 → so ≠ 3 ∨ l ≠ m → SQ M N (1 + 7 + 22 * l + 16) (1 + 7 + 22 * l + 16)) (vL : so = 0 → LnV N (1 + 7 + 22 * m) (nt_ E)) (vR : so = 1 → RV_ N (1 + 7 + 22 * m + 7) E) (vF : so = 2 → FV_ N (1 + 7 + 22 * m + 11) (nt_ E)) (vS : so = 3 → SJ_ N (1 + 7 + 22 * m + 16) (nt_ E)) : CB N 1 (ptF s so m E) := by
  have hs5 := hs.2.2.2.2
  obtain ⟨⟨h1, h2, h3⟩, ht, hc, ⟨hL, hP, hF, hZ⟩, hj⟩ := h
  have lt : ∀ {l i : Nat}, l < ctF s.ct so m i → (i = so → l ≠ m) → l < s.ct i := fun {l i} a b => by
    unfold ctF at a
    by_cases q : i = so
    · subst q
      rw [if_pos rfl] at a
      have := b rfl
      omega
    · rwa [if_neg q] at a
  have l2 : ∀ {l i : Nat}, l < ctF s.ct so m i → l < 2 := fun {l i} a => Nat.lt_of_lt_of_le a (ctF_le hs5 hm i)
  refine ⟨by rw [e1]; exact ⟨h1, h2, h3⟩, by rw [e2]; exact ht, fun i hi => ?_, ⟨fun l hl => ?_, fun l hl => ?_, fun l hl => ?_, fun l hl => ?_⟩, fun l hl => ?_⟩
  · show N.2.1 3 i = nI (ctF s.ct so m i)
    unfold ctF
    by_cases q : i = so
    · subst q
      rw [if_pos rfl]
      exact e3
    · rw [if_neg q, e3' i q]
      exact hc i hi
  · show LnV N (1 + 7 + 22 * l) ((if so = 0 then fun l => if l = m then nt_ E else s.L l else s.L) l)
    have hl : l < ctF s.ct so m 0 := hl
    by_cases q : so = 0
    · rw [if_pos q]
      by_cases z : l = m
      · rw [if_pos z, z]
        exact vL q
      · rw [if_neg z]
        exact (hL l (lt hl (fun _ => z))).eq (kL l (l2 hl) (Or.inr z))
    · rw [if_neg q]
      exact (hL l (lt hl (fun z => absurd z.symm q))).eq (kL l (l2 hl) (Or.inl q))
  · show RV_ N (1 + 7 + 22 * l + 7) ((if so = 1 then fun l => if l = m then E else s.P l else s.P) l)
    have hl : l < ctF s.ct so m 1 := hl
    by_cases q : so = 1
    · rw [if_pos q]
      by_cases z : l = m
      · rw [if_pos z, z]
        exact vR q
      · rw [if_neg z]
        exact (hP l (lt hl (fun _ => z))).eq (kR l (l2 hl) (Or.inr z))
    · rw [if_neg q]
      exact (hP l (lt hl (fun z => absurd z.symm q))).eq (kR l (l2 hl) (Or.inl q))
  · show FV_ N (1 + 7 + 22 * l + 11) ((if so = 2 then fun l => if l = m then nt_ E else s.F l else s.F) l)
    have hl : l < ctF s.ct so m 2 := hl
    by_cases q : so = 2
    · rw [if_pos q]
      by_cases z : l = m
      · rw [if_pos z, z]
        exact vF q
      · rw [if_neg z]
        exact (hF l (lt hl (fun _ => z))).eq (kF l (l2 hl) (Or.inr z))
    · rw [if_neg q]
      exact (hF l (lt hl (fun z => absurd z.symm q))).eq (kF l (l2 hl) (Or.inl q))
  · show SJ_ N (1 + 7 + 22 * l + 16) ((if so = 3 then fun l => if l = m then nt_ E else s.Z l else s.Z) l)
    have hl : l < ctF s.ct so m 3 := hl
    by_cases q : so = 3
    · rw [if_pos q]
      by_cases z : l = m
      · rw [if_pos z, z]
        exact vS q
      · rw [if_neg z]
        exact (hZ l (lt hl (fun _ => z))).eq (kS l (l2 hl) (Or.inr z))
    · rw [if_neg q]
      exact (hZ l (lt hl (fun z => absurd z.symm q))).eq (kS l (l2 hl) (Or.inl q))
  · by_cases z : so = 3 ∧ l = m
    · rw [z.2]
      rcases (vS z.1).2 with a | a
      · exact Or.inl a
      · exact Or.inr a.1
    · rw [(kS l hl (by omega)).1.2.2.1]
      exact hj l hl
theorem c_put0 (hK : KM M.1 M.2.2.2) (h : CB M 1 s) (hs : SgOK s) (hm : m < 2) (hmc : m ≤ s.ct 0) (V : LnV M 54 (nt_ E)) (T : LnT M 54) : CG C 103 [.ref 1, .int (nI 0), .int (nI m), .ref 53] M (fun w M' => w = none ∧ FoB 1 M M' ∧ CB M' 1 (ptF s 0 m E)) := by
  have B := BT_1 hK
  have hc := h.2.2.1 0 (by decide)
  have h2 := hs.2.2.2.2 0
  obtain ⟨⟨t0, t1, t2, t3, t4, t5, t6⟩, ⟨r0, r4, r5, r6, r7, r8⟩, bo⟩ := id B
  obtain ⟨⟨q3, q4, q5, q6⟩, oL, oR, oF, oS⟩ := bo m hm
  have l0 := oL.1.1
  refine CG_in (mL := 4) (hl := false) (lv := [some (.ref 1), some (.int (nI 0)), some (.int (nI m)), some (.ref 53)]) (ll := []) rfl rfl rfl ?_
  refine G_S (pc := 0) f_103_0 rfl rfl rfl ?_
  refine G_zltZ (pc := 1) f_103_1 rfl (by first | exact nI_toInt (by omega) | exact zI_toInt (by omega) (by omega) | rfl) (fun b1 => ?_) (fun b1 => ?_)
  · exfalso; omega
  · refine G_S (pc := 4) f_103_4 rfl rfl rfl ?_
    refine G_ic (v := nI 4) (pc := 5) f_103_5 (by decide) ?_
    refine G_jgeZ (pc := 6) f_103_6 rfl (by first | exact nI_toInt (by omega) | exact zI_toInt (by omega) (by omega) | rfl) (by first | exact nI_toInt (by omega) | exact zI_toInt (by omega) (by omega) | rfl) (fun b2 => ?_) (fun b2 => ?_)
    · exfalso; omega
    · refine G_S (pc := 9) f_103_9 rfl rfl rfl ?_
      refine G_zltZ (pc := 10) f_103_10 rfl (by first | exact nI_toInt (by omega) | exact zI_toInt (by omega) (by omega) | rfl) (fun b3 => ?_) (fun b3 => ?_)
      · exfalso; omega
      · refine G_S (pc := 13) f_103_13 rfl rfl rfl ?_
        refine G_ic (v := nI 2) (pc := 14) f_103_14 (by decide) ?_
        refine G_jltZ (pc := 15) f_103_15 rfl (by first | exact nI_toInt (by omega) | exact zI_toInt (by omega) (by omega) | rfl) (by first | exact nI_toInt (by omega) | exact zI_toInt (by omega) (by omega) | rfl) (fun b4 => ?_) (fun b4 => ?_)
        · refine G_S (pc := 19) f_103_19 rfl rfl rfl ?_
          skip
          · refine G_S (pc := 20) f_103_20 rfl rfl rfl ?_
            refine G_S (pc := 48) f_103_48 rfl rfl rfl ?_
            refine G_gR (pc := 49) f_103_49 (by decide) rfl (by first | assumption | exact hK.1 _ _ rfl) (by first | assumption | exact hK.2 _ _ _ rfl | (try dsimp only) <;> (repeat (first | exact up2_s | refine up2_o (by first | decide | omega) ?_)) <;> first | assumption | exact hK.2 _ _ _ rfl) ?_
            refine G_S (pc := 52) f_103_52 rfl rfl rfl ?_
            refine G_aaN2 (pc := 53) f_103_53 (by first | assumption | exact hK.1 _ _ rfl) (by decide) (by omega) (by omega) (by first | assumption | exact hK.2 _ _ _ rfl | (try dsimp only) <;> (repeat (first | exact up2_s | refine up2_o (by first | decide | omega) ?_)) <;> first | assumption | exact hK.2 _ _ _ rfl) ?_
            refine G_S (pc := 54) f_103_54 rfl rfl rfl ?_
            refine G_gR (pc := 55) f_103_55 (by decide) rfl (by first | assumption | exact hK.1 _ _ rfl) (by first | assumption | exact hK.2 _ _ _ rfl | (try dsimp only) <;> (repeat (first | exact up2_s | refine up2_o (by first | decide | omega) ?_)) <;> first | assumption | exact hK.2 _ _ _ rfl) ?_
            refine G_CV (pc := 58) f_103_58 rfl rfl (by decide) rfl rfl (by first | assumption | exact hK.1 _ _ rfl) (by decide) ⟨Nat.le_of_ble_eq_true rfl, Nat.le_of_ble_eq_true rfl⟩ ?_
            refine CG.mono (c_lineCopy oL T (by omega) (by omega) V) ?_
            rintro _ M1 ⟨rfl, hF, V1⟩
            have hK := hF.K hK
            have hc1 : M1.2.1 3 0 = nI (s.ct 0) := by rw [(hF.2 3 (by simp <;> omega)).1]; exact hc
            refine G_S (pc := 61) f_103_61 rfl rfl rfl ?_
            refine G_S (pc := 109) f_103_109 rfl rfl rfl ?_
            refine G_gR (pc := 110) f_103_110 (by decide) rfl (by first | assumption | exact hK.1 _ _ rfl) (by first | assumption | exact hK.2 _ _ _ rfl | (try dsimp only) <;> (repeat (first | exact up2_s | refine up2_o (by first | decide | omega) ?_)) <;> first | assumption | exact hK.2 _ _ _ rfl) ?_
            refine G_S (pc := 113) f_103_113 rfl rfl rfl ?_
            refine G_S (pc := 114) f_103_114 rfl rfl rfl ?_
            refine G_gR (pc := 115) f_103_115 (by decide) rfl (by first | assumption | exact hK.1 _ _ rfl) (by first | assumption | exact hK.2 _ _ _ rfl | (try dsimp only) <;> (repeat (first | exact up2_s | refine up2_o (by first | decide | omega) ?_)) <;> first | assumption | exact hK.2 _ _ _ rfl) ?_
            refine G_S (pc := 118) f_103_118 rfl rfl rfl ?_
            refine G_iaN (pc := 119) f_103_119 (by first | assumption | exact hK.1 _ _ rfl) (by omega) (by omega) (by first | assumption | exact q1 _ (by omega) | exact q2 _ (by omega) | exact q3 _ (by omega) | exact q4 _ (by omega) | exact q5 _ (by omega) | exact vh _ (by omega) | exact (vr _ (by omega)).1 | exact (vr _ (by omega)).2 | exact vw _ (by omega) | exact vf _ (by omega) (by omega) | exact mI_s | ((refine mI_o (by first | decide | omega) ?_); (repeat (refine mI_o (by first | decide | omega) ?_)); first | exact mI_s | assumption | exact q1 _ (by omega) | exact q2 _ (by omega) | exact q3 _ (by omega) | exact q4 _ (by omega) | exact q5 _ (by omega) | exact vh _ (by omega) | exact (vr _ (by omega)).1 | exact (vr _ (by omega)).2 | exact vw _ (by omega) | exact vf _ (by omega) (by omega)) | rfl) ?_
            refine G_S (pc := 120) f_103_120 rfl rfl rfl ?_
            refine G_ic (v := nI 1) (pc := 121) f_103_121 (by decide) ?_
            first | refine G_addN (pc := 122) f_103_122 ?_ | refine G_addZ (pc := 122) f_103_122 (by first | rfl | exact nI_zI _) (by first | rfl | exact nI_zI _) ?_ | refine G_S (pc := 122) f_103_122 rfl rfl rfl ?_
            first | refine G_maxN (pc := 123) f_103_123 rfl rfl (by omega) (by omega) ?_ | refine G_maxZ (pc := 123) f_103_123 rfl rfl (by first | exact nI_toInt (by omega) | exact zI_toInt (by omega) (by omega) | rfl) (by first | exact nI_toInt (by omega) | exact zI_toInt (by omega) (by omega) | rfl) ?_
            refine G_isN (pc := 126) f_103_126 (by first | assumption | exact hK.1 _ _ rfl) (by omega) (by omega) ?_
            refine G_rv (pc := 127) f_103_127 ?_
            have g : ∀ i, i ≠ 3 → (i < 1 + 7 + 22 * m ∨ 1 + 7 + 22 * m + 6 ≤ i) → (up2 M1.2.1 3 0 (nI (max (s.ct 0) (m + 1)))) i = M.2.1 i := fun i a b => (up2_ne a).trans (hF.2 i (by simp <;> omega)).1
            have gs : (up2 M1.2.1 3 0 (nI (max (s.ct 0) (m + 1)))) 3 0 = nI (max (s.ct 0) (m + 1)) := up2_s
            have g3 : ∀ i, i ≠ 0 → (up2 M1.2.1 3 0 (nI (max (s.ct 0) (m + 1)))) 3 i = M.2.1 3 i := fun i hi => up2_o (fun z => hi z.2) (congrFun (hF.2 3 (by simp <;> omega)).1 i)
            refine ⟨rfl, ⟨⟨hF.1.1, hF.1.2⟩, fun i hi => ⟨g i (by omega) (by omega), (hF.2 i (by simp <;> omega)).2⟩⟩, h.pt hs hm hmc (g 1 (by decide) (by omega)) (g 2 (by decide) (by omega)) gs g3 (fun l hl z => LQ.self (fun j hj => g _ (by omega) (by omega))) (fun l hl z => RQ.self (fun j hj => g _ (by omega) (by omega))) (fun l hl z => FQ.self (fun j hj => g _ (by omega) (by omega))) (fun l hl z => SQ.self (fun j hj => g _ (by omega) (by omega))) (fun _ => V1.eq (LQ.self (fun j hj => up2_ne (by omega)))) (fun z => absurd z (by decide)) (fun z => absurd z (by decide)) (fun z => absurd z (by decide))⟩
        · exfalso; omega
theorem c_put1 (hK : KM M.1 M.2.2.2) (h : CB M 1 s) (hs : SgOK s) (hm : m < 2) (hmc : m ≤ s.ct 1) (V : RV_ M 61 E) (T : RT_ M 61) : CG C 103 [.ref 1, .int (nI 1), .int (nI m), .ref 53] M (fun w M' => w = none ∧ FoB 1 M M' ∧ CB M' 1 (ptF s 1 m E)) := by
  have B := BT_1 hK
  have hc := h.2.2.1 1 (by decide)
  have h2 := hs.2.2.2.2 1
  obtain ⟨⟨t0, t1, t2, t3, t4, t5, t6⟩, ⟨r0, r4, r5, r6, r7, r8⟩, bo⟩ := id B
  obtain ⟨⟨q3, q4, q5, q6⟩, oL, oR, oF, oS⟩ := bo m hm
  have l0 := oR.1.1
  refine CG_in (mL := 4) (hl := false) (lv := [some (.ref 1), some (.int (nI 1)), some (.int (nI m)), some (.ref 53)]) (ll := []) rfl rfl rfl ?_
  refine G_S (pc := 0) f_103_0 rfl rfl rfl ?_
  refine G_zltZ (pc := 1) f_103_1 rfl (by first | exact nI_toInt (by omega) | exact zI_toInt (by omega) (by omega) | rfl) (fun b1 => ?_) (fun b1 => ?_)
  · exfalso; omega
  · refine G_S (pc := 4) f_103_4 rfl rfl rfl ?_
    refine G_ic (v := nI 4) (pc := 5) f_103_5 (by decide) ?_
    refine G_jgeZ (pc := 6) f_103_6 rfl (by first | exact nI_toInt (by omega) | exact zI_toInt (by omega) (by omega) | rfl) (by first | exact nI_toInt (by omega) | exact zI_toInt (by omega) (by omega) | rfl) (fun b2 => ?_) (fun b2 => ?_)
    · exfalso; omega
    · refine G_S (pc := 9) f_103_9 rfl rfl rfl ?_
      refine G_zltZ (pc := 10) f_103_10 rfl (by first | exact nI_toInt (by omega) | exact zI_toInt (by omega) (by omega) | rfl) (fun b3 => ?_) (fun b3 => ?_)
      · exfalso; omega
      · refine G_S (pc := 13) f_103_13 rfl rfl rfl ?_
        refine G_ic (v := nI 2) (pc := 14) f_103_14 (by decide) ?_
        refine G_jltZ (pc := 15) f_103_15 rfl (by first | exact nI_toInt (by omega) | exact zI_toInt (by omega) (by omega) | rfl) (by first | exact nI_toInt (by omega) | exact zI_toInt (by omega) (by omega) | rfl) (fun b4 => ?_) (fun b4 => ?_)
        · refine G_S (pc := 19) f_103_19 rfl rfl rfl ?_
          skip
          · refine G_S (pc := 20) f_103_20 rfl rfl rfl ?_
            refine G_S (pc := 64) f_103_64 rfl rfl rfl ?_
            refine G_gR (pc := 65) f_103_65 (by decide) rfl (by first | assumption | exact hK.1 _ _ rfl) (by first | assumption | exact hK.2 _ _ _ rfl | (try dsimp only) <;> (repeat (first | exact up2_s | refine up2_o (by first | decide | omega) ?_)) <;> first | assumption | exact hK.2 _ _ _ rfl) ?_
            refine G_S (pc := 68) f_103_68 rfl rfl rfl ?_
            refine G_aaN2 (pc := 69) f_103_69 (by first | assumption | exact hK.1 _ _ rfl) (by decide) (by omega) (by omega) (by first | assumption | exact hK.2 _ _ _ rfl | (try dsimp only) <;> (repeat (first | exact up2_s | refine up2_o (by first | decide | omega) ?_)) <;> first | assumption | exact hK.2 _ _ _ rfl) ?_
            refine G_S (pc := 70) f_103_70 rfl rfl rfl ?_
            refine G_gR (pc := 71) f_103_71 (by decide) rfl (by first | assumption | exact hK.1 _ _ rfl) (by first | assumption | exact hK.2 _ _ _ rfl | (try dsimp only) <;> (repeat (first | exact up2_s | refine up2_o (by first | decide | omega) ?_)) <;> first | assumption | exact hK.2 _ _ _ rfl) ?_
            refine G_CV (pc := 74) f_103_74 rfl rfl (by decide) rfl rfl (by first | assumption | exact hK.1 _ _ rfl) (by decide) ⟨Nat.le_of_ble_eq_true rfl, Nat.le_of_ble_eq_true rfl⟩ ?_
            refine CG.mono (c_rideCopy oR T (by omega) (by omega) V) ?_
            rintro _ M1 ⟨rfl, hF, V1⟩
            have hK := hF.K hK
            have hc1 : M1.2.1 3 1 = nI (s.ct 1) := by rw [(hF.2 3 (by simp <;> omega)).1]; exact hc
            refine G_S (pc := 77) f_103_77 rfl rfl rfl ?_
            refine G_S (pc := 109) f_103_109 rfl rfl rfl ?_
            refine G_gR (pc := 110) f_103_110 (by decide) rfl (by first | assumption | exact hK.1 _ _ rfl) (by first | assumption | exact hK.2 _ _ _ rfl | (try dsimp only) <;> (repeat (first | exact up2_s | refine up2_o (by first | decide | omega) ?_)) <;> first | assumption | exact hK.2 _ _ _ rfl) ?_
            refine G_S (pc := 113) f_103_113 rfl rfl rfl ?_
            refine G_S (pc := 114) f_103_114 rfl rfl rfl ?_
            refine G_gR (pc := 115) f_103_115 (by decide) rfl (by first | assumption | exact hK.1 _ _ rfl) (by first | assumption | exact hK.2 _ _ _ rfl | (try dsimp only) <;> (repeat (first | exact up2_s | refine up2_o (by first | decide | omega) ?_)) <;> first | assumption | exact hK.2 _ _ _ rfl) ?_
            refine G_S (pc := 118) f_103_118 rfl rfl rfl ?_
            refine G_iaN (pc := 119) f_103_119 (by first | assumption | exact hK.1 _ _ rfl) (by omega) (by omega) (by first | assumption | exact q1 _ (by omega) | exact q2 _ (by omega) | exact q3 _ (by omega) | exact q4 _ (by omega) | exact q5 _ (by omega) | exact vh _ (by omega) | exact (vr _ (by omega)).1 | exact (vr _ (by omega)).2 | exact vw _ (by omega) | exact vf _ (by omega) (by omega) | exact mI_s | ((refine mI_o (by first | decide | omega) ?_); (repeat (refine mI_o (by first | decide | omega) ?_)); first | exact mI_s | assumption | exact q1 _ (by omega) | exact q2 _ (by omega) | exact q3 _ (by omega) | exact q4 _ (by omega) | exact q5 _ (by omega) | exact vh _ (by omega) | exact (vr _ (by omega)).1 | exact (vr _ (by omega)).2 | exact vw _ (by omega) | exact vf _ (by omega) (by omega)) | rfl) ?_
            refine G_S (pc := 120) f_103_120 rfl rfl rfl ?_
            refine G_ic (v := nI 1) (pc := 121) f_103_121 (by decide) ?_
            first | refine G_addN (pc := 122) f_103_122 ?_ | refine G_addZ (pc := 122) f_103_122 (by first | rfl | exact nI_zI _) (by first | rfl | exact nI_zI _) ?_ | refine G_S (pc := 122) f_103_122 rfl rfl rfl ?_
            first | refine G_maxN (pc := 123) f_103_123 rfl rfl (by omega) (by omega) ?_ | refine G_maxZ (pc := 123) f_103_123 rfl rfl (by first | exact nI_toInt (by omega) | exact zI_toInt (by omega) (by omega) | rfl) (by first | exact nI_toInt (by omega) | exact zI_toInt (by omega) (by omega) | rfl) ?_
            refine G_isN (pc := 126) f_103_126 (by first | assumption | exact hK.1 _ _ rfl) (by omega) (by omega) ?_
            refine G_rv (pc := 127) f_103_127 ?_
            have g : ∀ i, i ≠ 3 → (i < 1 + 7 + 22 * m + 7 ∨ 1 + 7 + 22 * m + 7 + 4 ≤ i) → (up2 M1.2.1 3 1 (nI (max (s.ct 1) (m + 1)))) i = M.2.1 i := fun i a b => (up2_ne a).trans (hF.2 i (by simp <;> omega)).1
            have gs : (up2 M1.2.1 3 1 (nI (max (s.ct 1) (m + 1)))) 3 1 = nI (max (s.ct 1) (m + 1)) := up2_s
            have g3 : ∀ i, i ≠ 1 → (up2 M1.2.1 3 1 (nI (max (s.ct 1) (m + 1)))) 3 i = M.2.1 3 i := fun i hi => up2_o (fun z => hi z.2) (congrFun (hF.2 3 (by simp <;> omega)).1 i)
            refine ⟨rfl, ⟨⟨hF.1.1, hF.1.2⟩, fun i hi => ⟨g i (by omega) (by omega), (hF.2 i (by simp <;> omega)).2⟩⟩, h.pt hs hm hmc (g 1 (by decide) (by omega)) (g 2 (by decide) (by omega)) gs g3 (fun l hl z => LQ.self (fun j hj => g _ (by omega) (by omega))) (fun l hl z => RQ.self (fun j hj => g _ (by omega) (by omega))) (fun l hl z => FQ.self (fun j hj => g _ (by omega) (by omega))) (fun l hl z => SQ.self (fun j hj => g _ (by omega) (by omega))) (fun z => absurd z (by decide)) (fun _ => V1.eq (RQ.self (fun j hj => up2_ne (by omega)))) (fun z => absurd z (by decide)) (fun z => absurd z (by decide))⟩
        · exfalso; omega
theorem c_put2 (hK : KM M.1 M.2.2.2) (h : CB M 1 s) (hs : SgOK s) (hm : m < 2) (hmc : m ≤ s.ct 2) (V : FV_ M 65 (nt_ E)) (T : FT_ M 65) : CG C 103 [.ref 1, .int (nI 2), .int (nI m), .ref 53] M (fun w M' => w = none ∧ FoB 1 M M' ∧ CB M' 1 (ptF s 2 m E)) := by
  have B := BT_1 hK
  have hc := h.2.2.1 2 (by decide)
  have h2 := hs.2.2.2.2 2
  obtain ⟨⟨t0, t1, t2, t3, t4, t5, t6⟩, ⟨r0, r4, r5, r6, r7, r8⟩, bo⟩ := id B
  obtain ⟨⟨q3, q4, q5, q6⟩, oL, oR, oF, oS⟩ := bo m hm
  have l0 := oF.1.1
  refine CG_in (mL := 4) (hl := false) (lv := [some (.ref 1), some (.int (nI 2)), some (.int (nI m)), some (.ref 53)]) (ll := []) rfl rfl rfl ?_
  refine G_S (pc := 0) f_103_0 rfl rfl rfl ?_
  refine G_zltZ (pc := 1) f_103_1 rfl (by first | exact nI_toInt (by omega) | exact zI_toInt (by omega) (by omega) | rfl) (fun b1 => ?_) (fun b1 => ?_)
  · exfalso; omega
  · refine G_S (pc := 4) f_103_4 rfl rfl rfl ?_
    refine G_ic (v := nI 4) (pc := 5) f_103_5 (by decide) ?_
    refine G_jgeZ (pc := 6) f_103_6 rfl (by first | exact nI_toInt (by omega) | exact zI_toInt (by omega) (by omega) | rfl) (by first | exact nI_toInt (by omega) | exact zI_toInt (by omega) (by omega) | rfl) (fun b2 => ?_) (fun b2 => ?_)
    · exfalso; omega
    · refine G_S (pc := 9) f_103_9 rfl rfl rfl ?_
      refine G_zltZ (pc := 10) f_103_10 rfl (by first | exact nI_toInt (by omega) | exact zI_toInt (by omega) (by omega) | rfl) (fun b3 => ?_) (fun b3 => ?_)
      · exfalso; omega
      · refine G_S (pc := 13) f_103_13 rfl rfl rfl ?_
        refine G_ic (v := nI 2) (pc := 14) f_103_14 (by decide) ?_
        refine G_jltZ (pc := 15) f_103_15 rfl (by first | exact nI_toInt (by omega) | exact zI_toInt (by omega) (by omega) | rfl) (by first | exact nI_toInt (by omega) | exact zI_toInt (by omega) (by omega) | rfl) (fun b4 => ?_) (fun b4 => ?_)
        · refine G_S (pc := 19) f_103_19 rfl rfl rfl ?_
          skip
          · refine G_S (pc := 20) f_103_20 rfl rfl rfl ?_
            refine G_S (pc := 80) f_103_80 rfl rfl rfl ?_
            refine G_gR (pc := 81) f_103_81 (by decide) rfl (by first | assumption | exact hK.1 _ _ rfl) (by first | assumption | exact hK.2 _ _ _ rfl | (try dsimp only) <;> (repeat (first | exact up2_s | refine up2_o (by first | decide | omega) ?_)) <;> first | assumption | exact hK.2 _ _ _ rfl) ?_
            refine G_S (pc := 84) f_103_84 rfl rfl rfl ?_
            refine G_aaN2 (pc := 85) f_103_85 (by first | assumption | exact hK.1 _ _ rfl) (by decide) (by omega) (by omega) (by first | assumption | exact hK.2 _ _ _ rfl | (try dsimp only) <;> (repeat (first | exact up2_s | refine up2_o (by first | decide | omega) ?_)) <;> first | assumption | exact hK.2 _ _ _ rfl) ?_
            refine G_S (pc := 86) f_103_86 rfl rfl rfl ?_
            refine G_gR (pc := 87) f_103_87 (by decide) rfl (by first | assumption | exact hK.1 _ _ rfl) (by first | assumption | exact hK.2 _ _ _ rfl | (try dsimp only) <;> (repeat (first | exact up2_s | refine up2_o (by first | decide | omega) ?_)) <;> first | assumption | exact hK.2 _ _ _ rfl) ?_
            refine G_CV (pc := 90) f_103_90 rfl rfl (by decide) rfl rfl (by first | assumption | exact hK.1 _ _ rfl) (by decide) ⟨Nat.le_of_ble_eq_true rfl, Nat.le_of_ble_eq_true rfl⟩ ?_
            refine CG.mono (c_flowCopy oF T (by omega) (by omega) V) ?_
            rintro _ M1 ⟨rfl, hF, V1⟩
            have hK := hF.K hK
            have hc1 : M1.2.1 3 2 = nI (s.ct 2) := by rw [(hF.2 3 (by simp <;> omega)).1]; exact hc
            refine G_S (pc := 93) f_103_93 rfl rfl rfl ?_
            refine G_S (pc := 109) f_103_109 rfl rfl rfl ?_
            refine G_gR (pc := 110) f_103_110 (by decide) rfl (by first | assumption | exact hK.1 _ _ rfl) (by first | assumption | exact hK.2 _ _ _ rfl | (try dsimp only) <;> (repeat (first | exact up2_s | refine up2_o (by first | decide | omega) ?_)) <;> first | assumption | exact hK.2 _ _ _ rfl) ?_
            refine G_S (pc := 113) f_103_113 rfl rfl rfl ?_
            refine G_S (pc := 114) f_103_114 rfl rfl rfl ?_
            refine G_gR (pc := 115) f_103_115 (by decide) rfl (by first | assumption | exact hK.1 _ _ rfl) (by first | assumption | exact hK.2 _ _ _ rfl | (try dsimp only) <;> (repeat (first | exact up2_s | refine up2_o (by first | decide | omega) ?_)) <;> first | assumption | exact hK.2 _ _ _ rfl) ?_
            refine G_S (pc := 118) f_103_118 rfl rfl rfl ?_
            refine G_iaN (pc := 119) f_103_119 (by first | assumption | exact hK.1 _ _ rfl) (by omega) (by omega) (by first | assumption | exact q1 _ (by omega) | exact q2 _ (by omega) | exact q3 _ (by omega) | exact q4 _ (by omega) | exact q5 _ (by omega) | exact vh _ (by omega) | exact (vr _ (by omega)).1 | exact (vr _ (by omega)).2 | exact vw _ (by omega) | exact vf _ (by omega) (by omega) | exact mI_s | ((refine mI_o (by first | decide | omega) ?_); (repeat (refine mI_o (by first | decide | omega) ?_)); first | exact mI_s | assumption | exact q1 _ (by omega) | exact q2 _ (by omega) | exact q3 _ (by omega) | exact q4 _ (by omega) | exact q5 _ (by omega) | exact vh _ (by omega) | exact (vr _ (by omega)).1 | exact (vr _ (by omega)).2 | exact vw _ (by omega) | exact vf _ (by omega) (by omega)) | rfl) ?_
            refine G_S (pc := 120) f_103_120 rfl rfl rfl ?_
            refine G_ic (v := nI 1) (pc := 121) f_103_121 (by decide) ?_
            first | refine G_addN (pc := 122) f_103_122 ?_ | refine G_addZ (pc := 122) f_103_122 (by first | rfl | exact nI_zI _) (by first | rfl | exact nI_zI _) ?_ | refine G_S (pc := 122) f_103_122 rfl rfl rfl ?_
            first | refine G_maxN (pc := 123) f_103_123 rfl rfl (by omega) (by omega) ?_ | refine G_maxZ (pc := 123) f_103_123 rfl rfl (by first | exact nI_toInt (by omega) | exact zI_toInt (by omega) (by omega) | rfl) (by first | exact nI_toInt (by omega) | exact zI_toInt (by omega) (by omega) | rfl) ?_
            refine G_isN (pc := 126) f_103_126 (by first | assumption | exact hK.1 _ _ rfl) (by omega) (by omega) ?_
            refine G_rv (pc := 127) f_103_127 ?_
            have g : ∀ i, i ≠ 3 → (i < 1 + 7 + 22 * m + 11 ∨ 1 + 7 + 22 * m + 11 + 2 ≤ i) → (up2 M1.2.1 3 2 (nI (max (s.ct 2) (m + 1)))) i = M.2.1 i := fun i a b => (up2_ne a).trans (hF.2 i (by simp <;> omega)).1
            have gs : (up2 M1.2.1 3 2 (nI (max (s.ct 2) (m + 1)))) 3 2 = nI (max (s.ct 2) (m + 1)) := up2_s
            have g3 : ∀ i, i ≠ 2 → (up2 M1.2.1 3 2 (nI (max (s.ct 2) (m + 1)))) 3 i = M.2.1 3 i := fun i hi => up2_o (fun z => hi z.2) (congrFun (hF.2 3 (by simp <;> omega)).1 i)
            refine ⟨rfl, ⟨⟨hF.1.1, hF.1.2⟩, fun i hi => ⟨g i (by omega) (by omega), (hF.2 i (by simp <;> omega)).2⟩⟩, h.pt hs hm hmc (g 1 (by decide) (by omega)) (g 2 (by decide) (by omega)) gs g3 (fun l hl z => LQ.self (fun j hj => g _ (by omega) (by omega))) (fun l hl z => RQ.self (fun j hj => g _ (by omega) (by omega))) (fun l hl z => FQ.self (fun j hj => g _ (by omega) (by omega))) (fun l hl z => SQ.self (fun j hj => g _ (by omega) (by omega))) (fun z => absurd z (by decide)) (fun z => absurd z (by decide)) (fun _ => V1.eq (FQ.self (fun j hj => up2_ne (by omega)))) (fun z => absurd z (by decide))⟩
        · exfalso; omega
theorem c_put3 (hK : KM M.1 M.2.2.2) (h : CB M 1 s) (hs : SgOK s) (hm : m < 2) (hmc : m ≤ s.ct 3) (V : SJ_ M 70 (nt_ E)) (T : ST_ M 70) : CG C 103 [.ref 1, .int (nI 3), .int (nI m), .ref 53] M (fun w M' => w = none ∧ FoB 1 M M' ∧ CB M' 1 (ptF s 3 m E)) := by
  have B := BT_1 hK
  have hc := h.2.2.1 3 (by decide)
  have h2 := hs.2.2.2.2 3
  obtain ⟨⟨t0, t1, t2, t3, t4, t5, t6⟩, ⟨r0, r4, r5, r6, r7, r8⟩, bo⟩ := id B
  obtain ⟨⟨q3, q4, q5, q6⟩, oL, oR, oF, oS⟩ := bo m hm
  have l0 := oS.1.1
  refine CG_in (mL := 4) (hl := false) (lv := [some (.ref 1), some (.int (nI 3)), some (.int (nI m)), some (.ref 53)]) (ll := []) rfl rfl rfl ?_
  refine G_S (pc := 0) f_103_0 rfl rfl rfl ?_
  refine G_zltZ (pc := 1) f_103_1 rfl (by first | exact nI_toInt (by omega) | exact zI_toInt (by omega) (by omega) | rfl) (fun b1 => ?_) (fun b1 => ?_)
  · exfalso; omega
  · refine G_S (pc := 4) f_103_4 rfl rfl rfl ?_
    refine G_ic (v := nI 4) (pc := 5) f_103_5 (by decide) ?_
    refine G_jgeZ (pc := 6) f_103_6 rfl (by first | exact nI_toInt (by omega) | exact zI_toInt (by omega) (by omega) | rfl) (by first | exact nI_toInt (by omega) | exact zI_toInt (by omega) (by omega) | rfl) (fun b2 => ?_) (fun b2 => ?_)
    · exfalso; omega
    · refine G_S (pc := 9) f_103_9 rfl rfl rfl ?_
      refine G_zltZ (pc := 10) f_103_10 rfl (by first | exact nI_toInt (by omega) | exact zI_toInt (by omega) (by omega) | rfl) (fun b3 => ?_) (fun b3 => ?_)
      · exfalso; omega
      · refine G_S (pc := 13) f_103_13 rfl rfl rfl ?_
        refine G_ic (v := nI 2) (pc := 14) f_103_14 (by decide) ?_
        refine G_jltZ (pc := 15) f_103_15 rfl (by first | exact nI_toInt (by omega) | exact zI_toInt (by omega) (by omega) | rfl) (by first | exact nI_toInt (by omega) | exact zI_toInt (by omega) (by omega) | rfl) (fun b4 => ?_) (fun b4 => ?_)
        · refine G_S (pc := 19) f_103_19 rfl rfl rfl ?_
          skip
          · refine G_tsO (pc := 20) f_103_20 rfl ((by decide)) ?_
            refine G_S (pc := 96) f_103_96 rfl rfl rfl ?_
            refine G_gR (pc := 97) f_103_97 (by decide) rfl (by first | assumption | exact hK.1 _ _ rfl) (by first | assumption | exact hK.2 _ _ _ rfl | (try dsimp only) <;> (repeat (first | exact up2_s | refine up2_o (by first | decide | omega) ?_)) <;> first | assumption | exact hK.2 _ _ _ rfl) ?_
            refine G_S (pc := 100) f_103_100 rfl rfl rfl ?_
            refine G_aaN2 (pc := 101) f_103_101 (by first | assumption | exact hK.1 _ _ rfl) (by decide) (by omega) (by omega) (by first | assumption | exact hK.2 _ _ _ rfl | (try dsimp only) <;> (repeat (first | exact up2_s | refine up2_o (by first | decide | omega) ?_)) <;> first | assumption | exact hK.2 _ _ _ rfl) ?_
            refine G_S (pc := 102) f_103_102 rfl rfl rfl ?_
            refine G_gR (pc := 103) f_103_103 (by decide) rfl (by first | assumption | exact hK.1 _ _ rfl) (by first | assumption | exact hK.2 _ _ _ rfl | (try dsimp only) <;> (repeat (first | exact up2_s | refine up2_o (by first | decide | omega) ?_)) <;> first | assumption | exact hK.2 _ _ _ rfl) ?_
            refine G_CV (pc := 106) f_103_106 rfl rfl (by decide) rfl rfl (by first | assumption | exact hK.1 _ _ rfl) (by decide) ⟨Nat.le_of_ble_eq_true rfl, Nat.le_of_ble_eq_true rfl⟩ ?_
            refine CG.mono (c_sightCopy oS T (by omega) (by omega) V) ?_
            rintro _ M1 ⟨rfl, hF, V1⟩
            have hK := hF.K hK
            have hc1 : M1.2.1 3 3 = nI (s.ct 3) := by rw [(hF.2 3 (by simp <;> omega)).1]; exact hc
            refine G_S (pc := 109) f_103_109 rfl rfl rfl ?_
            refine G_gR (pc := 110) f_103_110 (by decide) rfl (by first | assumption | exact hK.1 _ _ rfl) (by first | assumption | exact hK.2 _ _ _ rfl | (try dsimp only) <;> (repeat (first | exact up2_s | refine up2_o (by first | decide | omega) ?_)) <;> first | assumption | exact hK.2 _ _ _ rfl) ?_
            refine G_S (pc := 113) f_103_113 rfl rfl rfl ?_
            refine G_S (pc := 114) f_103_114 rfl rfl rfl ?_
            refine G_gR (pc := 115) f_103_115 (by decide) rfl (by first | assumption | exact hK.1 _ _ rfl) (by first | assumption | exact hK.2 _ _ _ rfl | (try dsimp only) <;> (repeat (first | exact up2_s | refine up2_o (by first | decide | omega) ?_)) <;> first | assumption | exact hK.2 _ _ _ rfl) ?_
            refine G_S (pc := 118) f_103_118 rfl rfl rfl ?_
            refine G_iaN (pc := 119) f_103_119 (by first | assumption | exact hK.1 _ _ rfl) (by omega) (by omega) (by first | assumption | exact q1 _ (by omega) | exact q2 _ (by omega) | exact q3 _ (by omega) | exact q4 _ (by omega) | exact q5 _ (by omega) | exact vh _ (by omega) | exact (vr _ (by omega)).1 | exact (vr _ (by omega)).2 | exact vw _ (by omega) | exact vf _ (by omega) (by omega) | exact mI_s | ((refine mI_o (by first | decide | omega) ?_); (repeat (refine mI_o (by first | decide | omega) ?_)); first | exact mI_s | assumption | exact q1 _ (by omega) | exact q2 _ (by omega) | exact q3 _ (by omega) | exact q4 _ (by omega) | exact q5 _ (by omega) | exact vh _ (by omega) | exact (vr _ (by omega)).1 | exact (vr _ (by omega)).2 | exact vw _ (by omega) | exact vf _ (by omega) (by omega)) | rfl) ?_
            refine G_S (pc := 120) f_103_120 rfl rfl rfl ?_
            refine G_ic (v := nI 1) (pc := 121) f_103_121 (by decide) ?_
            first | refine G_addN (pc := 122) f_103_122 ?_ | refine G_addZ (pc := 122) f_103_122 (by first | rfl | exact nI_zI _) (by first | rfl | exact nI_zI _) ?_ | refine G_S (pc := 122) f_103_122 rfl rfl rfl ?_
            first | refine G_maxN (pc := 123) f_103_123 rfl rfl (by omega) (by omega) ?_ | refine G_maxZ (pc := 123) f_103_123 rfl rfl (by first | exact nI_toInt (by omega) | exact zI_toInt (by omega) (by omega) | rfl) (by first | exact nI_toInt (by omega) | exact zI_toInt (by omega) (by omega) | rfl) ?_
            refine G_isN (pc := 126) f_103_126 (by first | assumption | exact hK.1 _ _ rfl) (by omega) (by omega) ?_
            refine G_rv (pc := 127) f_103_127 ?_
            have g : ∀ i, i ≠ 3 → (i < 1 + 7 + 22 * m + 16 ∨ 1 + 7 + 22 * m + 16 + 6 ≤ i) → (up2 M1.2.1 3 3 (nI (max (s.ct 3) (m + 1)))) i = M.2.1 i := fun i a b => (up2_ne a).trans (hF.2 i (by simp <;> omega)).1
            have gs : (up2 M1.2.1 3 3 (nI (max (s.ct 3) (m + 1)))) 3 3 = nI (max (s.ct 3) (m + 1)) := up2_s
            have g3 : ∀ i, i ≠ 3 → (up2 M1.2.1 3 3 (nI (max (s.ct 3) (m + 1)))) 3 i = M.2.1 3 i := fun i hi => up2_o (fun z => hi z.2) (congrFun (hF.2 3 (by simp <;> omega)).1 i)
            refine ⟨rfl, ⟨⟨hF.1.1, hF.1.2⟩, fun i hi => ⟨g i (by omega) (by omega), (hF.2 i (by simp <;> omega)).2⟩⟩, h.pt hs hm hmc (g 1 (by decide) (by omega)) (g 2 (by decide) (by omega)) gs g3 (fun l hl z => LQ.self (fun j hj => g _ (by omega) (by omega))) (fun l hl z => RQ.self (fun j hj => g _ (by omega) (by omega))) (fun l hl z => FQ.self (fun j hj => g _ (by omega) (by omega))) (fun l hl z => SQ.self (fun j hj => g _ (by omega) (by omega))) (fun z => absurd z (by decide)) (fun z => absurd z (by decide)) (fun z => absurd z (by decide)) (fun _ => V1.eq (SQ.self (fun j hj => up2_ne (by omega))))⟩
        · exfalso; omega
end CPT
