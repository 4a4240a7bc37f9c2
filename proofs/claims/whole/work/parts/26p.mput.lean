/-! the reference: one of a sort put -/
section MPT
variable {C : Ct} {M : Mm} {s : Sg} {m so : Nat} {E : Nat → Int}
theorem EO0.p (h : EO0 E) : ∀ j, j < 39 → 0 ≤ E j := by
  obtain ⟨h0, h1, h2, h3, h4, h5, h6, h7⟩ := h
  intro j hj
  rcases (show j = 0 ∨ j = 1 ∨ j = 2 ∨ (3 ≤ j ∧ j < 11) ∨ (11 ≤ j ∧ j < 19) ∨ (19 ≤ j ∧ j < 27) ∨ (27 ≤ j ∧ j < 31) ∨ 31 ≤ j by omega) with rfl | rfl | rfl | q | q | q | q | q
  · omega
  · omega
  · omega
  · have := h3 (j - 3) (by omega)
    rw [show 3 + (j - 3) = j by omega] at this
    omega
  · have := h4 (j - 11) (by omega)
    rw [show 11 + (j - 11) = j by omega] at this
    omega
  · have := h5 (j - 19) (by omega)
    rw [show 19 + (j - 19) = j by omega] at this
    omega
  · have := h6 (j - 27) (by omega)
    rw [show 27 + (j - 27) = j by omega] at this
    omega
  · have := h7 (j - 31) (by omega)
    rw [show 31 + (j - 31) = j by omega] at this
    omega
theorem EO2.p (h : EO2 E) : ∀ j, j < 25 → 0 ≤ E j := by
  intro j hj
  rcases (show j = 0 ∨ 1 ≤ j by omega) with rfl | q
  · have := h.1
    omega
  · have := h.2 (j - 1) (by omega)
    rw [show 1 + (j - 1) = j by omega] at this
    omega
theorem EO3.p (h : EO3 E) : ∀ j : Nat, j < 2 + 3 * (E 1).toNat → 0 ≤ E j := by
  obtain ⟨h0, h1, h2⟩ := h
  intro j hj
  rcases (show j = 0 ∨ j = 1 ∨ (2 ≤ j ∧ (j - 2) % 3 = 0) ∨ (2 ≤ j ∧ (j - 2) % 3 = 1) ∨ (2 ≤ j ∧ (j - 2) % 3 = 2) by omega) with rfl | rfl | q | q | q
  · omega
  · omega
  · have := (h2 ((j - 2) / 3) (by omega)).1
    rw [show 2 + 3 * ((j - 2) / 3) = j by omega] at this
    omega
  · have := (h2 ((j - 2) / 3) (by omega)).2.1
    rw [show 3 + 3 * ((j - 2) / 3) = j by omega] at this
    omega
  · have := (h2 ((j - 2) / 3) (by omega)).2.2
    rw [show 4 + 3 * ((j - 2) / 3) = j by omega] at this
    omega
theorem MSl.pt {N : Mm} (h : MSl M 0 s) (hm : m < 2) (hmc : m ≤ s.ct so) (hE : EOs so E) (e0 : N.2.1 100 0 = M.2.1 100 0 ∧ N.2.1 101 0 = M.2.1 101 0 ∧ N.2.1 102 0 = M.2.1 102 0) (e9 : ∀ i, N.2.1 99 i = M.2.1 99 i) (ec : N.2.1 103 so = nI (max (s.ct so) (m + 1))) (ec' : ∀ i, i < 4 → i ≠ so → N.2.1 103 i = M.2.1 103 i) (r : ∀ p, p < 4 → p ≠ so → N.2.1 (104 + p) = M.2.1 (104 + p)) (rs : ∀ j, j < wdN so → N.2.1 (104 + so) (wdN so * m + j) = zI (E j)) (rs' : ∀ j, j < wdN so * m ∨ wdN so * m + wdN so ≤ j → N.2.1 (104 + so) j = M.2.1 (104 + so) j) : MSl N 0 (ptF s so m E) := by
  obtain ⟨⟨h1, h2, h3⟩, ht, hc, hL, hP, hF, hZ⟩ := h
  have lt : ∀ {l i : Nat}, l < ctF s.ct so m i → (i = so → l ≠ m) → l < s.ct i := fun {l i} a b => by
    unfold ctF at a
    by_cases q : i = so
    · subst q
      rw [if_pos rfl] at a
      have := b rfl
      omega
    · rwa [if_neg q] at a
  refine ⟨⟨e0.1.trans h1, e0.2.1.trans h2, e0.2.2.trans h3⟩, fun i hi => (e9 _).trans (ht i hi), fun i hi => ?_, fun l hl => ?_, fun l hl => ?_, fun l hl => ?_, fun l hl => ?_⟩
  · show N.2.1 103 (4 * 0 + i) = nI (ctF s.ct so m i)
    have a := hc i hi
    rw [Nat.mul_zero, Nat.zero_add] at a ⊢
    unfold ctF
    by_cases q : i = so
    · subst q
      rw [if_pos rfl]
      exact ec
    · rw [if_neg q, ec' i hi q]
      exact a
  · show DOK ((if so = 0 then fun l => if l = m then nt_ E else s.L l else s.L) l) ∧ ∀ j, j < 39 → N.2.1 104 (78 * 0 + (39 * l + j)) = nI (((if so = 0 then fun l => if l = m then nt_ E else s.L l else s.L) l) j)
    have hl : l < ctF s.ct so m 0 := hl
    by_cases q : so = 0
    · subst q
      rw [if_pos rfl]
      by_cases z : l = m
      · subst z
        rw [if_pos rfl]
        refine ⟨(hE.1 rfl).d, fun j hj => ?_⟩
        rw [Nat.mul_zero, Nat.zero_add]
        have bj : j < 39 := hj
        exact (rs j bj).trans (zt_ ((hE.1 rfl).p j hj))
      · rw [if_neg z]
        have a := hL l (lt hl (fun _ => z))
        refine ⟨a.1, fun j hj => ?_⟩
        have bj : j < 39 := hj
        refine Eq.trans (rs' _ ?_) (a.2 j hj)
        show 78 * 0 + (39 * l + j) < 39 * m ∨ 39 * m + 39 ≤ 78 * 0 + (39 * l + j)
        omega
    · rw [if_neg q]
      have a := hL l (lt hl (fun z => absurd z.symm q))
      refine ⟨a.1, fun j hj => ?_⟩
      exact Eq.trans (congrFun (r 0 (by decide) (fun z => q z.symm)) _) (a.2 j hj)
  · show ROK ((if so = 1 then fun l => if l = m then E else s.P l else s.P) l) ∧ ∀ j : Nat, (j : Int) < 1 + 3 * ((if so = 1 then fun l => if l = m then E else s.P l else s.P) l) 0 → N.2.1 105 (242 * 0 + (121 * l + j)) = zI (((if so = 1 then fun l => if l = m then E else s.P l else s.P) l) j)
    have hl : l < ctF s.ct so m 1 := hl
    by_cases q : so = 1
    · subst q
      rw [if_pos rfl]
      by_cases z : l = m
      · subst z
        rw [if_pos rfl]
        refine ⟨hE.2.1 rfl, fun j hj => ?_⟩
        have b := (hE.2.1 rfl).1
        rw [Nat.mul_zero, Nat.zero_add]
        exact rs j (show j < 121 by omega)
      · rw [if_neg z]
        have a := hP l (lt hl (fun _ => z))
        refine ⟨a.1, fun j hj => ?_⟩
        have bj : j < 121 := (by have b := a.1.1; omega)
        refine Eq.trans (rs' _ ?_) (a.2 j hj)
        show 242 * 0 + (121 * l + j) < 121 * m ∨ 121 * m + 121 ≤ 242 * 0 + (121 * l + j)
        omega
    · rw [if_neg q]
      have a := hP l (lt hl (fun z => absurd z.symm q))
      refine ⟨a.1, fun j hj => ?_⟩
      exact Eq.trans (congrFun (r 1 (by decide) (fun z => q z.symm)) _) (a.2 j hj)
  · show FOK ((if so = 2 then fun l => if l = m then nt_ E else s.F l else s.F) l) ∧ ∀ j, j < 25 → N.2.1 106 (50 * 0 + (25 * l + j)) = nI (((if so = 2 then fun l => if l = m then nt_ E else s.F l else s.F) l) j)
    have hl : l < ctF s.ct so m 2 := hl
    by_cases q : so = 2
    · subst q
      rw [if_pos rfl]
      by_cases z : l = m
      · subst z
        rw [if_pos rfl]
        refine ⟨(hE.2.2.1 rfl).f, fun j hj => ?_⟩
        rw [Nat.mul_zero, Nat.zero_add]
        have bj : j < 25 := hj
        exact (rs j bj).trans (zt_ ((hE.2.2.1 rfl).p j hj))
      · rw [if_neg z]
        have a := hF l (lt hl (fun _ => z))
        refine ⟨a.1, fun j hj => ?_⟩
        have bj : j < 25 := hj
        refine Eq.trans (rs' _ ?_) (a.2 j hj)
        show 50 * 0 + (25 * l + j) < 25 * m ∨ 25 * m + 25 ≤ 50 * 0 + (25 * l + j)
        omega
    · rw [if_neg q]
      have a := hF l (lt hl (fun z => absurd z.symm q))
      refine ⟨a.1, fun j hj => ?_⟩
      exact Eq.trans (congrFun (r 2 (by decide) (fun z => q z.symm)) _) (a.2 j hj)
  · show SOK ((if so = 3 then fun l => if l = m then nt_ E else s.Z l else s.Z) l) ∧ ∀ j, j < 2 + 3 * ((if so = 3 then fun l => if l = m then nt_ E else s.Z l else s.Z) l) 1 → N.2.1 107 (64 * 0 + (32 * l + j)) = nI (((if so = 3 then fun l => if l = m then nt_ E else s.Z l else s.Z) l) j)
    have hl : l < ctF s.ct so m 3 := hl
    by_cases q : so = 3
    · subst q
      rw [if_pos rfl]
      by_cases z : l = m
      · subst z
        rw [if_pos rfl]
        refine ⟨(hE.2.2.2 rfl).2, fun j hj => ?_⟩
        rw [Nat.mul_zero, Nat.zero_add]
        have bj : j < 32 := (by have b := (hE.2.2.2 rfl).1.2.1; have hj : j < 2 + 3 * (E 1).toNat := hj; omega)
        exact (rs j bj).trans (zt_ ((hE.2.2.2 rfl).1.p j hj))
      · rw [if_neg z]
        have a := hZ l (lt hl (fun _ => z))
        refine ⟨a.1, fun j hj => ?_⟩
        have bj : j < 32 := (by have b : s.Z l 1 ≤ 10 := a.1.2.1; have hj : j < 2 + 3 * s.Z l 1 := hj; omega)
        refine Eq.trans (rs' _ ?_) (a.2 j hj)
        show 64 * 0 + (32 * l + j) < 32 * m ∨ 32 * m + 32 ≤ 64 * 0 + (32 * l + j)
        omega
    · rw [if_neg q]
      have a := hZ l (lt hl (fun z => absurd z.symm q))
      refine ⟨a.1, fun j hj => ?_⟩
      exact Eq.trans (congrFun (r 3 (by decide) (fun z => q z.symm)) _) (a.2 j hj)
end MPT
