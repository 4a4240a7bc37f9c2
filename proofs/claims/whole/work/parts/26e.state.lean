/-! the state of all that is told -/
abbrev Sg : Type := (Nat → Int) × Nat × (Nat × Nat) × (Nat → Nat) × (Nat → Nat → Nat) × (Nat → Nat → Int) × (Nat → Nat → Nat) × (Nat → Nat → Nat)
abbrev Sg.tp (s : Sg) : Nat → Int := s.1
abbrev Sg.len (s : Sg) : Nat := s.2.1
abbrev Sg.flt (s : Sg) : Nat × Nat := s.2.2.1
abbrev Sg.ct (s : Sg) : Nat → Nat := s.2.2.2.1
abbrev Sg.L (s : Sg) : Nat → Nat → Nat := s.2.2.2.2.1
abbrev Sg.P (s : Sg) : Nat → Nat → Int := s.2.2.2.2.2.1
abbrev Sg.F (s : Sg) : Nat → Nat → Nat := s.2.2.2.2.2.2.1
abbrev Sg.Z (s : Sg) : Nat → Nat → Nat := s.2.2.2.2.2.2.2
def SgOK (s : Sg) : Prop := s.len ≤ 600 ∧ (∀ i, i < s.len → -128 ≤ s.tp i ∧ s.tp i < 128) ∧ True ∧ True ∧ ∀ so, s.ct so ≤ 2
/-- a Told at b holds s -/
def CB (M : Mm) (b : Nat) (s : Sg) : Prop := (M.2.1 b 1 = nI s.len ∧ M.2.1 b 2 = nI s.flt.1 ∧ M.2.1 b 3 = plI s.flt) ∧ (∀ i, i < s.len → M.2.1 (b + 1) i = zI (s.tp i)) ∧ (∀ so, so < 4 → M.2.1 (b + 2) so = nI (s.ct so)) ∧ ((∀ l, l < s.ct 0 → LnV M (b + 7 + 22 * l) (s.L l)) ∧ (∀ l, l < s.ct 1 → RV_ M (b + 7 + 22 * l + 7) (s.P l)) ∧ (∀ l, l < s.ct 2 → FV_ M (b + 7 + 22 * l + 11) (s.F l)) ∧ (∀ l, l < s.ct 3 → SJ_ M (b + 7 + 22 * l + 16) (s.Z l))) ∧ ∀ l, l < 2 → M.2.1 (b + 7 + 22 * l + 16) 5 = 0 ∨ M.2.1 (b + 7 + 22 * l + 16) 5 = 1
theorem CB.eq {M M' : Mm} {b b' : Nat} {s : Sg} (h : CB M b' s) (hs : SgOK s) (q : BQ M M' b b' 2) : CB M' b s := by
  obtain ⟨⟨h1, h2, h3⟩, ht, hc, ⟨hL, hP, hF, hZ⟩, hj⟩ := h
  obtain ⟨⟨q1, q2, q3⟩, qt, qc, qo⟩ := q
  obtain ⟨s1, s2, s3, s4, s5⟩ := hs
  refine ⟨⟨q1.trans h1, q2.trans h2, q3.trans h3⟩, fun i hi => (qt i (by omega)).trans (ht i hi), fun so hso => (qc so hso).trans (hc so hso), ⟨fun l hl => ?_, fun l hl => ?_, fun l hl => ?_, fun l hl => ?_⟩, fun l hl => ?_⟩
  · exact (hL l hl).eq (qo l (by have := s5 0; omega)).1
  · exact (hP l hl).eq (qo l (by have := s5 1; omega)).2.1
  · exact (hF l hl).eq (qo l (by have := s5 2; omega)).2.2.1
  · exact (hZ l hl).eq (qo l (by have := s5 3; omega)).2.2.2
  · rw [(qo l hl).2.2.2.1.2.2.1]
    exact hj l hl
/-- the places of one of two that are read -/
def usO : List Nat := [0, 1, 2, 3, 4, 5, 7, 8, 9, 10, 11, 12, 16, 17, 18, 19, 20, 21]
theorem OQ.self {M M' : Mm} {h : Nat} (e : ∀ j, j ∈ usO → M'.2.1 (h + j) = M.2.1 (h + j)) : OQ M M' h h := by
  have a0 := e 0 (by decide)
  rw [Nat.add_zero] at a0
  unfold OQ LQ RQ FQ SQ
  simp only [Nat.add_assoc]
  rw [a0, e 1 (by decide), e 2 (by decide), e 3 (by decide), e 4 (by decide), e 5 (by decide), e 7 (by decide), e (7 + 1) (by decide), e (7 + 2) (by decide), e (7 + 3) (by decide), e 11 (by decide), e (11 + 1) (by decide), e 16 (by decide), e (16 + 1) (by decide), e (16 + 2) (by decide), e (16 + 3) (by decide), e (16 + 4) (by decide), e (16 + 5) (by decide)]
  refine ⟨⟨⟨rfl, rfl, rfl⟩, fun _ _ => rfl, fun _ _ => ⟨rfl, rfl⟩, fun _ _ => rfl, fun _ _ => rfl⟩, ⟨rfl, fun _ _ => rfl, fun _ _ => rfl, fun _ _ => rfl⟩, ⟨rfl, fun _ _ => rfl⟩, ⟨rfl, rfl, rfl, rfl, rfl⟩, fun _ _ => rfl, fun _ _ => rfl, fun _ _ => rfl, fun _ _ => rfl, fun _ _ => rfl⟩
theorem BQ.self {M M' : Mm} {b : Nat} (e0 : M'.2.1 b = M.2.1 b) (e1 : M'.2.1 (b + 1) = M.2.1 (b + 1)) (e2 : M'.2.1 (b + 2) = M.2.1 (b + 2)) (e : ∀ l, l < 2 → ∀ j, j ∈ usO → M'.2.1 (b + 7 + 22 * l + j) = M.2.1 (b + 7 + 22 * l + j)) : BQ M M' b b 2 := by
  refine ⟨?_, ?_, ?_, fun l hl => OQ.self (e l hl)⟩
  · rw [e0]
    exact ⟨rfl, rfl, rfl⟩
  · rw [e1]
    exact fun _ _ => rfl
  · rw [e2]
    exact fun _ _ => rfl
/-- a Told elsewhere changes: this one stands -/
theorem CB.B {M M' : Mm} {b b' : Nat} {s : Sg} (h : CB M b s) (hs : SgOK s) (hF : FoB b' M M') (sep : b + 50 < b' ∨ b' + 50 < b) : CB M' b s := by
  have ho : ∀ j, j ∈ usO → j < 22 := by decide
  exact h.eq hs (BQ.self (hF.2 _ (by omega)).1 (hF.2 _ (by omega)).1 (hF.2 _ (by omega)).1 (fun l hl j hj => (hF.2 _ (by have := ho j hj; omega)).1))
def u2O : List Nat := [1, 2, 3, 8, 9, 10, 11, 12, 13, 15, 16, 17, 18, 19, 20, 24, 25, 26, 27, 28, 29, 30, 31, 32, 33, 34, 35, 37, 38, 39, 40, 41, 42, 46, 47, 48, 49, 50, 51]
theorem us_2 : ∀ l, l < 2 → ∀ j, j ∈ usO → 1 + 7 + 22 * l + j ∈ u2O := by decide
theorem CB.c1 {M M' : Mm} {s : Sg} (h : CB M 1 s) (hs : SgOK s) (e : ∀ i, i ∈ u2O → M'.2.1 i = M.2.1 i) : CB M' 1 s := h.eq hs (BQ.self (e 1 (by decide)) (e 2 (by decide)) (e 3 (by decide)) (fun l hl j hj => e _ (us_2 l hl j hj)))
theorem CB.cN {M M' : Mm} {b : Nat} {s : Sg} (h : CB M b s) (hs : SgOK s) (e : ∀ i, b ≤ i → M'.2.1 i = M.2.1 i) : CB M' b s := h.eq hs (BQ.self (e _ (by omega)) (e _ (by omega)) (e _ (by omega)) (fun l hl j hj => e _ (by omega)))
theorem CB.Ls {M : Mm} {s : Sg} (h : CB M 1 s) (hs : SgOK s) (hK : KM M.1 M.2.2.2) : CLs M (s.ct 0) s.L := by
  have B := BT_1 hK
  have hc := hs.2.2.2.2 0
  refine ⟨hK, h.2.2.1 0 (by decide), hc, fun l hl => ⟨hK, ?_, ?_, ?_, by omega⟩⟩
  · have e := (B.2.2 l (by omega)).2.1
    rw [show 1 + 7 = 8 from rfl] at e
    exact e
  · have e := h.2.2.2.1.1 l hl
    rw [show 1 + 7 = 8 from rfl] at e
    exact e
  · exact Or.inl (by omega)
theorem CB.Rs {M : Mm} {s : Sg} (h : CB M 1 s) (hs : SgOK s) (hK : KM M.1 M.2.2.2) : CRs M (s.ct 1) s.P := by
  have B := BT_1 hK
  have hc := hs.2.2.2.2 1
  refine ⟨hK, h.2.2.1 1 (by decide), hc, fun l hl => ?_⟩
  have e := (B.2.2 l (by omega)).2.2.1
  have e2 := h.2.2.2.1.2.1 l hl
  rw [show 1 + 7 + 22 * l + 7 = 15 + 22 * l by omega] at e e2
  exact ⟨hK, e, e2, by omega⟩
theorem CB.Fs {M : Mm} {s : Sg} (h : CB M 1 s) (hs : SgOK s) (hK : KM M.1 M.2.2.2) : CFs M (s.ct 2) s.F := by
  have B := BT_1 hK
  have hc := hs.2.2.2.2 2
  refine ⟨hK, h.2.2.1 2 (by decide), hc, fun l hl => ?_⟩
  have e := (B.2.2 l (by omega)).2.2.2.1
  have e2 := h.2.2.2.1.2.2.1 l hl
  rw [show 1 + 7 + 22 * l + 11 = 19 + 22 * l by omega] at e e2
  exact ⟨hK, e, e2, by omega⟩
theorem CB.Ss {M : Mm} {s : Sg} (h : CB M 1 s) (hs : SgOK s) (hK : KM M.1 M.2.2.2) : CSs M (s.ct 3) s.Z := by
  have B := BT_1 hK
  have hc := hs.2.2.2.2 3
  refine ⟨hK, h.2.2.1 3 (by decide), hc, fun l hl => ?_⟩
  have e := (B.2.2 l (by omega)).2.2.2.2
  have e2 := h.2.2.2.1.2.2.2 l hl
  rw [show 1 + 7 + 22 * l + 16 = 24 + 22 * l by omega] at e e2
  exact ⟨⟨hK, e, e2.1, by omega⟩, e2.2⟩
