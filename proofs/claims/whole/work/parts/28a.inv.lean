/-! what the law's loop keeps -/
section IVS
variable {C : Ct} {M M' : Mm} {s s' : Sg} {a : Nat → Option Nat} {z : Nat → Sg}
/-- a frame: the program's own objects change, images and the reference stand -/
def cF (M M' : Mm) : Prop := M'.1 = M.1 ∧ (∀ i k, (i = 52 ∨ 98 ≤ i ∨ (R0 i k).isSome = true) → M'.2.2.2 i k = M.2.2.2 i k) ∧ ∀ i, 98 ≤ i → M'.2.1 i = M.2.1 i ∧ M'.2.2.1 i = M.2.2.1 i
theorem cF.rf : cF M M := ⟨rfl, fun _ _ _ => rfl, fun _ _ => ⟨rfl, rfl⟩⟩
theorem cX.F (h : cX M M') : cF M M' := ⟨h.1, fun i k q => h.2.1 i k (by
    rcases q with q | q | q
    · exact Or.inl q
    · exact Or.inr (Or.inl (by omega))
    · exact Or.inr (Or.inr q)), fun i hi => h.2.2 i (Or.inr (Or.inr (by omega)))⟩
theorem CS_lt : ∀ i, i ∈ CS → i < 98 ∧ i ≠ 52 := by decide
theorem Fc.F (h : Fc CS M M') : cF M M' := ⟨h.1, fun i k q => h.2.1 i k (by
    rcases q with q | q | q
    · exact Or.inl (fun z => (CS_lt i z).2 q)
    · exact Or.inl (fun z => by have := CS_lt i z; omega)
    · exact Or.inr q), fun i hi => h.2.2 i (fun z => by have := CS_lt i z; omega)⟩
theorem cF.K (h : cF M M') (hK : KM M.1 M.2.2.2) : KM M'.1 M'.2.2.2 := ⟨by rw [h.1]; exact hK.1, fun i k a q => (h.2.1 i k (Or.inr (Or.inr (by rw [q]; rfl)))).trans (hK.2 i k a q)⟩
theorem BT.re {b : Nat} (q : BT M b) (e1 : M'.1 = M.1) (e2 : ∀ i, b ≤ i → M'.2.2.2 i = M.2.2.2 i) : BT M' b := by
  unfold BT OT LnT RT_ FT_ ST_ at q ⊢
  rw [e1, e2 b (by omega), e2 (b + 3) (by omega), e2 (b + 4) (by omega), e2 (b + 5) (by omega), e2 (b + 6) (by omega)]
  refine ⟨q.1, q.2.1, fun l hl => ?_⟩
  have q3 := q.2.2 l hl
  rw [e2 (b + 7 + 22 * l) (by omega), e2 (b + 7 + 22 * l + 7) (by omega), e2 (b + 7 + 22 * l + 11) (by omega), e2 (b + 7 + 22 * l + 16) (by omega)]
  exact q3
/-- how many images were made -/
def c01 (x : Option Nat) : Nat := match x with
  | none => 0
  | some _ => 1
theorem c01_le (x : Option Nat) : c01 x ≤ 1 := by
  cases x
  · exact Nat.zero_le _
  · exact Nat.le_refl _
def cnI (a : Nat → Option Nat) : Nat := c01 (a 0) + c01 (a 1) + c01 (a 2)
theorem cnI_le (a : Nat → Option Nat) : cnI a ≤ 3 := by
  have h0 := c01_le (a 0)
  have h1 := c01_le (a 1)
  have h2 := c01_le (a 2)
  unfold cnI
  omega
theorem cnI_up {j p : Nat} (hj : j < 3) (h : a j = none) : cnI (up1 a j (some p)) = cnI a + 1 := by
  have e0 : c01 (a j) = 0 := by rw [h]; rfl
  have e1 : c01 (up1 a j (some p) j) = 1 := by rw [up1_s]; rfl
  have e2 : ∀ i, i ≠ j → c01 (up1 a j (some p) i) = c01 (a i) := fun i hi => by rw [up1_o hi rfl]
  unfold cnI
  rcases (show j = 0 ∨ j = 1 ∨ j = 2 by omega) with rfl | rfl | rfl
  · rw [e1, e2 1 (by decide), e2 2 (by decide)]
    omega
  · rw [e1, e2 0 (by decide), e2 2 (by decide)]
    omega
  · rw [e1, e2 0 (by decide), e2 1 (by decide)]
    omega
/-- the program's side: told, images -/
def IvC (M : Mm) (s : Sg) (a : Nat → Option Nat) (z : Nat → Sg) : Prop := KM M.1 M.2.2.2 ∧ (M.1.length = 131 + 51 * cnI a ∧ ssum M.1 = ssum T0 + ssum TTd * cnI a) ∧ SgOK s ∧ CB M 1 s ∧ (∀ k, k < 3 → a k = none → M.2.2.2 52 k = none) ∧ (∀ k p, k < 3 → a k = some p → p < cnI a ∧ M.2.2.2 52 k = some (131 + 51 * p) ∧ SgOK (z k) ∧ BT M (131 + 51 * p) ∧ CB M (131 + 51 * p) (z k)) ∧ ∀ k k' p, k < 3 → k' < 3 → a k = some p → a k' = some p → k = k'
/-- the reference's side -/
def IvM (M : Mm) (s : Sg) (a : Nat → Option Nat) (z : Nat → Sg) : Prop := MSl M 0 s ∧ (∀ k, k < 3 → a k = none → M.2.1 130 k = nI 0) ∧ ∀ k p, k < 3 → a k = some p → M.2.1 130 k = nI 1 ∧ SgOK (z k) ∧ MSl M (k + 1) (z k)
theorem IvC.K (I : IvC M s a z) : KM M.1 M.2.2.2 := I.1
theorem IvC.sg (I : IvC M s a z) : SgOK s := I.2.2.1
theorem IvC.cb (I : IvC M s a z) : CB M 1 s := I.2.2.2.1
theorem IvC.len (I : IvC M s a z) : M.1.length ≤ 600000 := by
  have := cnI_le a
  have := I.2.1.1
  omega
theorem IvC.Ls (I : IvC M s a z) : CLs M (s.ct 0) s.L := I.cb.Ls I.sg I.K
theorem IvC.Rs (I : IvC M s a z) : CRs M (s.ct 1) s.P := I.cb.Rs I.sg I.K
theorem IvC.Fs (I : IvC M s a z) : CFs M (s.ct 2) s.F := I.cb.Fs I.sg I.K
theorem IvC.Ss (I : IvC M s a z) : CSs M (s.ct 3) s.Z := I.cb.Ss I.sg I.K
theorem IvM.Ls (J : IvM M s a z) (I : IvC M s a z) : MLs M (s.ct 0) s.L := J.1.Ls I.sg I.K
theorem IvM.Rs (J : IvM M s a z) (I : IvC M s a z) : MRs M (s.ct 1) s.P := J.1.Rs I.sg I.K
theorem IvM.Fs (J : IvM M s a z) (I : IvC M s a z) : MFs M (s.ct 2) s.F := J.1.Fs I.sg I.K
theorem IvM.Ss (J : IvM M s a z) (I : IvC M s a z) : MSs M (s.ct 3) s.Z := J.1.Ss I.sg I.K
theorem IvC.cf (I : IvC M s a z) (F : cF M M') (hs' : SgOK s') (c : CB M' 1 s') : IvC M' s' a z := by
  obtain ⟨hK, hl, hs, hc, h0, h1, hd⟩ := I
  refine ⟨F.K hK, by rw [F.1]; exact hl, hs', c, fun k hk q => (F.2.1 52 k (Or.inl rfl)).trans (h0 k hk q), fun k p hk q => ?_, hd⟩
  obtain ⟨p1, p2, p3, p4, p5⟩ := h1 k p hk q
  exact ⟨p1, (F.2.1 52 k (Or.inl rfl)).trans p2, p3, p4.re F.1 (fun i hi => funext (fun k => F.2.1 i k (Or.inr (Or.inl (by omega))))), p5.cN p3 (fun i hi => (F.2.2 i (by omega)).1)⟩
theorem u2_CS : ∀ i, i ∈ u2O → i ∉ CS := by decide
theorem u2_98 : ∀ i, i ∈ u2O → i < 98 := by decide
theorem IvC.ask (I : IvC M s a z) (F : Fc CS M M') : IvC M' s a z := I.cf F.F I.sg (I.cb.c1 I.sg (fun i hi => (F.2.2 i (u2_CS i hi)).1))
theorem IvM.cf (J : IvM M s a z) (hs : SgOK s) (F : cF M M') : IvM M' s a z := by
  obtain ⟨j0, j1, j2⟩ := J
  have e := (F.2.2 130 (by decide)).1
  refine ⟨j0.g hs (fun i h1 h2 => (F.2.2 i (by omega)).1), fun k hk q => by rw [e]; exact j1 k hk q, fun k p hk q => ?_⟩
  obtain ⟨p1, p2, p3⟩ := j2 k p hk q
  exact ⟨by rw [e]; exact p1, p2, p3.g p2 (fun i h1 h2 => (F.2.2 i (by omega)).1)⟩
theorem IvC.r (I : IvC M s a z) (R : mRr M M') : IvC M' s a z := by
  obtain ⟨hK, hl, hs, hc, h0, h1, hd⟩ := I
  have e1 := R.1.1
  have e2 := R.1.2
  refine ⟨by rw [e1, e2]; exact hK, by rw [e1]; exact hl, hs, hc.c1 hs (fun i hi => (R.2 i (by have := u2_98 i hi; omega)).1), fun k hk q => by rw [e2]; exact h0 k hk q, fun k p hk q => ?_, hd⟩
  obtain ⟨p1, p2, p3, p4, p5⟩ := h1 k p hk q
  exact ⟨p1, by rw [e2]; exact p2, p3, p4.sm e1 e2, p5.cN p3 (fun i hi => (R.2 i (by omega)).1)⟩
theorem IvM.q (J : IvM M s a z) (R : RMq M M' s') : IvM M' s' a z := by
  obtain ⟨j0, j1, j2⟩ := J
  obtain ⟨r1, r2, r3, r4⟩ := R
  refine ⟨r2, fun k hk q => by rw [r4]; exact j1 k hk q, fun k p hk q => ?_⟩
  obtain ⟨p1, p2, p3⟩ := j2 k p hk q
  exact ⟨by rw [r4]; exact p1, p2, p3.eq p2 (r3 (k + 1) (by omega) (by omega))⟩
theorem IvM.mq (J : IvM M s a z) (hs : SgOK s) (R : mQ M M') : IvM M' s a z := by
  obtain ⟨j0, j1, j2⟩ := J
  have e := (R.2 130 (by decide)).1
  refine ⟨j0.eq hs (R.sl 0), fun k hk q => by rw [e]; exact j1 k hk q, fun k p hk q => ?_⟩
  obtain ⟨p1, p2, p3⟩ := j2 k p hk q
  exact ⟨by rw [e]; exact p1, p2, p3.eq p2 (R.sl (k + 1))⟩
/-- both stand at one state -/
def Jn (M : Mm) : Prop := ∃ s a z, IvC M s a z ∧ IvM M s a z
/-- a call of the program, then the same call of the reference: both answer v -/
def Two (C : Ct) (y1 y2 : Nat) (as : List Value) (M : Mm) (v : Value) : Prop := CG C y1 (.ref 0 :: as) M (fun w M1 => w = some v ∧ (KM M1.1 M1.2.2.2 ∧ M1.1.length ≤ 600000) ∧ CG C y2 (.ref 98 :: as) M1 (fun w2 M2 => w2 = some v ∧ Jn M2))
variable {y1 y2 : Nat} {as : List Value} {v : Value}
theorem Two.of {P : Mm → Prop} {a' : Nat → Option Nat} {z' : Nat → Sg} (h1 : CG C y1 (.ref 0 :: as) M (fun w M' => w = some v ∧ P M')) (hc : ∀ M1, P M1 → IvC M1 s' a' z') (h2 : ∀ M1, P M1 → IvC M1 s' a' z' → CG C y2 (.ref 98 :: as) M1 (fun w M' => w = some v ∧ Jn M')) : Two C y1 y2 as M v := h1.mono (by
  rintro w M1 ⟨rfl, p⟩
  exact ⟨rfl, ⟨(hc M1 p).K, (hc M1 p).len⟩, h2 M1 p (hc M1 p)⟩)
theorem Two.ask (I : IvC M s a z) (J : IvM M s a z) (h1 : CG C y1 (.ref 0 :: as) M (fun w M' => w = some v ∧ Fc CS M M')) (h2 : ∀ M1, IvC M1 s a z → IvM M1 s a z → CG C y2 (.ref 98 :: as) M1 (fun w M' => w = some v ∧ mQ M1 M')) : Two C y1 y2 as M v := Two.of h1 (fun M1 p => I.ask p) (fun M1 p I1 => (h2 M1 I1 (J.cf I.sg p.F)).mono (by
  rintro w M2 ⟨rfl, q⟩
  exact ⟨rfl, s, a, z, I1.r q.R, (J.cf I.sg p.F).mq I.sg q⟩))
theorem Two.ask0 (I : IvC M s a z) (J : IvM M s a z) (h1 : CG C y1 (.ref 0 :: as) M (fun w M' => w = some v ∧ M' = M)) (h2 : CG C y2 (.ref 98 :: as) M (fun w M' => w = some v ∧ mQ M M')) : Two C y1 y2 as M v := Two.of h1 (fun M1 p => by rw [p]; exact I) (fun M1 p I1 => by
  rw [p]
  refine h2.mono ?_
  rintro w M2 ⟨rfl, q⟩
  exact ⟨rfl, s, a, z, I.r q.R, J.mq I.sg q⟩)
/-- the state changes, images stand -/
theorem Two.to (I : IvC M s a z) (J : IvM M s a z) (h1 : CG C y1 (.ref 0 :: as) M (fun w M' => w = some v ∧ (cF M M' ∧ CB M' 1 s') ∧ SgOK s')) (h2 : ∀ M1, KM M1.1 M1.2.2.2 → IvM M1 s a z → CG C y2 (.ref 98 :: as) M1 (fun w M' => w = some v ∧ RMq M1 M' s')) : Two C y1 y2 as M v := Two.of h1 (fun M1 p => I.cf p.1.1 p.2 p.1.2) (fun M1 p I1 => (h2 M1 I1.K (J.cf I.sg p.1.1)).mono (by
  rintro w M2 ⟨rfl, q⟩
  exact ⟨rfl, s', a, z, I1.r q.1, (J.cf I.sg p.1.1).q q⟩))
/-- what fits was judged -/
theorem CB.jf {l0 : Nat} (h : CB M 1 s) (hs : SgOK s) (hl0 : l0 < s.ct 3) (F : JF (24 + 22 * l0) M M') (h5 : M'.2.1 (24 + 22 * l0) 5 = nI 1) (hV : JV M' (24 + 22 * l0) (s.Z l0)) : CB M' 1 s := by
  obtain ⟨⟨h1, h2, h3⟩, ht, hc, ⟨hL, hP, hF, hZ⟩, hj⟩ := h
  obtain ⟨f1, f2, f3, f4, f5⟩ := F
  have s5 := hs.2.2.2.2
  have hl2 : l0 < 2 := by have := s5 3; omega
  have e : ∀ i, i < 95 → i ≠ 24 + 22 * l0 → i ≠ 28 + 22 * l0 → i ≠ 29 + 22 * l0 → M'.2.1 i = M.2.1 i := fun i a b c d => f4 i b (by omega) (by omega) (by omega) (by omega) (by omega)
  refine ⟨by rw [e 1 (by decide) (by omega) (by omega) (by omega)]; exact ⟨h1, h2, h3⟩, fun i hi => by rw [e (1 + 1) (by decide) (by omega) (by omega) (by omega)]; exact ht i hi, fun so hso => by rw [e (1 + 2) (by decide) (by omega) (by omega) (by omega)]; exact hc so hso, ⟨fun l hl => ?_, fun l hl => ?_, fun l hl => ?_, fun l hl => ?_⟩, fun l hl => ?_⟩
  · have := s5 0
    exact (hL l hl).eq (LQ.self (fun j hj => e _ (by omega) (by omega) (by omega) (by omega)))
  · have := s5 1
    exact (hP l hl).eq (RQ.self (fun j hj => e _ (by omega) (by omega) (by omega) (by omega)))
  · have := s5 2
    exact (hF l hl).eq (FQ.self (fun j hj => e _ (by omega) (by omega) (by omega) (by omega)))
  · have := s5 3
    by_cases q : l = l0
    · subst q
      have hz := hZ l hl
      have eu : 1 + 7 + 22 * l + 16 = 24 + 22 * l := by omega
      rw [eu] at hz ⊢
      obtain ⟨⟨o, g0, g1, g2, g3, g4⟩, _⟩ := hz
      refine ⟨⟨o, (f5 0 (by decide) (by decide) (by decide)).trans g0, (f5 1 (by decide) (by decide) (by decide)).trans g1, ?_, ?_, ?_⟩, Or.inr ⟨h5, hV⟩⟩
      · rw [e (24 + 22 * l + 1) (by omega) (by omega) (by omega) (by omega)]
        exact g2
      · rw [e (24 + 22 * l + 2) (by omega) (by omega) (by omega) (by omega)]
        exact g3
      · rw [e (24 + 22 * l + 3) (by omega) (by omega) (by omega) (by omega)]
        exact g4
    · exact (hZ l hl).eq (SQ.self (fun j hj => e _ (by omega) (by omega) (by omega) (by omega)))
  · by_cases q : l = l0
    · subst q
      have eu : 1 + 7 + 22 * l + 16 = 24 + 22 * l := by omega
      rw [eu]
      exact Or.inr h5
    · rw [e _ (by omega) (by omega) (by omega) (by omega)]
      exact hj l hl
theorem JF.F {u : Nat} (h : JF u M M') (hu : u + 5 < 98) : cF M M' := ⟨h.1, fun i k _ => by rw [h.2.2.1], fun i hi => ⟨h.2.2.2.1 i (by omega) (by omega) (by omega) (by omega) (by omega) (by omega), by rw [h.2.1]⟩⟩
theorem Fo.F {os : List Nat} (h : Fo os M M') (ho : ∀ i, i ∈ os → i < 98) : cF M M' := ⟨h.1.1, fun i k _ => by rw [h.1.2], fun i hi => h.2 i (fun q => by have := ho i q; omega)⟩
end IVS
