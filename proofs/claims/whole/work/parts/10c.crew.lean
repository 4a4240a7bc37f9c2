/-! the class: a crew on a line -/
def Lsep (h : Nat) : Prop := h + 6 < 52 ∨ 130 < h ∨ h = 54
/-- the frame of the class's calls: references may change where they aren't fixed -/
def Fc (os : List Nat) (M M' : Mm) : Prop := M'.1 = M.1 ∧ (∀ i k, i ∉ os ∨ (R0 i k).isSome = true → M'.2.2.2 i k = M.2.2.2 i k) ∧ ∀ i, i ∉ os → M'.2.1 i = M.2.1 i ∧ M'.2.2.1 i = M.2.2.1 i
theorem Fc.rf {os : List Nat} {M : Mm} : Fc os M M := ⟨rfl, fun _ _ _ => rfl, fun _ _ => ⟨rfl, rfl⟩⟩
theorem Fc.tr {os : List Nat} {M M1 M2 : Mm} (h1 : Fc os M M1) (h2 : Fc os M1 M2) : Fc os M M2 := ⟨h2.1.trans h1.1, fun i k hi => (h2.2.1 i k hi).trans (h1.2.1 i k hi), fun i hi => ⟨(h2.2.2 i hi).1.trans (h1.2.2 i hi).1, (h2.2.2 i hi).2.trans (h1.2.2 i hi).2⟩⟩
theorem Fc.sub {os os' : List Nat} {M M' : Mm} (h : Fc os M M') (hs : ∀ i, i ∈ os → i ∈ os') : Fc os' M M' := ⟨h.1, fun i k hi => h.2.1 i k (hi.elim (fun q => Or.inl (fun z => q (hs i z))) Or.inr), fun i hi => h.2.2 i (fun q => hi (hs i q))⟩
theorem Fc.up {os : List Nat} {M : Mm} {i k : Nat} {x : Int32} (hi : i ∈ os) : Fc os M (M.1, up2 M.2.1 i k x, M.2.2.1, M.2.2.2) := ⟨rfl, fun _ _ _ => rfl, fun j hj => ⟨up2_ne (fun q => hj (q ▸ hi)), rfl⟩⟩
theorem Fc.K {os : List Nat} {M M' : Mm} (h : Fc os M M') (hK : KM M.1 M.2.2.2) : KM M'.1 M'.2.2.2 := by
  refine ⟨by rw [h.1]; exact hK.1, fun i k a ha => ?_⟩
  rw [h.2.1 i k (Or.inr (by rw [ha]; rfl))]
  exact hK.2 i k a ha
theorem LnT.fc {os : List Nat} {M M' : Mm} {h : Nat} (hF : Fc os M M') (hT : LnT M h) (hs : h ∉ os) : LnT M' h := by
  obtain ⟨hA, r0, r3, r4, r6, r7, r8⟩ := hT
  refine ⟨by rw [hF.1]; exact hA, ?_, ?_, ?_, ?_, ?_, ?_⟩ <;> (rw [hF.2.1 _ _ (Or.inl hs)]; assumption)
theorem LnV.fc {os : List Nat} {M M' : Mm} {h : Nat} {D : Nat → Nat} (hF : Fc os M M') (hV : LnV M h D) (hs : ∀ j, j < 6 → h + j ∉ os) : LnV M' h D := by
  unfold LnV
  have e0 := (hF.2.2 (h + 0) (hs 0 (by decide))).1
  have e1 := (hF.2.2 (h + 1) (hs 1 (by decide))).1
  have e2 := (hF.2.2 (h + 2) (hs 2 (by decide))).1
  have e3 := (hF.2.2 (h + 3) (hs 3 (by decide))).1
  have e4 := (hF.2.2 (h + 4) (hs 4 (by decide))).1
  have e5 := (hF.2.2 (h + 5) (hs 5 (by decide))).1
  rw [Nat.add_zero] at e0
  rw [e0, e1, e2, e3, e4, e5]
  exact hV
section CC
variable {C : Ct} {M : Mm} {h S : Nat} {D b : Nat → Nat}
theorem c_pulls_loop (hK : KM M.1 M.2.2.2) (hL : M.2.2.2 82 0 = some h) (hT : LnT M h) (hV : LnV M h D) (hS : S < 256) (hb : ∀ r, r < D 2 → M.2.1 83 r = nI (b r) ∧ b r < 256) : ∀ (d i : Nat), i + d = D 2 → G C 17 (4, [some (.ref 82), some (.int (nI S)), some (.int (nI (plS D b S i))), some (.int (nI i))], [], [], M) (fun w M' => w = some (.int (nI (plS D b S (D 2)))) ∧ M' = M) := by
  have hnr : D 2 ≤ 8 := hV.1.2.2.1
  have hT' := hT
  obtain ⟨⟨t0, t1, t2, t3, t4, t5, t6⟩, r0, r3, r4, r6, r7, r8⟩ := hT
  intro d
  induction d with
  | zero =>
    intro i hi
    have hi : i = D 2 := by omega
    subst hi
    refine G_S (pc := 4) f_17_4 rfl rfl rfl ?_
    refine G_S (pc := 5) f_17_5 rfl rfl rfl ?_
    refine G_gR (pc := 6) f_17_6 (by decide) rfl (by first | assumption | exact hK.1 _ _ rfl) (by first | assumption | exact hK.2 _ _ _ rfl) ?_
    refine G_gI (pc := 9) f_17_9 (by decide) rfl (by decide) (by first | assumption | exact hK.1 _ _ rfl) ?_
    rw [hV.2.1.2.2]
    refine G_jge (pc := 12) f_17_12 rfl (fun h12 => ?_) (fun h12 => ?_)
    · refine G_S (pc := 46) f_17_46 rfl rfl rfl ?_
      exact G_ri (pc := 47) f_17_47 ⟨rfl, rfl⟩
    · exact absurd (nI_le (Nat.le_refl (D 2)) (by omega)) h12
  | succ d ih =>
    intro i hi
    have hi8 : i < 8 := by omega
    have e : (nI i).toNatClampNeg = i := nI_clamp (by omega)
    obtain ⟨b1, b2⟩ := hb i (by omega)
    refine G_S (pc := 4) f_17_4 rfl rfl rfl ?_
    refine G_S (pc := 5) f_17_5 rfl rfl rfl ?_
    refine G_gR (pc := 6) f_17_6 (by decide) rfl (by first | assumption | exact hK.1 _ _ rfl) (by first | assumption | exact hK.2 _ _ _ rfl) ?_
    refine G_gI (pc := 9) f_17_9 (by decide) rfl (by decide) (by first | assumption | exact hK.1 _ _ rfl) ?_
    rw [hV.2.1.2.2]
    refine G_jge (pc := 12) f_17_12 rfl (fun h12 => ?_) (fun h12 => ?_)
    · exact absurd h12 (nI_ge (by omega) (by omega))
    · refine G_S (pc := 15) f_17_15 rfl rfl rfl ?_
      refine G_S (pc := 16) f_17_16 rfl rfl rfl ?_
      refine G_CS (pc := 17) f_17_17 rfl rfl (by decide) rfl rfl ⟨Nat.le_of_ble_eq_true rfl, Nat.le_of_ble_eq_true rfl⟩ ?_
      refine CG.go (c_holds hS hi8) ?_
      first | refine G_bEq (pc := 20) f_17_20 rfl (fun h20 => ?_) (fun h20 => ?_) | refine G_zeq (pc := 20) f_17_20 rfl (fun h20 => ?_) (fun h20 => ?_)
      · refine G_inc1 (pc := 40) f_17_40 rfl ?_
        refine G_S (pc := 43) f_17_43 rfl rfl rfl ?_
        have e2 := ih (i + 1) (by omega)
        by_cases ht : S.testBit i = true
        · rw [show plS D b S (i + 1) = plS D b S i + pl (D (11 + i)) (b i) by rw [plS, sN, if_pos ht]; rfl, ← nI_add] at e2
          first | exact e2 | exact absurd ht h20
        · rw [show plS D b S (i + 1) = plS D b S i by rw [plS, sN, if_neg ht]; rfl] at e2
          first | exact e2 | exact absurd h20 ht
      · refine G_S (pc := 23) f_17_23 rfl rfl rfl ?_
        refine G_S (pc := 24) f_17_24 rfl rfl rfl ?_
        refine G_gR (pc := 25) f_17_25 (by decide) rfl (by first | assumption | exact hK.1 _ _ rfl) (by first | assumption | exact hK.2 _ _ _ rfl) ?_
        refine G_S (pc := 28) f_17_28 rfl rfl rfl ?_
        refine G_S (pc := 29) f_17_29 rfl rfl rfl ?_
        refine G_gR (pc := 30) f_17_30 (by decide) rfl (by first | assumption | exact hK.1 _ _ rfl) (by first | assumption | exact hK.2 _ _ _ rfl) ?_
        refine G_S (pc := 33) f_17_33 rfl rfl rfl ?_
        refine G_ia (pc := 34) f_17_34 (by first | assumption | exact hK.1 _ _ rfl) (by first | assumption | exact inn_nI (by omega) (by omega)) ?_
        rw [e, b1]
        refine G_CV (pc := 35) f_17_35 rfl rfl (by decide) rfl rfl (by first | assumption | exact hK.1 _ _ rfl) (by decide) ⟨Nat.le_of_ble_eq_true rfl, Nat.le_of_ble_eq_true rfl⟩ ?_
        refine CG.go (c_pullOf hT' hV (by omega) b2) ?_
        refine G_S (pc := 38) f_17_38 rfl rfl rfl ?_
        refine G_S (pc := 39) f_17_39 rfl rfl rfl ?_
        refine G_inc1 (pc := 40) f_17_40 rfl ?_
        refine G_S (pc := 43) f_17_43 rfl rfl rfl ?_
        have e2 := ih (i + 1) (by omega)
        by_cases ht : S.testBit i = true
        · rw [show plS D b S (i + 1) = plS D b S i + pl (D (11 + i)) (b i) by rw [plS, sN, if_pos ht]; rfl, ← nI_add] at e2
          first | exact e2 | exact absurd ht h20
        · rw [show plS D b S (i + 1) = plS D b S i by rw [plS, sN, if_neg ht]; rfl] at e2
          first | exact e2 | exact absurd h20 ht
/-- Crew.pulls(set) -/
theorem c_pulls (hK : KM M.1 M.2.2.2) (hL : M.2.2.2 82 0 = some h) (hT : LnT M h) (hV : LnV M h D) (hS : S < 256) (hb : ∀ r, r < D 2 → M.2.1 83 r = nI (b r) ∧ b r < 256) : CG C 17 [.ref 82, .int (nI S)] M (fun w M' => w = some (.int (nI (plS D b S (D 2)))) ∧ M' = M) := by
  refine CG_in (mL := 4) (hl := false) (lv := [some (.ref 82), some (.int (nI S)), none, none]) (ll := []) rfl rfl rfl ?_
  refine G_ic (v := 0) (pc := 0) f_17_0 rfl ?_
  refine G_S (pc := 1) f_17_1 rfl rfl rfl ?_
  refine G_ic (v := 0) (pc := 2) f_17_2 rfl ?_
  refine G_S (pc := 3) f_17_3 rfl rfl rfl ?_
  exact c_pulls_loop hK hL hT hV hS hb (D 2) 0 (by omega)
end CC
