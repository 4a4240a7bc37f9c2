/-! the class reads a statement -/
def CDt (M : Mm) (so : Nat) (E : Nat → Int) : Prop := (so = 0 → CD0 M E ∧ EO0 E) ∧ (so = 1 → CD1 M E ∧ ROK E) ∧ (so = 2 → CD2 M E ∧ EO2 E) ∧ (so = 3 → CD3 M E ∧ EO3 E)
theorem CDt.fp {M M' : Mm} {so : Nat} {E : Nat → Int} {os fs : List Nat} (h : CDt M so E) (hF : Fp 53 os fs M M') (ho : ∀ i, i ∈ RDo → i ∉ os) : CDt M' so E := by
  have e : ∀ i, i ∈ RDo → M'.2.1 i = M.2.1 i := fun i hi => (hF.2.1 i (fun q => by subst q; exact absurd hi (by decide)) (ho i hi)).1
  unfold CDt CD0 CD1 CD2 CD3
  rw [e 54 (by decide), e 55 (by decide), e 56 (by decide), e 57 (by decide), e 58 (by decide), e 59 (by decide), e 61 (by decide), e 62 (by decide), e 63 (by decide), e 64 (by decide), e 65 (by decide), e 66 (by decide), e 70 (by decide), e 71 (by decide), e 72 (by decide), e 73 (by decide)]
  exact h
theorem ff_0 : ffN 0 = 0 ∧ ffN 1 = 5 ∧ ffN 2 = 13 ∧ ffN 3 = 15 ∧ ffN 4 = 18 := by decide
theorem ff_r {so g : Nat} (hs : so < 4) (h1 : ffN so ≤ g) (h2 : g < ffN (so + 1)) : (so = 0 ∧ g < 5) ∨ (so = 1 ∧ 5 ≤ g ∧ g < 13) ∨ (so = 2 ∧ 13 ≤ g ∧ g < 15) ∨ (so = 3 ∧ 15 ≤ g ∧ g < 18) := by
  obtain ⟨f0, f1, f2, f3, f4⟩ := ff_0
  rcases (show so = 0 ∨ so = 1 ∨ so = 2 ∨ so = 3 by omega) with rfl | rfl | rfl | rfl
  · rw [show 0 + 1 = 1 from rfl, f1] at h2
    exact Or.inl ⟨rfl, h2⟩
  · rw [show 1 + 1 = 2 from rfl, f2] at h2
    rw [f1] at h1
    exact Or.inr (Or.inl ⟨rfl, h1, h2⟩)
  · rw [show 2 + 1 = 3 from rfl, f3] at h2
    rw [f2] at h1
    exact Or.inr (Or.inr (Or.inl ⟨rfl, h1, h2⟩))
  · rw [show 3 + 1 = 4 from rfl, f4] at h2
    rw [f3] at h1
    exact Or.inr (Or.inr (Or.inr ⟨rfl, h1, h2⟩))
theorem ful_Z {M : Mm} {so g : Nat} {E : Nat → Int} (hs : so < 4) (h1 : ffN so ≤ g) (h2 : g < ffN (so + 1)) (h : CDt M so E) : fulZ M g = fulB g E := by
  rcases ff_r hs h1 h2 with ⟨rfl, hr⟩ | ⟨rfl, hr⟩ | ⟨rfl, hr⟩ | ⟨rfl, hr⟩
  · obtain ⟨⟨⟨a0, a1, a2⟩, _⟩, e⟩ := h.1 rfl
    have b0 := e.1
    have b2 := e.2.2.1
    unfold fulZ fulB
    rw [a0, a2, zI_toInt (by omega) (by omega), zI_toInt (by omega) (by omega), if_neg (show ¬ (5 ≤ g ∧ g ≤ 12) by omega), if_neg (show ¬ (5 ≤ g ∧ g ≤ 12) by omega), if_neg (show ¬ (g = 16 ∨ g = 17) by omega), if_neg (show ¬ (g = 16 ∨ g = 17) by omega)]
  · obtain ⟨⟨a0, _⟩, e⟩ := h.2.1 rfl
    have b0 := e.1
    unfold fulZ fulB
    rw [a0, zI_toInt (by omega) (by omega), if_neg (show ¬ g = 0 by omega), if_neg (show ¬ g = 0 by omega), if_neg (show ¬ g = 2 by omega), if_neg (show ¬ g = 2 by omega), if_neg (show ¬ (g = 16 ∨ g = 17) by omega), if_neg (show ¬ (g = 16 ∨ g = 17) by omega)]
  · unfold fulZ fulB
    rw [if_neg (show ¬ g = 0 by omega), if_neg (show ¬ g = 0 by omega), if_neg (show ¬ g = 2 by omega), if_neg (show ¬ g = 2 by omega), if_neg (show ¬ (5 ≤ g ∧ g ≤ 12) by omega), if_neg (show ¬ (5 ≤ g ∧ g ≤ 12) by omega), if_neg (show ¬ (g = 16 ∨ g = 17) by omega), if_neg (show ¬ (g = 16 ∨ g = 17) by omega)]
  · obtain ⟨⟨⟨a0, a1, _⟩, _⟩, e⟩ := h.2.2.2 rfl
    have b1 := e.2.1
    unfold fulZ fulB
    rw [a1, zI_toInt (by omega) (by omega), if_neg (show ¬ g = 0 by omega), if_neg (show ¬ g = 0 by omega), if_neg (show ¬ g = 2 by omega), if_neg (show ¬ g = 2 by omega), if_neg (show ¬ (5 ≤ g ∧ g ≤ 12) by omega), if_neg (show ¬ (5 ≤ g ∧ g ≤ 12) by omega)]
theorem fm_tab : (∀ g, g < 4 → fmN g 1 = 1) ∧ fmN 4 1 = 2 ∧ fmN 13 1 = 1 ∧ fmN 14 1 = 2 ∧ fmN 15 1 = 1 ∧ fmN 16 1 = 2 ∧ fmN 17 1 = 2 ∧ fmN 2 0 = 1 ∧ fmN 3 0 = 1 := by decide
theorem nb_z {M : Mm} {t : Nat → Int} {n g p2 : Nat} (h : NBq M t n p2 (fmN g 1)) : M.2.1 77 0 = zI (v1F t n g p2) ∧ M.2.1 77 1 = zI (v2F t n g p2) := by
  obtain ⟨h1, h2⟩ := h
  rw [h1, h2]
  unfold v1F v2F
  refine ⟨?_, ?_⟩
  · split
    · rw [nI_zI]
    · rfl
  · split
    · rw [nI_zI]
    · rfl
theorem good_1 {t : Nat → Int} {n g p2 : Nat} (h : goodB t n g p2 = true) : (1 ≤ fmN g 1 → badB g 0 (vN t n p2) = false) ∧ (2 ≤ fmN g 1 → badB g 1 (vN t n (tkR t n p2)) = false) := by
  unfold goodB at h
  rw [Bool.and_eq_true, Bool.or_eq_true, Bool.or_eq_true] at h
  refine ⟨fun q => ?_, fun q => ?_⟩
  · rcases h.1 with z | z
    · exact absurd (of_decide_eq_true z) (by omega)
    · exact Bool.not_eq_true' _ ▸ z
  · rcases h.2 with z | z
    · exact absurd (of_decide_eq_true z) (by omega)
    · exact Bool.not_eq_true' _ ▸ z
theorem nmS_good {t : Nat → Int} {n g p2 : Nat} {f : Nat × Nat} {q : Nat × (Nat × Nat)} (hg : g < 18) (h : nmS t n g (fmN g 1) 0 p2 f = .inr q) (h0 : q.2.1 = 0) : f.1 = 0 ∧ goodB t n g p2 = true := by
  have hc := (fmN_c g hg).2
  unfold goodB
  rcases (show fmN g 1 = 0 ∨ fmN g 1 = 1 ∨ fmN g 1 = 2 by omega) with e | e | e
  · rw [e] at h ⊢
    cases h
    exact ⟨h0, rfl⟩
  · rw [e] at h ⊢
    rw [nmS] at h
    split at h
    · cases h
      have := nt_0 (by decide) h0
      rw [this.2.1]
      exact ⟨this.1, rfl⟩
    · cases h
  · rw [e] at h ⊢
    rw [nmS] at h
    split at h
    · rw [nmS] at h
      split at h
      · cases h
        have h1 := nt_0 (by decide) h0
        rw [h1.2.2] at h0
        have h2 := nt_0 (by decide) h0
        rw [h1.2.1, h2.2.1]
        exact ⟨h2.1, rfl⟩
      · cases h
    · cases h
section CSM
variable {C : Ct} {M : Mm} {t : Nat → Int} {n p so g kd Tt : Nat} {f : Nat × Nat} {E : Nat → Int}
theorem c_takeS {p2 : Nat} (hK : KM M.1 M.2.2.2) (hD : CDt M so E) (hs : so < 4) (h1 : ffN so ≤ g) (h2 : g < ffN (so + 1)) (hN : NBq M t n p2 (fmN g 1)) (hkd : fmN g 0 = 1 → M.2.1 53 12 = nI kd) (hk4 : kd < 4) (hful : fulB g E = false) (hgd : goodB t n g p2 = true) : CG C 77 [.ref 53, .int (nI g)] M (fun w M' => w = none ∧ Fp 53 RDo [] M M' ∧ CDt M' so (tkE g kd (v1F t n g p2) (v2F t n g p2) (goodB t n g p2) E)) := by
  obtain ⟨c4, c5, c13, c14, c15, c16, c17, k2, k3⟩ := fm_tab
  obtain ⟨z1, z2⟩ := nb_z hN
  obtain ⟨g1, g2⟩ := good_1 hgd
  rw [hgd]
  have v1y : 1 ≤ fmN g 1 → v1F t n g p2 = (vN t n p2 : Int) ∧ M.2.1 77 0 = nI (vN t n p2) := fun q => by
    have e : v1F t n g p2 = (vN t n p2 : Int) := if_pos q
    exact ⟨e, by rw [z1, e, nI_zI]⟩
  have v2y : 2 ≤ fmN g 1 → v2F t n g p2 = (vN t n (tkR t n p2) : Int) ∧ M.2.1 77 1 = nI (vN t n (tkR t n p2)) := fun q => by
    have e : v2F t n g p2 = (vN t n (tkR t n p2) : Int) := if_pos q
    exact ⟨e, by rw [z2, e, nI_zI]⟩
  rcases ff_r hs h1 h2 with ⟨rfl, hr⟩ | ⟨rfl, hr⟩ | ⟨rfl, hr⟩ | ⟨rfl, hr⟩
  · have hc1 : 1 ≤ fmN g 1 := by
      by_cases q : g = 4
      · subst q
        omega
      · rw [c4 g (by omega)]
        omega
    have hc2 : g = 4 → 2 ≤ fmN g 1 := fun q => by subst q; omega
    obtain ⟨e1, m1⟩ := v1y hc1
    rw [e1]
    have hv2 : ∃ v2 : Nat, tkE g kd (vN t n p2 : Int) (v2F t n g p2) true E = tkE g kd (vN t n p2 : Int) (v2 : Int) true E ∧ (g = 4 → M.2.1 77 1 = nI v2) ∧ (g = 4 → badB g 1 v2 = false) := by
      by_cases q : g = 4
      · obtain ⟨e2, m2⟩ := v2y (hc2 q)
        exact ⟨_, by rw [e2], fun _ => m2, fun _ => g2 (hc2 q)⟩
      · refine ⟨0, ?_, fun z => absurd z q, fun z => absurd z q⟩
        rcases (show g = 0 ∨ g = 1 ∨ g = 2 ∨ g = 3 by omega) with rfl | rfl | rfl | rfl <;> rfl
    obtain ⟨v2, ev, m2, b2⟩ := hv2
    rw [ev]
    refine CG.mono (c_take0 hK (hD.1 rfl).1 (hD.1 rfl).2 (by omega) m1 m2 (fun q => hkd (by rcases q with rfl | rfl; exact k2; exact k3)) hk4 hful (g1 hc1) b2) ?_
    rintro w M' ⟨rfl, hF, q1, q2⟩
    exact ⟨rfl, hF, fun _ => ⟨q1, q2⟩, fun q => absurd q (by decide), fun q => absurd q (by decide), fun q => absurd q (by decide)⟩
  · have hb1 : -1 ≤ v1F t n g p2 ∧ v1F t n g p2 ≤ 99 := by
      unfold v1F
      split
      · rename_i q
        have h1 := of_decide_eq_false (g1 q)
        have h2 := (fmN_at g (by omega) (3 + 2 * 0) (by decide)).2
        omega
      · omega
    have hb2 : -1 ≤ v2F t n g p2 ∧ v2F t n g p2 ≤ 99 := by
      unfold v2F
      split
      · rename_i q
        have h1 := of_decide_eq_false (g2 q)
        have h2 := (fmN_at g (by omega) (3 + 2 * 1) (by decide)).2
        omega
      · omega
    refine CG.mono (c_take1 (kd := kd) (gd := true) hK (hD.2.1 rfl).1 (hD.2.1 rfl).2 (by omega) z1 z2 hful hb1 hb2) ?_
    rintro w M' ⟨rfl, hF, q1, q2⟩
    exact ⟨rfl, hF, fun q => absurd q (by decide), fun _ => ⟨q1, q2⟩, fun q => absurd q (by decide), fun q => absurd q (by decide)⟩
  · have hc1 : 1 ≤ fmN g 1 := by
      rcases (show g = 13 ∨ g = 14 by omega) with rfl | rfl <;> omega
    have hc2 : g = 14 → 2 ≤ fmN g 1 := fun q => by subst q; omega
    obtain ⟨e1, m1⟩ := v1y hc1
    rw [e1]
    have hv2 : ∃ v2 : Nat, tkE g kd (vN t n p2 : Int) (v2F t n g p2) true E = tkE g kd (vN t n p2 : Int) (v2 : Int) true E ∧ (g = 14 → M.2.1 77 1 = nI v2) ∧ (g = 14 → badB g 1 v2 = false) := by
      by_cases q : g = 14
      · obtain ⟨e2, m2⟩ := v2y (hc2 q)
        exact ⟨_, by rw [e2], fun _ => m2, fun _ => g2 (hc2 q)⟩
      · refine ⟨0, ?_, fun z => absurd z q, fun z => absurd z q⟩
        rw [show g = 13 by omega]
        rfl
    obtain ⟨v2, ev, m2, b2⟩ := hv2
    rw [ev]
    refine CG.mono (c_take2 (kd := kd) hK (hD.2.2.1 rfl).1 (hD.2.2.1 rfl).2 (by omega) rfl m1 m2 (g1 hc1) b2) ?_
    rintro w M' ⟨rfl, hF, q1, q2⟩
    exact ⟨rfl, hF, fun q => absurd q (by decide), fun q => absurd q (by decide), fun _ => ⟨q1, q2⟩, fun q => absurd q (by decide)⟩
  · have hc1 : 1 ≤ fmN g 1 := by
      rcases (show g = 15 ∨ g = 16 ∨ g = 17 by omega) with rfl | rfl | rfl <;> omega
    have hc2 : 16 ≤ g → 2 ≤ fmN g 1 := fun q => by
      rcases (show g = 16 ∨ g = 17 by omega) with rfl | rfl <;> omega
    obtain ⟨e1, m1⟩ := v1y hc1
    rw [e1]
    refine CG.mono (c_take3 (kd := kd) (gd := true) (v2 := vN t n (tkR t n p2)) hK (hD.2.2.2 rfl).1 (hD.2.2.2 rfl).2 (by omega) m1 (fun q => ⟨(v2y (hc2 q)).2, (v2y (hc2 q)).1⟩) hful (g1 hc1) (fun q => g2 (hc2 q))) ?_
    rintro w M' ⟨rfl, hF, q1, q2⟩
    exact ⟨rfl, hF, fun q => absurd q (by decide), fun q => absurd q (by decide), fun q => absurd q (by decide), fun _ => ⟨q1, q2⟩⟩
def RSo : List Nat := [54, 55, 56, 57, 58, 59, 61, 62, 63, 64, 65, 66, 70, 71, 72, 73, 77]
def RSf : List Nat := [4, 5, 8, 9, 10, 11, 12]
def RSq (t : Nat → Int) (n so : Nat) (M : Mm) (r : Sum Nat (Nat × (Nat × Nat) × (Nat → Int) × Nat)) (w : Option Value) (M' : Mm) : Prop := Fp 53 RSo RSf M M' ∧ (match r with
  | .inl e => w = some (.int (b2i (False))) ∧ M'.2.1 53 10 = nI e
  | .inr q => w = some (.int (b2i (True))) ∧ TCk M' t n q.1 ∧ FRd M' q.2.1 ∧ (q.2.1.1 = 0 → CDt M' so q.2.2.1))
theorem c_tail {M4 : Mm} {p2 : Nat} {f1 : Nat × Nat} (hC : CK C) (W : KTp M t n) (hF : Fp 53 RSo RSf M M4) (T4 : TCk M4 t n p2) (hf4 : FRd M4 f1) (hp : p2 ≤ n) (hs : so < 4) (h1 : ffN so ≤ g) (h2 : g < ffN (so + 1)) (hD : f1.1 = 0 → CDt M4 so E ∧ fulB g E = false) (hkd : fmN g 0 = 1 → M4.2.1 53 12 = nI kd) (hk4 : kd < 4) : G C 72 (42, [some (.ref 53), some (.int (nI so)), some (.int (nI g))], [], [], M4) (RSq t n so M (match nmS t n g (fmN g 1) 0 p2 f1 with
      | .inl e => .inl e
      | .inr pf => if tkK t n pf.1 = 3 then .inr (tkR t n pf.1, pf.2, tkE g kd (v1F t n g p2) (v2F t n g p2) (goodB t n g p2) E, tkT g (v1F t n g p2) Tt) else .inl (skp t n pf.1))) := by
  have hg : g < 18 := by
    have := (ffN_at (so + 1) (by omega)).2
    omega
  have W4 := W.fp hF (by decide) (by decide)
  have hK := W4.1
  have tn := c_readNums hC W4 T4 hf4 hp hg
  cases hm : nmS t n g (fmN g 1) 0 p2 f1 with
  | inl e =>
    rw [hm] at tn
    refine G_S (pc := 42) f_72_42 rfl rfl rfl ?_
    refine G_S (pc := 43) f_72_43 rfl rfl rfl ?_
    refine G_CV (pc := 44) f_72_44 rfl rfl (by decide) rfl rfl (by first | assumption | exact hK.1 _ _ rfl) (by decide) ⟨Nat.le_of_ble_eq_true rfl, Nat.le_of_ble_eq_true rfl⟩ ?_
    refine CG.mono (tn) ?_
    rintro _ M5 ⟨hF5, rfl, h10⟩
    first | refine G_bEq (pc := 47) f_72_47 rfl (fun b4 => ?_) (fun b4 => ?_) | refine G_zeqZ (pc := 47) f_72_47 rfl (by first | exact nI_toInt (by omega) | exact zI_toInt (by omega) (by omega) | rfl) (fun b4 => ?_) (fun b4 => ?_)
    · refine G_ic (v := nI 0) (pc := 58) f_72_58 (by decide) ?_
      refine G_rz (pc := 59) f_72_59 (by first | exact Or.inl rfl | exact Or.inr rfl | exact b2i_01 _ | assumption) ?_
      exact ⟨hF.tr (hF5.sub (by decide) (by decide)), rfl, h10⟩
    · exact absurd b4 id
  | inr pf =>
    rw [hm] at tn
    have hb := nmS_b _ _ _ _ _ hp hm
    dsimp only
    have hk4' := tkK_le t n pf.1
    by_cases h3 : tkK t n pf.1 = 3
    · rw [if_pos h3]
      have hx := tk_nx hb.2 (show tkK t n pf.1 ≠ 0 by omega)
      refine G_S (pc := 42) f_72_42 rfl rfl rfl ?_
      refine G_S (pc := 43) f_72_43 rfl rfl rfl ?_
      refine G_CV (pc := 44) f_72_44 rfl rfl (by decide) rfl rfl (by first | assumption | exact hK.1 _ _ rfl) (by decide) ⟨Nat.le_of_ble_eq_true rfl, Nat.le_of_ble_eq_true rfl⟩ ?_
      refine CG.mono (tn) ?_
      rintro _ M5 ⟨hF5, rfl, T5, hf5, hN5⟩
      have hFM5 := hF.tr (hF5.sub (os' := RSo) (fs' := RSf) (by decide) (by decide))
      have W5 := W.fp hFM5 (by decide) (by decide)
      have hK := W5.1
      have t9 := T5.2.1
      first | refine G_bEq (pc := 47) f_72_47 rfl (fun b4 => ?_) (fun b4 => ?_) | refine G_zeqZ (pc := 47) f_72_47 rfl (by first | exact nI_toInt (by omega) | exact zI_toInt (by omega) (by omega) | rfl) (fun b4 => ?_) (fun b4 => ?_)
      · exact absurd trivial b4
      · refine G_S (pc := 50) f_72_50 rfl rfl rfl ?_
        refine G_gIv (pc := 51) f_72_51 (by decide) rfl (by decide) (by first | assumption | exact hK.1 _ _ rfl) (by first | assumption | exact mI_s | ((refine mI_o (by first | decide | omega) ?_); (repeat (refine mI_o (by first | decide | omega) ?_)); first | exact mI_s | assumption) | rfl) ?_
        refine G_ic (v := nI 3) (pc := 54) f_72_54 (by decide) ?_
        refine G_jeqZ (pc := 55) f_72_55 rfl (by first | exact nI_toInt (by omega) | exact zI_toInt (by omega) (by omega) | rfl) (by first | exact nI_toInt (by omega) | exact zI_toInt (by omega) (by omega) | rfl) (fun b5 => ?_) (fun b5 => ?_)
        · refine G_S (pc := 60) f_72_60 rfl rfl rfl ?_
          refine G_CV (pc := 61) f_72_61 rfl rfl (by decide) rfl rfl (by first | assumption | exact hK.1 _ _ rfl) (by decide) ⟨Nat.le_of_ble_eq_true rfl, Nat.le_of_ble_eq_true rfl⟩ ?_
          refine CG.mono (c_step W5 T5.1 hx.2.2) ?_
          rintro _ M6 ⟨rfl, hF6, T6⟩
          have hK := hF6.K hK
          have hf6 := hf5.fp hF6 (by decide) (by decide)
          have h4 := hf6.1
          have h44 := hf6.2.2
          have hFM6 := hFM5.tr (hF6.sub (os' := RSo) (fs' := RSf) (by decide) (by decide))
          refine G_S (pc := 64) f_72_64 rfl rfl rfl ?_
          refine G_gIv (pc := 65) f_72_65 (by decide) rfl (by decide) (by first | assumption | exact hK.1 _ _ rfl) (by first | assumption | exact mI_s | ((refine mI_o (by first | decide | omega) ?_); (repeat (refine mI_o (by first | decide | omega) ?_)); first | exact mI_s | assumption) | rfl) ?_
          first | refine G_bNe (pc := 68) f_72_68 rfl (fun b6 => ?_) (fun b6 => ?_) | refine G_zneZ (pc := 68) f_72_68 rfl (by first | exact nI_toInt (by omega) | exact zI_toInt (by omega) (by omega) | rfl) (fun b6 => ?_) (fun b6 => ?_)
          · refine G_ic (v := nI 1) (pc := 76) f_72_76 (by decide) ?_
            refine G_rz (pc := 77) f_72_77 (by first | exact Or.inl rfl | exact Or.inr rfl | exact b2i_01 _ | assumption) ?_
            first
              | exact ⟨hFM6, rfl, T6, hf6, fun z => absurd (show pf.2.1 = 0 from z) (by omega)⟩
              | exact ⟨hFM6.tr (hF7.sub (by decide) (by decide)), rfl, T6.fp hF7 (by decide) (by decide) (by decide) (by decide), hf6.fp hF7 (by decide) (by decide), fun _ => hD7⟩
          · have hgd := nmS_good hg hm (by omega)
            have hD0 := hD hgd.1
            have hD6 := (hD0.1.fp hF5 (by decide)).fp hF6 (by decide)
            have hN6 : NBq M6 t n p2 (fmN g 1) := by
              unfold NBq
              rw [(hF6.2.1 77 (by decide) (by decide)).1]
              exact hN5
            have hkd6 : fmN g 0 = 1 → M6.2.1 53 12 = nI kd := fun q => by
              rw [hF6.2.2 12 (by decide), hF5.2.2 12 (by decide)]
              exact hkd q
            refine G_S (pc := 71) f_72_71 rfl rfl rfl ?_
            refine G_S (pc := 72) f_72_72 rfl rfl rfl ?_
            refine G_CV (pc := 73) f_72_73 rfl rfl (by decide) rfl rfl (by first | assumption | exact hK.1 _ _ rfl) (by decide) ⟨Nat.le_of_ble_eq_true rfl, Nat.le_of_ble_eq_true rfl⟩ ?_
            refine CG.mono (c_takeS hK hD6 hs h1 h2 hN6 hkd6 hk4 hD0.2 hgd.2) ?_
            rintro _ M7 ⟨rfl, hF7, hD7⟩
            refine G_ic (v := nI 1) (pc := 76) f_72_76 (by decide) ?_
            refine G_rz (pc := 77) f_72_77 (by first | exact Or.inl rfl | exact Or.inr rfl | exact b2i_01 _ | assumption) ?_
            first
              | exact ⟨hFM6, rfl, T6, hf6, fun z => absurd (show pf.2.1 = 0 from z) (by omega)⟩
              | exact ⟨hFM6.tr (hF7.sub (by decide) (by decide)), rfl, T6.fp hF7 (by decide) (by decide) (by decide) (by decide), hf6.fp hF7 (by decide) (by decide), fun _ => hD7⟩
        · exfalso; omega
    · rw [if_neg h3]
      refine G_S (pc := 42) f_72_42 rfl rfl rfl ?_
      refine G_S (pc := 43) f_72_43 rfl rfl rfl ?_
      refine G_CV (pc := 44) f_72_44 rfl rfl (by decide) rfl rfl (by first | assumption | exact hK.1 _ _ rfl) (by decide) ⟨Nat.le_of_ble_eq_true rfl, Nat.le_of_ble_eq_true rfl⟩ ?_
      refine CG.mono (tn) ?_
      rintro _ M5 ⟨hF5, rfl, T5, hf5, hN5⟩
      have hFM5 := hF.tr (hF5.sub (os' := RSo) (fs' := RSf) (by decide) (by decide))
      have hK := (W.fp hFM5 (by decide) (by decide)).1
      have t9 := T5.2.1
      first | refine G_bEq (pc := 47) f_72_47 rfl (fun b4 => ?_) (fun b4 => ?_) | refine G_zeqZ (pc := 47) f_72_47 rfl (by first | exact nI_toInt (by omega) | exact zI_toInt (by omega) (by omega) | rfl) (fun b4 => ?_) (fun b4 => ?_)
      · exact absurd trivial b4
      · refine G_S (pc := 50) f_72_50 rfl rfl rfl ?_
        refine G_gIv (pc := 51) f_72_51 (by decide) rfl (by decide) (by first | assumption | exact hK.1 _ _ rfl) (by first | assumption | exact mI_s | ((refine mI_o (by first | decide | omega) ?_); (repeat (refine mI_o (by first | decide | omega) ?_)); first | exact mI_s | assumption) | rfl) ?_
        refine G_ic (v := nI 3) (pc := 54) f_72_54 (by decide) ?_
        refine G_jeqZ (pc := 55) f_72_55 rfl (by first | exact nI_toInt (by omega) | exact zI_toInt (by omega) (by omega) | rfl) (by first | exact nI_toInt (by omega) | exact zI_toInt (by omega) (by omega) | rfl) (fun b5 => ?_) (fun b5 => ?_)
        · exfalso; omega
        · refine G_ic (v := nI 0) (pc := 58) f_72_58 (by decide) ?_
          refine G_rz (pc := 59) f_72_59 (by first | exact Or.inl rfl | exact Or.inr rfl | exact b2i_01 _ | assumption) ?_
          exact ⟨hFM5, rfl, T5.2.2.1⟩
theorem c_stm (hC : CK C) (W : KTp M t n) (T : TCk M t n p) (hf : FRd M f) (hp : p ≤ n) (hs : so < 4) (hD : f.1 = 0 → CDt M so E) : CG C 72 [.ref 53, .int (nI so)] M (RSq t n so M (stm t n so E Tt f p)) := by
  have tf := c_formHere hC W T hp hs
  have hK := W.1
  unfold stm
  cases hg : fmH t n so p with
  | none =>
    rw [hg] at tf
    refine CG_in (mL := 3) (hl := false) (lv := [some (.ref 53), some (.int (nI so)), none]) (ll := []) rfl rfl rfl ?_
    refine G_S (pc := 0) f_72_0 rfl rfl rfl ?_
    refine G_S (pc := 1) f_72_1 rfl rfl rfl ?_
    refine G_CV (pc := 2) f_72_2 rfl rfl (by decide) rfl rfl (by first | assumption | exact hK.1 _ _ rfl) (by decide) ⟨Nat.le_of_ble_eq_true rfl, Nat.le_of_ble_eq_true rfl⟩ ?_
    refine CG.go (tf) ?_
    refine G_S (pc := 5) f_72_5 rfl rfl rfl ?_
    refine G_S (pc := 6) f_72_6 rfl rfl rfl ?_
    refine G_ic (v := zI (-1)) (pc := 7) f_72_7 (by decide) ?_
    refine G_jneZ (pc := 8) f_72_8 rfl (by first | exact nI_toInt (by omega) | exact zI_toInt (by omega) (by omega) | rfl) (by first | exact nI_toInt (by omega) | exact zI_toInt (by omega) (by omega) | rfl) (fun b1 => ?_) (fun b1 => ?_)
    · exact absurd rfl b1
    · refine G_ic (v := nI 0) (pc := 11) f_72_11 (by decide) ?_
      refine G_rz (pc := 12) f_72_12 (by first | exact Or.inl rfl | exact Or.inr rfl | exact b2i_01 _ | assumption) ?_
      exact ⟨Fp.rf, rfl, T.2.2.1⟩
  | some g =>
    rw [hg] at tf
    obtain ⟨h1, h2, hg18, hwd⟩ := fmH_lt hs hg
    have hx := tk_nx hp (show tkK t n p ≠ 0 by rw [wd_k hwd]; decide)
    have t10 := T.2.2.1
    dsimp only
    have efz : nt f (fulZ M g) 3 (skp t n p) = nt f (fulB g E) 3 (skp t n p) := by
      by_cases h0 : f.1 = 0
      · rw [ful_Z hs h1 h2 (hD h0)]
      · unfold nt
        rw [if_neg (fun z => h0 z.1), if_neg (fun z => h0 z.1)]
    have after : ∀ M2, Fp 53 [] [4, 5] M M2 → FRd M2 (nt f (fulB g E) 3 (skp t n p)) → G C 72 (30, [some (.ref 53), some (.int (nI so)), some (.int (nI g))], [], [], M2) (RSq t n so M (match kdS t n g (tkR t n p) with
        | .inl e => .inl e
        | .inr pk => (match nmS t n g (fmN g 1) 0 pk.1 (nt f (fulB g E) 3 (skp t n p)) with
          | .inl e => .inl e
          | .inr pf => if tkK t n pf.1 = 3 then .inr (tkR t n pf.1, pf.2, tkE g pk.2 (v1F t n g pk.1) (v2F t n g pk.1) (goodB t n g pk.1) E, tkT g (v1F t n g pk.1) Tt) else .inl (skp t n pf.1)))) := by
      intro M2 hF2 hf2
      have W2 := W.fp hF2 (by decide) (by decide)
      have T2 := T.fp hF2 (by decide) (by decide) (by decide) (by decide)
      have hK := W2.1
      have keep : ∀ M3, Fp 53 [] TS M2 M3 → (nt f (fulB g E) 3 (skp t n p)).1 = 0 → CDt M3 so E ∧ fulB g E = false := by
        intro M3 hF3 h0
        have hz := nt_0 (by decide) h0
        exact ⟨((hD hz.1).fp hF2 (by decide)).fp hF3 (by decide), hz.2.1⟩
      have hFs : ∀ {N}, Fp 53 [] TS M2 N → Fp 53 RSo RSf M N := fun h => (hF2.sub (by decide) (by decide)).tr (h.sub (by decide) (by decide))
      have fm0 := (fmN_c g hg18).1
      by_cases hk0 : fmN g 0 = 0
      · have ek : kdS t n g (tkR t n p) = .inr (tkR t n p, 0) := if_pos hk0
        rw [ek]
        refine G_S (pc := 30) f_72_30 rfl rfl rfl ?_
        refine G_CV (pc := 31) f_72_31 rfl rfl (by decide) rfl rfl (by first | assumption | exact hK.1 _ _ rfl) (by decide) ⟨Nat.le_of_ble_eq_true rfl, Nat.le_of_ble_eq_true rfl⟩ ?_
        refine CG.mono (c_step W2 T2.1 hx.2.2) ?_
        rintro _ M3 ⟨rfl, hF3, T3⟩
        have W3 := W2.fp hF3 (by decide) (by decide)
        have hK := W3.1
        refine G_S (pc := 34) f_72_34 rfl rfl rfl ?_
        refine G_S (pc := 35) f_72_35 rfl rfl rfl ?_
        refine G_CV (pc := 36) f_72_36 rfl rfl (by decide) rfl rfl (by first | assumption | exact hK.1 _ _ rfl) (by decide) ⟨Nat.le_of_ble_eq_true rfl, Nat.le_of_ble_eq_true rfl⟩ ?_
        refine CG.go (c_readKind0 hC W3 hg18 hk0) ?_
        first | refine G_bEq (pc := 39) f_72_39 rfl (fun b3 => ?_) (fun b3 => ?_) | refine G_zeqZ (pc := 39) f_72_39 rfl (by first | exact nI_toInt (by omega) | exact zI_toInt (by omega) (by omega) | rfl) (fun b3 => ?_) (fun b3 => ?_)
        · exact absurd trivial b3
        · exact c_tail hC W (hFs hF3) T3 (hf2.fp hF3 (by decide) (by decide)) hx.2.2 hs h1 h2 (keep M3 hF3) (fun q => absurd q (by omega)) (by show 0 < 4; decide)
      · cases hkd : kdH t n (tkR t n p) with
        | none =>
          have ek : kdS t n g (tkR t n p) = .inl (skp t n (tkR t n p)) := by
            unfold kdS
            rw [if_neg hk0, hkd]
          rw [ek]
          refine G_S (pc := 30) f_72_30 rfl rfl rfl ?_
          refine G_CV (pc := 31) f_72_31 rfl rfl (by decide) rfl rfl (by first | assumption | exact hK.1 _ _ rfl) (by decide) ⟨Nat.le_of_ble_eq_true rfl, Nat.le_of_ble_eq_true rfl⟩ ?_
          refine CG.mono (c_step W2 T2.1 hx.2.2) ?_
          rintro _ M3 ⟨rfl, hF3, T3⟩
          have W3 := W2.fp hF3 (by decide) (by decide)
          have hK := W3.1
          refine G_S (pc := 34) f_72_34 rfl rfl rfl ?_
          refine G_S (pc := 35) f_72_35 rfl rfl rfl ?_
          refine G_CV (pc := 36) f_72_36 rfl rfl (by decide) rfl rfl (by first | assumption | exact hK.1 _ _ rfl) (by decide) ⟨Nat.le_of_ble_eq_true rfl, Nat.le_of_ble_eq_true rfl⟩ ?_
          refine CG.mono (c_readKindN hC W3 T3 hx.2.2 hg18 hk0 hkd) ?_
          rintro _ M4 ⟨rfl, hF4, h10⟩
          first | refine G_bEq (pc := 39) f_72_39 rfl (fun b3 => ?_) (fun b3 => ?_) | refine G_zeqZ (pc := 39) f_72_39 rfl (by first | exact nI_toInt (by omega) | exact zI_toInt (by omega) (by omega) | rfl) (fun b3 => ?_) (fun b3 => ?_)
          · refine G_ic (v := nI 0) (pc := 58) f_72_58 (by decide) ?_
            refine G_rz (pc := 59) f_72_59 (by first | exact Or.inl rfl | exact Or.inr rfl | exact b2i_01 _ | assumption) ?_
            exact ⟨(hFs hF3).tr (hF4.sub (by decide) (by decide)), rfl, h10⟩
          · exact absurd b3 id
        | some k =>
          have ek : kdS t n g (tkR t n p) = .inr (tkR t n (tkR t n p), k) := by
            unfold kdS
            rw [if_neg hk0, hkd]
          rw [ek]
          have hl := leastF_lt _ _ _ hkd
          have hx2 := tk_nx hx.2.2 (show tkK t n (tkR t n p) ≠ 0 by rw [wd_k hl.2.2]; decide)
          refine G_S (pc := 30) f_72_30 rfl rfl rfl ?_
          refine G_CV (pc := 31) f_72_31 rfl rfl (by decide) rfl rfl (by first | assumption | exact hK.1 _ _ rfl) (by decide) ⟨Nat.le_of_ble_eq_true rfl, Nat.le_of_ble_eq_true rfl⟩ ?_
          refine CG.mono (c_step W2 T2.1 hx.2.2) ?_
          rintro _ M3 ⟨rfl, hF3, T3⟩
          have W3 := W2.fp hF3 (by decide) (by decide)
          have hK := W3.1
          refine G_S (pc := 34) f_72_34 rfl rfl rfl ?_
          refine G_S (pc := 35) f_72_35 rfl rfl rfl ?_
          refine G_CV (pc := 36) f_72_36 rfl rfl (by decide) rfl rfl (by first | assumption | exact hK.1 _ _ rfl) (by decide) ⟨Nat.le_of_ble_eq_true rfl, Nat.le_of_ble_eq_true rfl⟩ ?_
          refine CG.mono (c_readKindS hC W3 T3 hx.2.2 hg18 hk0 hkd) ?_
          rintro _ M4 ⟨rfl, hF4, T4, h12⟩
          first | refine G_bEq (pc := 39) f_72_39 rfl (fun b3 => ?_) (fun b3 => ?_) | refine G_zeqZ (pc := 39) f_72_39 rfl (by first | exact nI_toInt (by omega) | exact zI_toInt (by omega) (by omega) | rfl) (fun b3 => ?_) (fun b3 => ?_)
          · exact absurd trivial b3
          · refine c_tail hC W ((hFs hF3).tr (hF4.sub (by decide) (by decide))) T4 ((hf2.fp hF3 (by decide) (by decide)).fp hF4 (by decide) (by decide)) hx2.2.2 hs h1 h2 (fun h0 => ?_) (fun _ => h12) (by omega)
            exact ⟨(keep M3 hF3 h0).1.fp hF4 (by decide), (keep M3 hF3 h0).2⟩
    refine CG_in (mL := 3) (hl := false) (lv := [some (.ref 53), some (.int (nI so)), none]) (ll := []) rfl rfl rfl ?_
    refine G_S (pc := 0) f_72_0 rfl rfl rfl ?_
    refine G_S (pc := 1) f_72_1 rfl rfl rfl ?_
    refine G_CV (pc := 2) f_72_2 rfl rfl (by decide) rfl rfl (by first | assumption | exact hK.1 _ _ rfl) (by decide) ⟨Nat.le_of_ble_eq_true rfl, Nat.le_of_ble_eq_true rfl⟩ ?_
    refine CG.go (tf) ?_
    refine G_S (pc := 5) f_72_5 rfl rfl rfl ?_
    refine G_S (pc := 6) f_72_6 rfl rfl rfl ?_
    refine G_ic (v := zI (-1)) (pc := 7) f_72_7 (by decide) ?_
    refine G_jneZ (pc := 8) f_72_8 rfl (by first | exact nI_toInt (by omega) | exact zI_toInt (by omega) (by omega) | rfl) (by first | exact nI_toInt (by omega) | exact zI_toInt (by omega) (by omega) | rfl) (fun b1 => ?_) (fun b1 => ?_)
    · refine G_S (pc := 13) f_72_13 rfl rfl rfl ?_
      refine G_S (pc := 14) f_72_14 rfl rfl rfl ?_
      refine G_CV (pc := 15) f_72_15 rfl rfl (by decide) rfl rfl (by first | assumption | exact hK.1 _ _ rfl) (by decide) ⟨Nat.le_of_ble_eq_true rfl, Nat.le_of_ble_eq_true rfl⟩ ?_
      refine CG.go (c_isFull hK hg18) ?_
      first | refine G_bEq (pc := 18) f_72_18 rfl (fun b2 => ?_) (fun b2 => ?_) | refine G_zeqZ (pc := 18) f_72_18 rfl (by first | exact nI_toInt (by omega) | exact zI_toInt (by omega) (by omega) | rfl) (fun b2 => ?_) (fun b2 => ?_)
      · first
          | (rw [← b2, efz] at hf2
             exact after M2 hF2 hf2)
          | (rw [(Bool.not_eq_true _).mp b2, nt_f] at efz
             exact after M Fp.rf (by rw [← efz]; exact hf))
      · refine G_S (pc := 21) f_72_21 rfl rfl rfl ?_
        refine G_ic (v := nI 3) (pc := 22) f_72_22 (by decide) ?_
        refine G_S (pc := 23) f_72_23 rfl rfl rfl ?_
        refine G_gIv (pc := 24) f_72_24 (by decide) rfl (by decide) (by first | assumption | exact hK.1 _ _ rfl) (by first | assumption | exact mI_s | ((refine mI_o (by first | decide | omega) ?_); (repeat (refine mI_o (by first | decide | omega) ?_)); first | exact mI_s | assumption) | rfl) ?_
        refine G_CV (pc := 27) f_72_27 rfl rfl (by decide) rfl rfl (by first | assumption | exact hK.1 _ _ rfl) (by decide) ⟨Nat.le_of_ble_eq_true rfl, Nat.le_of_ble_eq_true rfl⟩ ?_
        refine CG.mono (c_note hK hf (by decide) (by decide)) ?_
        rintro _ M2 ⟨rfl, hF2, hf2⟩
        first
          | (rw [← b2, efz] at hf2
             exact after M2 hF2 hf2)
          | (rw [(Bool.not_eq_true _).mp b2, nt_f] at efz
             exact after M Fp.rf (by rw [← efz]; exact hf))
    · exfalso; omega
end CSM
