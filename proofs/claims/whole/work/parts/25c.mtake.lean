/-! the reference reads: faults, numbers, kinds -/
def LRd (M : Mm) (f : Nat × Nat) : Prop := M.2.1 98 17 = nI f.1 ∧ (f.1 ≠ 0 → M.2.1 98 18 = nI f.2) ∧ f.1 ≤ 4 ∧ f.2 ≤ 600
/-- a frame that keeps the word too -/
def Fw (os fs : List Nat) (M M' : Mm) : Prop := Fp 98 os fs M M' ∧ M'.2.2.1 = M.2.2.1
theorem Fw.rf {os fs : List Nat} {M : Mm} : Fw os fs M M := ⟨Fp.rf, rfl⟩
theorem Fw.tr {os fs : List Nat} {M M1 M2 : Mm} (h1 : Fw os fs M M1) (h2 : Fw os fs M1 M2) : Fw os fs M M2 := ⟨h1.1.tr h2.1, h2.2.trans h1.2⟩
theorem Fw.sub {os fs os' fs' : List Nat} {M M' : Mm} (h : Fw os fs M M') (hs : ∀ i, i ∈ os → i ∈ os') (hf : ∀ i, i ∈ fs → i ∈ fs') : Fw os' fs' M M' := ⟨h.1.sub hs hf, h.2⟩
theorem Fw.up {os fs : List Nat} {M : Mm} {i k : Nat} {x : Int32} (hi : i ∈ os) (h98 : i ≠ 98) : Fw os fs M (M.1, up2 M.2.1 i k x, M.2.2.1, M.2.2.2) := ⟨Fp.up hi h98, rfl⟩
theorem Fw.upf {os fs : List Nat} {M : Mm} {k : Nat} {x : Int32} (hk : k ∈ fs) : Fw os fs M (M.1, up2 M.2.1 98 k x, M.2.2.1, M.2.2.2) := ⟨Fp.upf hk, rfl⟩
theorem MTk.fw {M M' : Mm} {t : Nat → Int} {n p : Nat} {os fs : List Nat} (T : MTk M t n p) (h : Fw os fs M M') (h1 : 10 ∉ fs) (h2 : 12 ∉ fs) (h3 : 13 ∉ fs) (h4 : 14 ∉ fs) : MTk M' t n p := by
  unfold MTk
  rw [h.1.2.2 10 h1, h.1.2.2 12 h2, h.1.2.2 13 h3, h.1.2.2 14 h4, h.2]
  exact T
theorem LRd.fp {M M' : Mm} {f : Nat × Nat} {os fs : List Nat} (T : LRd M f) (h : Fp 98 os fs M M') (h1 : 17 ∉ fs) (h2 : 18 ∉ fs) : LRd M' f := by
  unfold LRd
  rw [h.2.2 17 h1, h.2.2 18 h2]
  exact T
theorem lc_eq {x y : Int64} : lg_cmp x y = 0 ↔ x = y := by
  unfold lg_cmp
  constructor
  · intro h
    split at h
    · first | assumption | cases h
    · split at h
      · first | assumption | cases h
      · first | assumption | cases h
  · rintro rfl
    simp
def TKf : List Nat := [10, 12, 13, 14, 17, 18, 22]
section MTA
variable {C : Ct} {M : Mm} {t : Nat → Int} {n p q : Nat} {f : Nat × Nat} {gd : Bool}
theorem m_fails (hK : KM M.1 M.2.2.2) (h12 : M.2.1 98 12 = nI q) : CG C 202 [.ref 98] M (fun w M' => w = some (.int (b2i (False))) ∧ Fw [] [16] M M' ∧ M'.2.1 98 16 = nI q) := by
  refine CG_in (mL := 1) (hl := false) (lv := [some (.ref 98)]) (ll := []) rfl rfl rfl ?_
  refine G_S (pc := 0) f_202_0 rfl rfl rfl ?_
  refine G_S (pc := 1) f_202_1 rfl rfl rfl ?_
  refine G_gIv (pc := 2) f_202_2 (by decide) rfl (by decide) (by first | assumption | exact hK.1 _ _ rfl) (by first | assumption | exact mI_s | ((refine mI_o (by first | decide | omega) ?_); (repeat (refine mI_o (by first | decide | omega) ?_)); first | exact mI_s | assumption) | rfl) ?_
  refine G_pI (pc := 5) f_202_5 rfl (by first | assumption | exact hK.1 _ _ rfl) ?_
  refine G_ic (v := nI 0) (pc := 8) f_202_8 (by decide) ?_
  refine G_rz (pc := 9) f_202_9 (by first | exact Or.inl rfl | exact Or.inr rfl | exact b2i_01 _ | assumption) ?_
  exact ⟨rfl, Fw.upf (k := 16) (x := nI q) (by decide), (by (try dsimp only); exact up2_s)⟩
theorem m_later {k : Nat} (hK : KM M.1 M.2.2.2) (hf : LRd M f) (hb : f.1 ≠ 0 → f.2 < q) (hk : k ≤ 4) (hq : q ≤ 600) (h0 : k ≠ 0) : CG C 203 [.ref 98, .int (nI k), .int (nI q)] M (fun w M' => w = none ∧ Fw [] [17, 18] M M' ∧ LRd M' (nt f true k q)) := by
  obtain ⟨h17, h18, hf4, hf6⟩ := hf
  by_cases hz : f.1 = 0
  · have e : nt f true k q = (k, q) := if_pos ⟨hz, rfl⟩
    rw [e]
    refine CG_in (mL := 3) (hl := false) (lv := [some (.ref 98), some (.int (nI k)), some (.int (nI q))]) (ll := []) rfl rfl rfl ?_
    refine G_S (pc := 0) f_203_0 rfl rfl rfl ?_
    refine G_gIv (pc := 1) f_203_1 (by decide) rfl (by decide) (by first | assumption | exact hK.1 _ _ rfl) (by first | assumption | exact mI_s | ((refine mI_o (by first | decide | omega) ?_); (repeat (refine mI_o (by first | decide | omega) ?_)); first | exact mI_s | assumption) | rfl) ?_
    first | refine G_bEq (pc := 4) f_203_4 rfl (fun b1 => ?_) (fun b1 => ?_) | refine G_zeqZ (pc := 4) f_203_4 rfl (by first | exact nI_toInt (by omega) | exact zI_toInt (by omega) (by omega) | rfl) (fun b1 => ?_) (fun b1 => ?_)
    · refine G_S (pc := 31) f_203_31 rfl rfl rfl ?_
      refine G_S (pc := 32) f_203_32 rfl rfl rfl ?_
      refine G_pI (pc := 33) f_203_33 rfl (by first | assumption | exact hK.1 _ _ rfl) ?_
      refine G_S (pc := 36) f_203_36 rfl rfl rfl ?_
      refine G_S (pc := 37) f_203_37 rfl rfl rfl ?_
      refine G_pI (pc := 38) f_203_38 rfl (by first | assumption | exact hK.1 _ _ rfl) ?_
      refine G_rv (pc := 41) f_203_41 ?_
      refine ⟨rfl, (Fw.upf (k := 17) (x := nI k) (by decide)).tr (Fw.upf (k := 18) (x := nI q) (by decide)), (by (try dsimp only); exact up2_o (by omega) (by (try dsimp only); exact up2_s)), fun _ => (by (try dsimp only); exact up2_s), hk, hq⟩
    · exfalso; omega
  · have e : nt f true k q = f := if_neg (fun z => hz z.1)
    have h18' := h18 hz
    have hb := hb hz
    rw [e]
    refine CG_in (mL := 3) (hl := false) (lv := [some (.ref 98), some (.int (nI k)), some (.int (nI q))]) (ll := []) rfl rfl rfl ?_
    refine G_S (pc := 0) f_203_0 rfl rfl rfl ?_
    refine G_gIv (pc := 1) f_203_1 (by decide) rfl (by decide) (by first | assumption | exact hK.1 _ _ rfl) (by first | assumption | exact mI_s | ((refine mI_o (by first | decide | omega) ?_); (repeat (refine mI_o (by first | decide | omega) ?_)); first | exact mI_s | assumption) | rfl) ?_
    first | refine G_bEq (pc := 4) f_203_4 rfl (fun b1 => ?_) (fun b1 => ?_) | refine G_zeqZ (pc := 4) f_203_4 rfl (by first | exact nI_toInt (by omega) | exact zI_toInt (by omega) (by omega) | rfl) (fun b1 => ?_) (fun b1 => ?_)
    · exfalso; omega
    · refine G_S (pc := 7) f_203_7 rfl rfl rfl ?_
      refine G_S (pc := 8) f_203_8 rfl rfl rfl ?_
      refine G_gIv (pc := 9) f_203_9 (by decide) rfl (by decide) (by first | assumption | exact hK.1 _ _ rfl) (by first | assumption | exact mI_s | ((refine mI_o (by first | decide | omega) ?_); (repeat (refine mI_o (by first | decide | omega) ?_)); first | exact mI_s | assumption) | rfl) ?_
      refine G_jltZ (pc := 12) f_203_12 rfl (by first | exact nI_toInt (by omega) | exact zI_toInt (by omega) (by omega) | rfl) (by first | exact nI_toInt (by omega) | exact zI_toInt (by omega) (by omega) | rfl) (fun b2 => ?_) (fun b2 => ?_)
      · exfalso; omega
      · refine G_S (pc := 15) f_203_15 rfl rfl rfl ?_
        refine G_S (pc := 16) f_203_16 rfl rfl rfl ?_
        refine G_gIv (pc := 17) f_203_17 (by decide) rfl (by decide) (by first | assumption | exact hK.1 _ _ rfl) (by first | assumption | exact mI_s | ((refine mI_o (by first | decide | omega) ?_); (repeat (refine mI_o (by first | decide | omega) ?_)); first | exact mI_s | assumption) | rfl) ?_
        refine G_jneZ (pc := 20) f_203_20 rfl (by first | exact nI_toInt (by omega) | exact zI_toInt (by omega) (by omega) | rfl) (by first | exact nI_toInt (by omega) | exact zI_toInt (by omega) (by omega) | rfl) (fun b3 => ?_) (fun b3 => ?_)
        · refine G_rv (pc := 41) f_203_41 ?_
          exact ⟨rfl, Fw.rf, h17, h18, hf4, hf6⟩
        · exfalso; omega
theorem mk_3 {k : Nat} (h : k ≤ 4) : (mkK k = 3 ↔ k = 2) ∧ (mkK k = 4 ↔ k = 3) ∧ (mkK k = 2 ↔ k = 1) ∧ (mkK k = 0 ↔ k = 0) ∧ mkK k ≤ 4 := by
  rcases (show k = 0 ∨ k = 1 ∨ k = 2 ∨ k = 3 ∨ k = 4 by omega) with rfl | rfl | rfl | rfl | rfl <;> decide
theorem m_takeN {k lo hi : Nat} (W : MTp M t n) (T : MTk M t n p) (h : tkK t n p ≠ 2) : CG C 204 [.ref 98, .int (nI k), .int (nI lo), .int (nI hi)] M (fun w M' => w = some (.int (b2i (False))) ∧ Fw [] [16] M M' ∧ M'.2.1 98 16 = nI (skp t n p)) := by
  have hK := W.1
  have t13 := T.2.2.1
  have hk := mk_3 (tkK_le t n p)
  refine CG_in (mL := 4) (hl := false) (lv := [some (.ref 98), some (.int (nI k)), some (.int (nI lo)), some (.int (nI hi))]) (ll := []) rfl rfl rfl ?_
  refine G_S (pc := 0) f_204_0 rfl rfl rfl ?_
  refine G_gIv (pc := 1) f_204_1 (by decide) rfl (by decide) (by first | assumption | exact hK.1 _ _ rfl) (by first | assumption | exact mI_s | ((refine mI_o (by first | decide | omega) ?_); (repeat (refine mI_o (by first | decide | omega) ?_)); first | exact mI_s | assumption) | rfl) ?_
  refine G_ic (v := nI 3) (pc := 4) f_204_4 (by decide) ?_
  refine G_jeqZ (pc := 5) f_204_5 rfl (by first | exact nI_toInt (by omega) | exact zI_toInt (by omega) (by omega) | rfl) (by first | exact nI_toInt (by omega) | exact zI_toInt (by omega) (by omega) | rfl) (fun b1 => ?_) (fun b1 => ?_)
  · exfalso; omega
  · refine G_S (pc := 8) f_204_8 rfl rfl rfl ?_
    refine G_CV (pc := 9) f_204_9 rfl rfl (by decide) rfl rfl (by first | assumption | exact hK.1 _ _ rfl) (by decide) ⟨Nat.le_of_ble_eq_true rfl, Nat.le_of_ble_eq_true rfl⟩ ?_
    refine CG.mono (m_fails hK T.2.1) ?_
    rintro _ M2 ⟨rfl, hF, h16⟩
    refine G_rz (pc := 12) f_204_12 (by exact Or.inl rfl) ?_
    exact ⟨rfl, hF, h16⟩
theorem m_takeY {k lo hi : Nat} (W : MTp M t n) (T : MTk M t n p) (hp : p ≤ n) (hf : LRd M f) (hb : f.1 ≠ 0 → f.2 < skp t n p) (hg : M.2.1 98 22 = b2i (gd = true)) (h : tkK t n p = 2) (hk3 : k < 3) (hlo : lo ≤ 99) (hhi : hi ≤ 99) : CG C 204 [.ref 98, .int (nI k), .int (nI lo), .int (nI hi)] M (fun w M' => w = some (.int (b2i (True))) ∧ Fp 98 [109] TKf M M' ∧ MTk M' t n (tkR t n p) ∧ LRd M' (nt f (decide (vN t n p < lo ∨ hi < vN t n p)) 2 (skp t n p)) ∧ M'.2.1 98 22 = b2i ((gd && !decide (vN t n p < lo ∨ hi < vN t n p)) = true) ∧ M'.2.1 109 k = nI (vN t n p) ∧ ∀ j, j ≠ k → M'.2.1 109 j = M.2.1 109 j) := by
  have hK := W.1
  have t13 := T.2.2.1
  have t12 := T.2.1
  have hk := mk_3 (tkK_le t n p)
  have t14 := T.2.2.2.1 h
  have hv := (vN_at hp h).2
  have hx := tk_nx hp (show tkK t n p ≠ 0 by omega)
  have hn := W.2.2.1
  have hF1 : Fw [109] [] M (M.1, up2 M.2.1 109 k (nI (vN t n p)), M.2.2.1, M.2.2.2) := Fw.up (by decide) (by decide)
  have W1 := W.fp hF1.1 (by decide) (by decide)
  have T1 : MTk (M.1, up2 M.2.1 109 k (nI (vN t n p)), M.2.2.1, M.2.2.2) t n p := T.fw hF1 (by decide) (by decide) (by decide) (by decide)
  have hf1 : LRd (M.1, up2 M.2.1 109 k (nI (vN t n p)), M.2.2.1, M.2.2.2) f := hf.fp hF1.1 (by decide) (by decide)
  have fin : ∀ M2 (b : Bool), b = decide (vN t n p < lo ∨ hi < vN t n p) → Fw [] [17, 18, 22] (M.1, up2 M.2.1 109 k (nI (vN t n p)), M.2.2.1, M.2.2.2) M2 → LRd M2 (nt f b 2 (skp t n p)) → M2.2.1 98 22 = b2i ((gd && !b) = true) → G C 204 (49, [some (.ref 98), some (.int (nI k)), some (.int (nI lo)), some (.int (nI hi))], [], [], M2) (fun w M' => w = some (.int (b2i (True))) ∧ Fp 98 [109] TKf M M' ∧ MTk M' t n (tkR t n p) ∧ LRd M' (nt f (decide (vN t n p < lo ∨ hi < vN t n p)) 2 (skp t n p)) ∧ M'.2.1 98 22 = b2i ((gd && !decide (vN t n p < lo ∨ hi < vN t n p)) = true) ∧ M'.2.1 109 k = nI (vN t n p) ∧ ∀ j, j ≠ k → M'.2.1 109 j = M.2.1 109 j) := by
    intro M2 b hbb hF2 hf2 hg2
    subst hbb
    have W2 := W1.fp hF2.1 (by decide) (by decide)
    have hK := W2.1
    refine G_S (pc := 49) f_204_49 rfl rfl rfl ?_
    refine G_CV (pc := 50) f_204_50 rfl rfl (by decide) rfl rfl (by first | assumption | exact hK.1 _ _ rfl) (by decide) ⟨Nat.le_of_ble_eq_true rfl, Nat.le_of_ble_eq_true rfl⟩ ?_
    refine CG.mono (m_token W2 ((T1.fw hF2 (by decide) (by decide) (by decide) (by decide)).1) hx.2.2) ?_
    rintro _ M3 ⟨rfl, hF3, T3⟩
    refine G_ic (v := nI 1) (pc := 53) f_204_53 (by decide) ?_
    refine G_rz (pc := 54) f_204_54 (by first | exact Or.inl rfl | exact Or.inr rfl | exact b2i_01 _ | assumption) ?_
    refine ⟨rfl, ((hF1.1.sub (by decide) (by decide)).tr (hF2.1.sub (by decide) (by decide))).tr (hF3.sub (by decide) (by decide)), T3, hf2.fp hF3 (by decide) (by decide), by rw [hF3.2.2 22 (by decide)]; exact hg2, ?_, fun j hj => ?_⟩
    · rw [(hF3.2.1 109 (by decide) (by decide)).1, (hF2.1.2.1 109 (by decide) (by decide)).1]
      exact (by (try dsimp only); exact up2_s)
    · rw [(hF3.2.1 109 (by decide) (by decide)).1, (hF2.1.2.1 109 (by decide) (by decide)).1]
      exact (by (try dsimp only); exact up2_o (by omega) rfl)
  refine CG_in (mL := 4) (hl := false) (lv := [some (.ref 98), some (.int (nI k)), some (.int (nI lo)), some (.int (nI hi))]) (ll := []) rfl rfl rfl ?_
  refine G_S (pc := 0) f_204_0 rfl rfl rfl ?_
  refine G_gIv (pc := 1) f_204_1 (by decide) rfl (by decide) (by first | assumption | exact hK.1 _ _ rfl) (by first | assumption | exact mI_s | ((refine mI_o (by first | decide | omega) ?_); (repeat (refine mI_o (by first | decide | omega) ?_)); first | exact mI_s | assumption) | rfl) ?_
  refine G_ic (v := nI 3) (pc := 4) f_204_4 (by decide) ?_
  refine G_jeqZ (pc := 5) f_204_5 rfl (by first | exact nI_toInt (by omega) | exact zI_toInt (by omega) (by omega) | rfl) (by first | exact nI_toInt (by omega) | exact zI_toInt (by omega) (by omega) | rfl) (fun b1 => ?_) (fun b1 => ?_)
  · refine G_S (pc := 13) f_204_13 rfl rfl rfl ?_
    refine G_gR (pc := 14) f_204_14 (by decide) rfl (by first | assumption | exact hK.1 _ _ rfl) (by first | assumption | exact hK.2 _ _ _ rfl | (try dsimp only) <;> (repeat (first | exact up2_s | refine up2_o (by first | decide | omega) ?_)) <;> first | assumption | exact hK.2 _ _ _ rfl) ?_
    refine G_S (pc := 17) f_204_17 rfl rfl rfl ?_
    refine G_S (pc := 18) f_204_18 rfl rfl rfl ?_
    refine G_gIv (pc := 19) f_204_19 (by decide) rfl (by decide) (by first | assumption | exact hK.1 _ _ rfl) (by first | assumption | exact mI_s | ((refine mI_o (by first | decide | omega) ?_); (repeat (refine mI_o (by first | decide | omega) ?_)); first | exact mI_s | assumption) | rfl) ?_
    refine G_isN (pc := 22) f_204_22 (by first | assumption | exact hK.1 _ _ rfl) (by omega) (by omega) ?_
    refine G_S (pc := 23) f_204_23 rfl rfl rfl ?_
    refine G_gIv (pc := 24) f_204_24 (by decide) rfl (by decide) (by first | assumption | exact hK.1 _ _ rfl) (by first | assumption | exact mI_s | ((refine mI_o (by first | decide | omega) ?_); (repeat (refine mI_o (by first | decide | omega) ?_)); first | exact mI_s | assumption) | rfl) ?_
    refine G_S (pc := 27) f_204_27 rfl rfl rfl ?_
    refine G_S (pc := 28) f_204_28 rfl rfl rfl ?_
    refine G_CS (pc := 29) f_204_29 rfl rfl (by decide) rfl rfl ⟨Nat.le_of_ble_eq_true rfl, Nat.le_of_ble_eq_true rfl⟩ ?_
    refine CG.go (m_inZ (by first | exact nI_toInt (by omega) | exact zI_toInt (by omega) (by omega) | rfl) (by first | exact nI_toInt (by omega) | exact zI_toInt (by omega) (by omega) | rfl) (by first | exact nI_toInt (by omega) | exact zI_toInt (by omega) (by omega) | rfl)) ?_
    first | refine G_bNe (pc := 32) f_204_32 rfl (fun b2 => ?_) (fun b2 => ?_) | refine G_zneZ (pc := 32) f_204_32 rfl (by first | exact nI_toInt (by omega) | exact zI_toInt (by omega) (by omega) | rfl) (fun b2 => ?_) (fun b2 => ?_)
    · first
        | (have hbb : decide (vN t n p < lo ∨ hi < vN t n p) = false := decide_eq_false (by omega)
           refine fin _ false hbb.symm Fw.rf (by rw [nt_f]; exact hf1) ?_
           rw [Bool.not_false, Bool.and_true]
           exact (by (try dsimp only); exact up2_o (by omega) hg))
        | (have hbb : decide (vN t n p < lo ∨ hi < vN t n p) = true := decide_eq_true (by omega)
           refine fin _ true hbb.symm ((hF2.sub (by decide) (by decide)).tr (Fw.upf (k := 22) (x := nI 0) (by decide))) (hf2.fp (Fp.upf (os := []) (fs := [22]) (by decide)) (by decide) (by decide)) ?_
           rw [Bool.not_true, Bool.and_false]
           exact (by (try dsimp only); exact up2_s))
    · refine G_S (pc := 35) f_204_35 rfl rfl rfl ?_
      refine G_ic (v := nI 2) (pc := 36) f_204_36 (by decide) ?_
      refine G_S (pc := 37) f_204_37 rfl rfl rfl ?_
      refine G_gIv (pc := 38) f_204_38 (by decide) rfl (by decide) (by first | assumption | exact hK.1 _ _ rfl) ((mI_o (by omega) t12)) ?_
      refine G_CV (pc := 41) f_204_41 rfl rfl (by decide) rfl rfl (by first | assumption | exact hK.1 _ _ rfl) (by decide) ⟨Nat.le_of_ble_eq_true rfl, Nat.le_of_ble_eq_true rfl⟩ ?_
      refine CG.mono (m_later hK hf1 hb (by decide) (by omega) (by decide)) ?_
      rintro _ M2 ⟨rfl, hF2, hf2⟩
      have hK := hF2.1.K hK
      refine G_S (pc := 44) f_204_44 rfl rfl rfl ?_
      refine G_ic (v := nI 0) (pc := 45) f_204_45 (by decide) ?_
      refine G_pZ (pc := 46) f_204_46 rfl (by first | assumption | exact hK.1 _ _ rfl) (by first | exact Or.inl rfl | exact Or.inr rfl | exact b2i_01 _ | assumption) ?_
      first
        | (have hbb : decide (vN t n p < lo ∨ hi < vN t n p) = false := decide_eq_false (by omega)
           refine fin _ false hbb.symm Fw.rf (by rw [nt_f]; exact hf1) ?_
           rw [Bool.not_false, Bool.and_true]
           exact (by (try dsimp only); exact up2_o (by omega) hg))
        | (have hbb : decide (vN t n p < lo ∨ hi < vN t n p) = true := decide_eq_true (by omega)
           refine fin _ true hbb.symm ((hF2.sub (by decide) (by decide)).tr (Fw.upf (k := 22) (x := nI 0) (by decide))) (hf2.fp (Fp.upf (os := []) (fs := [22]) (by decide)) (by decide) (by decide)) ?_
           rw [Bool.not_true, Bool.and_false]
           exact (by (try dsimp only); exact up2_s))
  · exfalso; omega
end MTA
