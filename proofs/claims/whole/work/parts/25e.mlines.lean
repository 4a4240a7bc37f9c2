/-! the reference's lines -/
section LNP
variable {t : Nat → Int} {n g T p : Nat} {E : Nat → Int} {f : Nat × Nat}
theorem ln_0 (h0 : fmN g 0 = 0) (h1 : fmN g 1 = 0) : lnS t n g E T f p = .inr (p, f, tkE g 0 (-1) (-1) true E, tkT g (-1) T) := by
  unfold lnS kdS v1F v2F goodB
  rw [if_pos h0]
  dsimp only
  rw [h1]
  rfl
theorem ln_1 (h0 : fmN g 0 = 0) (h1 : fmN g 1 = 1) : lnS t n g E T f p = if tkK t n p = 2 then .inr (tkR t n p, nt f (badB g 0 (vN t n p)) 2 (skp t n p), tkE g 0 (vN t n p : Int) (-1) (!badB g 0 (vN t n p)) E, tkT g (vN t n p : Int) T) else .inl (skp t n p) := by
  have hv1 : v1F t n g p = (vN t n p : Int) := if_pos (by omega)
  have hv2 : v2F t n g p = -1 := if_neg (by omega)
  have hgd : goodB t n g p = !badB g 0 (vN t n p) := by
    unfold goodB
    rw [h1]
    simp
  unfold lnS kdS
  rw [if_pos h0]
  dsimp only
  rw [hv1, hv2, hgd, h1, nmS]
  by_cases hk : tkK t n p = 2
  · rw [if_pos hk, if_pos hk]
    rfl
  · rw [if_neg hk, if_neg hk]
theorem ln_2 (h0 : fmN g 0 = 0) (h1 : fmN g 1 = 2) : lnS t n g E T f p = if tkK t n p = 2 then (if tkK t n (tkR t n p) = 2 then .inr (tkR t n (tkR t n p), nt (nt f (badB g 0 (vN t n p)) 2 (skp t n p)) (badB g 1 (vN t n (tkR t n p))) 2 (skp t n (tkR t n p)), tkE g 0 (vN t n p : Int) (vN t n (tkR t n p) : Int) (!badB g 0 (vN t n p) && !badB g 1 (vN t n (tkR t n p))) E, tkT g (vN t n p : Int) T) else .inl (skp t n (tkR t n p))) else .inl (skp t n p) := by
  have hv1 : v1F t n g p = (vN t n p : Int) := if_pos (by omega)
  have hv2 : v2F t n g p = (vN t n (tkR t n p) : Int) := if_pos (by omega)
  have hgd : goodB t n g p = (!badB g 0 (vN t n p) && !badB g 1 (vN t n (tkR t n p))) := by
    unfold goodB
    rw [h1]
    simp
  unfold lnS kdS
  rw [if_pos h0]
  dsimp only
  rw [hv1, hv2, hgd, h1, nmS]
  by_cases hk : tkK t n p = 2
  · rw [if_pos hk, if_pos hk, nmS]
    by_cases hk2 : tkK t n (tkR t n p) = 2
    · rw [if_pos hk2, if_pos hk2]
      rfl
    · rw [if_neg hk2, if_neg hk2]
  · rw [if_neg hk, if_neg hk]
theorem ln_kN (h0 : fmN g 0 ≠ 0) (hk : kdH t n p = none) : lnS t n g E T f p = .inl (skp t n p) := by
  unfold lnS kdS
  rw [if_neg h0, hk]
theorem ln_k1 {kd : Nat} (h0 : fmN g 0 ≠ 0) (h1 : fmN g 1 = 1) (hk : kdH t n p = some kd) : lnS t n g E T f p = if tkK t n (tkR t n p) = 2 then .inr (tkR t n (tkR t n p), nt f (badB g 0 (vN t n (tkR t n p))) 2 (skp t n (tkR t n p)), tkE g kd (vN t n (tkR t n p) : Int) (-1) (!badB g 0 (vN t n (tkR t n p))) E, tkT g (vN t n (tkR t n p) : Int) T) else .inl (skp t n (tkR t n p)) := by
  have hv1 : v1F t n g (tkR t n p) = (vN t n (tkR t n p) : Int) := if_pos (by omega)
  have hv2 : v2F t n g (tkR t n p) = -1 := if_neg (by omega)
  have hgd : goodB t n g (tkR t n p) = !badB g 0 (vN t n (tkR t n p)) := by
    unfold goodB
    rw [h1]
    simp
  unfold lnS kdS
  rw [if_neg h0, hk]
  dsimp only
  rw [hv1, hv2, hgd, h1, nmS]
  by_cases hk : tkK t n (tkR t n p) = 2
  · rw [if_pos hk, if_pos hk]
    rfl
  · rw [if_neg hk, if_neg hk]
theorem bad_d {lo hi i v : Nat} (h1 : fmN g (2 + 2 * i) = lo) (h2 : fmN g (3 + 2 * i) = hi) : badB g i v = decide (v < lo ∨ hi < v) := by
  unfold badB
  rw [h1, h2]
end LNP
section MLN
variable {C : Ct} {M : Mm} {t : Nat → Int} {n p T g : Nat} {f : Nat × Nat} {E : Nat → Int} {w : Int64}
theorem LN_fin {M2 M3 : Mm} {p' T' : Nat} {f' : Nat × Nat} {E' : Nat → Int} (hF : Fp 98 SFo SFs M M2) (T2 : MTk M2 t n p') (hf2 : LRd M2 f') (h21 : M2.2.1 98 21 = nI T') (hlt : f'.1 ≠ 0 → f'.2 < skp t n p') (hp : p' ≤ n) (hF3 : Fw [108] [] M2 M3) (hD : TDm M3 E') : LNq t n M (.inr (p', f', E', T')) (some (.int (b2i (True)))) M3 :=
  ⟨hF.tr (hF3.1.sub (by decide) (by decide)), rfl, T2.fw hF3 (by decide) (by decide) (by decide) (by decide), hf2.fp hF3.1 (by decide) (by decide), hD, by rw [hF3.1.2.2 21 (by decide)]; exact h21, hlt, hp⟩
theorem LN_no {M2 : Mm} {e : Nat} (hF : Fp 98 SFo SFs M M2) (h16 : M2.2.1 98 16 = nI e) : LNq t n M (.inl e) (some (.int (b2i (False)))) M2 := ⟨hF, rfl, h16⟩
/-- a number, taken in the midst of a line -/
theorem m_num {k lo hi : Nat} {gd : Bool} (W : MTp M t n) (T1 : MTk M t n p) (hf : LRd M f) (hD : TDm M E) (h21 : M.2.1 98 21 = nI T) (h22 : M.2.1 98 22 = b2i (gd = true)) (hlt : f.1 ≠ 0 → f.2 < skp t n p) (hp : p ≤ n) (h : tkK t n p = 2) (hk3 : k < 3) (hlo : lo ≤ 99) (hhi : hi ≤ 99) : CG C 204 [.ref 98, .int (nI k), .int (nI lo), .int (nI hi)] M (fun w M' => w = some (.int (b2i (True))) ∧ Fp 98 SFo SFs M M' ∧ MTp M' t n ∧ MTk M' t n (tkR t n p) ∧ LRd M' (nt f (decide (vN t n p < lo ∨ hi < vN t n p)) 2 (skp t n p)) ∧ TDm M' E ∧ M'.2.1 98 21 = nI T ∧ M'.2.1 98 22 = b2i ((gd && !decide (vN t n p < lo ∨ hi < vN t n p)) = true) ∧ ((nt f (decide (vN t n p < lo ∨ hi < vN t n p)) 2 (skp t n p)).1 ≠ 0 → (nt f (decide (vN t n p < lo ∨ hi < vN t n p)) 2 (skp t n p)).2 < skp t n (tkR t n p)) ∧ tkR t n p ≤ n ∧ M'.2.1 109 k = nI (vN t n p) ∧ ∀ j, j ≠ k → M'.2.1 109 j = M.2.1 109 j) := by
  have hx := tk_nx hp (show tkK t n p ≠ 0 by omega)
  refine CG.mono (m_takeY W T1 hp hf hlt h22 h hk3 hlo hhi) ?_
  rintro w M' ⟨rfl, hF, T2, hf2, hg2, r0, ro⟩
  exact ⟨rfl, hF.sub (by decide) (by decide), W.fp hF (by decide) (by decide), T2, hf2, hD.fp hF (by decide), by rw [hF.2.2 21 (by decide)]; exact h21, hg2, nt_lt hp (by omega) hlt, hx.2.2, r0, ro⟩
theorem m_hill (S : MSt M t n p f E T) (hE : 0 ≤ E 0 ∧ E 0 ≤ 8) : CG C 207 [.ref 98] M (LNq t n M (lnS t n 0 E T f p)) := by
  obtain ⟨W, T1, hf, hD, h21, h22, hlt, hp⟩ := S
  have hK := W.1
  rw [ln_1 (by decide) (by decide), bad_d (lo := 0) (hi := 99) (by decide) (by decide)]
  by_cases h : tkK t n p = 2
  · rw [if_pos h]
    obtain ⟨c, hc⟩ : ∃ c : Nat, E 0 = (c : Int) := ⟨(E 0).toNat, by omega⟩
    have tn := m_num (C := C) (k := 0) (lo := 0) (hi := 99) W T1 hf hD h21 h22 hlt hp h (by decide) (by decide) (by decide)
    refine CG_in (mL := 1) (hl := false) (lv := [some (.ref 98)]) (ll := []) rfl rfl rfl ?_
    refine G_S (pc := 0) f_207_0 rfl rfl rfl ?_
    refine G_ic (v := nI 0) (pc := 1) f_207_1 (by decide) ?_
    refine G_ic (v := nI 0) (pc := 2) f_207_2 (by decide) ?_
    refine G_bi (v := nI 99) (pc := 3) f_207_3 (by decide) ?_
    refine G_CV (pc := 5) f_207_5 rfl rfl (by decide) rfl rfl (by first | assumption | exact hK.1 _ _ rfl) (by decide) ⟨Nat.le_of_ble_eq_true rfl, Nat.le_of_ble_eq_true rfl⟩ ?_
    refine CG.mono (tn) ?_
    rintro _ M2 ⟨rfl, hF2, W2, T2, hf2, hD2, g21, g22, hlt2, hp2, r0, ro⟩
    have hK := W2.1
    have d0 : M2.2.1 108 0 = nI c := by rw [hD2 0 (by decide), hc, nI_zI]
    first | refine G_bNe (pc := 8) f_207_8 rfl (fun b1 => ?_) (fun b1 => ?_) | refine G_zneZ (pc := 8) f_207_8 rfl (by first | exact nI_toInt (by omega) | exact zI_toInt (by omega) (by omega) | rfl) (fun b1 => ?_) (fun b1 => ?_)
    · refine G_S (pc := 13) f_207_13 rfl rfl rfl ?_
      refine G_gR (pc := 14) f_207_14 (by decide) rfl (by first | assumption | exact hK.1 _ _ rfl) (by first | assumption | exact hK.2 _ _ _ rfl | (try dsimp only) <;> (repeat (first | exact up2_s | refine up2_o (by first | decide | omega) ?_)) <;> first | assumption | exact hK.2 _ _ _ rfl) ?_
      refine G_ic (v := nI 0) (pc := 17) f_207_17 (by decide) ?_
      refine G_iaN (pc := 18) f_207_18 (by first | assumption | exact hK.1 _ _ rfl) (by omega) (by omega) (by first | exact d0 | rfl) ?_
      refine G_bi (v := nI 8) (pc := 19) f_207_19 (by decide) ?_
      refine G_jgeZ (pc := 21) f_207_21 rfl (by first | exact nI_toInt (by omega) | exact zI_toInt (by omega) (by omega) | rfl) (by first | exact nI_toInt (by omega) | exact zI_toInt (by omega) (by omega) | rfl) (fun b2 => ?_) (fun b2 => ?_)
      · refine G_ic (v := nI 1) (pc := 53) f_207_53 (by decide) ?_
        refine G_rz (pc := 54) f_207_54 (by first | exact Or.inl rfl | exact Or.inr rfl | exact b2i_01 _ | assumption) ?_
        first
          | (have e : tkE 0 0 (vN t n p : Int) (-1) (!decide (vN t n p < 0 ∨ 99 < vN t n p)) E = E := by
               unfold tkE
               rw [if_pos rfl, if_neg (by omega)]
             rw [e]
             exact LN_fin hF2 T2 hf2 g21 hlt2 hp2 Fw.rf hD2)
          | (have e : tkE 0 0 (vN t n p : Int) (-1) (!decide (vN t n p < 0 ∨ 99 < vN t n p)) E = up1 (up1 E (3 + c) (vN t n p : Int)) 0 (E 0 + 1) := by
               unfold tkE
               rw [if_pos rfl, if_pos (by omega), hc, Int.toNat_natCast]
             rw [e]
             refine LN_fin hF2 T2 hf2 g21 hlt2 hp2 ((Fw.up (i := 108) (by decide) (by decide)).tr (Fw.up (i := 108) (by decide) (by decide))) ?_
             have e2 : nI (c + 1) = zI (E 0 + 1) := zn' (by omega)
             rw [e2, nI_zI (vN t n p)]
             exact hD2.up.up)
      · refine G_S (pc := 24) f_207_24 rfl rfl rfl ?_
        refine G_gR (pc := 25) f_207_25 (by decide) rfl (by first | assumption | exact hK.1 _ _ rfl) (by first | assumption | exact hK.2 _ _ _ rfl | (try dsimp only) <;> (repeat (first | exact up2_s | refine up2_o (by first | decide | omega) ?_)) <;> first | assumption | exact hK.2 _ _ _ rfl) ?_
        refine G_ic (v := nI 3) (pc := 28) f_207_28 (by decide) ?_
        refine G_S (pc := 29) f_207_29 rfl rfl rfl ?_
        refine G_gR (pc := 30) f_207_30 (by decide) rfl (by first | assumption | exact hK.1 _ _ rfl) (by first | assumption | exact hK.2 _ _ _ rfl | (try dsimp only) <;> (repeat (first | exact up2_s | refine up2_o (by first | decide | omega) ?_)) <;> first | assumption | exact hK.2 _ _ _ rfl) ?_
        refine G_ic (v := nI 0) (pc := 33) f_207_33 (by decide) ?_
        refine G_iaN (pc := 34) f_207_34 (by first | assumption | exact hK.1 _ _ rfl) (by omega) (by omega) (by first | exact d0 | rfl) ?_
        first | refine G_addN (pc := 35) f_207_35 ?_ | refine G_addZ (pc := 35) f_207_35 (by first | rfl | exact nI_zI _) (by first | rfl | exact nI_zI _) ?_ | refine G_S (pc := 35) f_207_35 rfl rfl rfl ?_
        refine G_S (pc := 36) f_207_36 rfl rfl rfl ?_
        refine G_gR (pc := 37) f_207_37 (by decide) rfl (by first | assumption | exact hK.1 _ _ rfl) (by first | assumption | exact hK.2 _ _ _ rfl | (try dsimp only) <;> (repeat (first | exact up2_s | refine up2_o (by first | decide | omega) ?_)) <;> first | assumption | exact hK.2 _ _ _ rfl) ?_
        refine G_ic (v := nI 0) (pc := 40) f_207_40 (by decide) ?_
        refine G_iaN (pc := 41) f_207_41 (by first | assumption | exact hK.1 _ _ rfl) (by omega) (by omega) (by first | exact r0 | rfl) ?_
        refine G_isN (pc := 42) f_207_42 (by first | assumption | exact hK.1 _ _ rfl) (by omega) (by omega) ?_
        refine G_S (pc := 43) f_207_43 rfl rfl rfl ?_
        refine G_gR (pc := 44) f_207_44 (by decide) rfl (by first | assumption | exact hK.1 _ _ rfl) (by first | assumption | exact hK.2 _ _ _ rfl | (try dsimp only) <;> (repeat (first | exact up2_s | refine up2_o (by first | decide | omega) ?_)) <;> first | assumption | exact hK.2 _ _ _ rfl) ?_
        refine G_ic (v := nI 0) (pc := 47) f_207_47 (by decide) ?_
        refine G_S (pc := 48) f_207_48 rfl rfl rfl ?_
        refine G_iaN (pc := 49) f_207_49 (by first | assumption | exact hK.1 _ _ rfl) (by omega) (by omega) (by first | exact (mI_o (by omega) d0) | rfl) ?_
        refine G_ic (v := nI 1) (pc := 50) f_207_50 (by decide) ?_
        first | refine G_addN (pc := 51) f_207_51 ?_ | refine G_addZ (pc := 51) f_207_51 (by first | rfl | exact nI_zI _) (by first | rfl | exact nI_zI _) ?_ | refine G_S (pc := 51) f_207_51 rfl rfl rfl ?_
        refine G_isN (pc := 52) f_207_52 (by first | assumption | exact hK.1 _ _ rfl) (by omega) (by omega) ?_
        refine G_ic (v := nI 1) (pc := 53) f_207_53 (by decide) ?_
        refine G_rz (pc := 54) f_207_54 (by first | exact Or.inl rfl | exact Or.inr rfl | exact b2i_01 _ | assumption) ?_
        first
          | (have e : tkE 0 0 (vN t n p : Int) (-1) (!decide (vN t n p < 0 ∨ 99 < vN t n p)) E = E := by
               unfold tkE
               rw [if_pos rfl, if_neg (by omega)]
             rw [e]
             exact LN_fin hF2 T2 hf2 g21 hlt2 hp2 Fw.rf hD2)
          | (have e : tkE 0 0 (vN t n p : Int) (-1) (!decide (vN t n p < 0 ∨ 99 < vN t n p)) E = up1 (up1 E (3 + c) (vN t n p : Int)) 0 (E 0 + 1) := by
               unfold tkE
               rw [if_pos rfl, if_pos (by omega), hc, Int.toNat_natCast]
             rw [e]
             refine LN_fin hF2 T2 hf2 g21 hlt2 hp2 ((Fw.up (i := 108) (by decide) (by decide)).tr (Fw.up (i := 108) (by decide) (by decide))) ?_
             have e2 : nI (c + 1) = zI (E 0 + 1) := zn' (by omega)
             rw [e2, nI_zI (vN t n p)]
             exact hD2.up.up)
    · exact absurd trivial b1
  · rw [if_neg h]
    refine CG_in (mL := 1) (hl := false) (lv := [some (.ref 98)]) (ll := []) rfl rfl rfl ?_
    refine G_S (pc := 0) f_207_0 rfl rfl rfl ?_
    refine G_ic (v := nI 0) (pc := 1) f_207_1 (by decide) ?_
    refine G_ic (v := nI 0) (pc := 2) f_207_2 (by decide) ?_
    refine G_bi (v := nI 99) (pc := 3) f_207_3 (by decide) ?_
    refine G_CV (pc := 5) f_207_5 rfl rfl (by decide) rfl rfl (by first | assumption | exact hK.1 _ _ rfl) (by decide) ⟨Nat.le_of_ble_eq_true rfl, Nat.le_of_ble_eq_true rfl⟩ ?_
    refine CG.mono (m_takeN W T1 h) ?_
    rintro _ M2 ⟨rfl, hF2, h16⟩
    first | refine G_bNe (pc := 8) f_207_8 rfl (fun b1 => ?_) (fun b1 => ?_) | refine G_zneZ (pc := 8) f_207_8 rfl (by first | exact nI_toInt (by omega) | exact zI_toInt (by omega) (by omega) | rfl) (fun b1 => ?_) (fun b1 => ?_)
    · exact absurd b1 id
    · refine G_ic (v := nI 0) (pc := 11) f_207_11 (by decide) ?_
      refine G_rz (pc := 12) f_207_12 (by first | exact Or.inl rfl | exact Or.inr rfl | exact b2i_01 _ | assumption) ?_
      exact LN_no (hF2.1.sub (by decide) (by decide)) h16
theorem m_rider (S : MSt M t n p f E T) (hE : 0 ≤ E 2 ∧ E 2 ≤ 8) : CG C 208 [.ref 98] M (LNq t n M (lnS t n 2 E T f p)) := by
  obtain ⟨W, T1, hf, hD, h21, h22, hlt, hp⟩ := S
  have hK := W.1
  cases hk : kdH t n p with
  | none =>
    rw [ln_kN (by decide) hk]
    refine CG_in (mL := 1) (hl := false) (lv := [some (.ref 98)]) (ll := []) rfl rfl rfl ?_
    refine G_S (pc := 0) f_208_0 rfl rfl rfl ?_
    refine G_ic (v := nI 0) (pc := 1) f_208_1 (by decide) ?_
    refine G_CV (pc := 2) f_208_2 rfl rfl (by decide) rfl rfl (by first | assumption | exact hK.1 _ _ rfl) (by decide) ⟨Nat.le_of_ble_eq_true rfl, Nat.le_of_ble_eq_true rfl⟩ ?_
    refine CG.mono (m_kindN W T1 hp hk) ?_
    rintro _ M2 ⟨rfl, hF2, h16⟩
    first | refine G_bEq (pc := 5) f_208_5 rfl (fun b1 => ?_) (fun b1 => ?_) | refine G_zeqZ (pc := 5) f_208_5 rfl (by first | exact nI_toInt (by omega) | exact zI_toInt (by omega) (by omega) | rfl) (fun b1 => ?_) (fun b1 => ?_)
    · refine G_ic (v := nI 0) (pc := 19) f_208_19 (by decide) ?_
      refine G_rz (pc := 20) f_208_20 (by first | exact Or.inl rfl | exact Or.inr rfl | exact b2i_01 _ | assumption) ?_
      exact LN_no (hF2.1.sub (by decide) (by decide)) h16
    · exact absurd b1 id
  | some kd =>
    rw [ln_k1 (by decide) (by decide) hk, bad_d (lo := 0) (hi := 60) (by decide) (by decide)]
    have hl := leastF_lt _ _ _ hk
    have hx := tk_nx hp (show tkK t n p ≠ 0 by rw [wd_k hl.2.2]; decide)
    have tk := m_kindS (C := C) (k := 0) W T1 hp hk (by decide)
    have hs := skp_b (t := t) hx.2.2
    by_cases h : tkK t n (tkR t n p) = 2
    · rw [if_pos h]
      obtain ⟨c, hc⟩ : ∃ c : Nat, E 2 = (c : Int) := ⟨(E 2).toNat, by omega⟩
      refine CG_in (mL := 1) (hl := false) (lv := [some (.ref 98)]) (ll := []) rfl rfl rfl ?_
      refine G_S (pc := 0) f_208_0 rfl rfl rfl ?_
      refine G_ic (v := nI 0) (pc := 1) f_208_1 (by decide) ?_
      refine G_CV (pc := 2) f_208_2 rfl rfl (by decide) rfl rfl (by first | assumption | exact hK.1 _ _ rfl) (by decide) ⟨Nat.le_of_ble_eq_true rfl, Nat.le_of_ble_eq_true rfl⟩ ?_
      refine CG.mono (tk) ?_
      rintro _ M2 ⟨rfl, hF2, T2, rk, ro⟩
      have W2 := W.fp hF2 (by decide) (by decide)
      have hK := W2.1
      have tn := m_num (C := C) (k := 1) (lo := 0) (hi := 60) W2 T2 (hf.fp hF2 (by decide) (by decide)) (hD.fp hF2 (by decide)) (by rw [hF2.2.2 21 (by decide)]; exact h21) (by rw [hF2.2.2 22 (by decide)]; exact h22) (fun z => by have := hlt z; omega) hx.2.2 h (by decide) (by decide) (by decide)
      first | refine G_bEq (pc := 5) f_208_5 rfl (fun b1 => ?_) (fun b1 => ?_) | refine G_zeqZ (pc := 5) f_208_5 rfl (by first | exact nI_toInt (by omega) | exact zI_toInt (by omega) (by omega) | rfl) (fun b1 => ?_) (fun b1 => ?_)
      · exact absurd trivial b1
      · refine G_S (pc := 8) f_208_8 rfl rfl rfl ?_
        refine G_ic (v := nI 1) (pc := 9) f_208_9 (by decide) ?_
        refine G_ic (v := nI 0) (pc := 10) f_208_10 (by decide) ?_
        refine G_bi (v := nI 60) (pc := 11) f_208_11 (by decide) ?_
        refine G_CV (pc := 13) f_208_13 rfl rfl (by decide) rfl rfl (by first | assumption | exact hK.1 _ _ rfl) (by decide) ⟨Nat.le_of_ble_eq_true rfl, Nat.le_of_ble_eq_true rfl⟩ ?_
        refine CG.mono (tn) ?_
        rintro _ M3 ⟨rfl, hF3, W3, T3, hf3, hD3, g21, g22, hlt3, hp3, r1, ro3⟩
        have hK := W3.1
        have d2 : M3.2.1 108 2 = nI c := by rw [hD3 2 (by decide), hc, nI_zI]
        have rk3 : M3.2.1 109 0 = nI kd := (ro3 0 (by decide)).trans rk
        first | refine G_bNe (pc := 16) f_208_16 rfl (fun b2 => ?_) (fun b2 => ?_) | refine G_zneZ (pc := 16) f_208_16 rfl (by first | exact nI_toInt (by omega) | exact zI_toInt (by omega) (by omega) | rfl) (fun b2 => ?_) (fun b2 => ?_)
        · refine G_S (pc := 21) f_208_21 rfl rfl rfl ?_
          refine G_gR (pc := 22) f_208_22 (by decide) rfl (by first | assumption | exact hK.1 _ _ rfl) (by first | assumption | exact hK.2 _ _ _ rfl | (try dsimp only) <;> (repeat (first | exact up2_s | refine up2_o (by first | decide | omega) ?_)) <;> first | assumption | exact hK.2 _ _ _ rfl) ?_
          refine G_ic (v := nI 2) (pc := 25) f_208_25 (by decide) ?_
          refine G_iaN (pc := 26) f_208_26 (by first | assumption | exact hK.1 _ _ rfl) (by omega) (by omega) (by first | exact d2 | rfl) ?_
          refine G_bi (v := nI 8) (pc := 27) f_208_27 (by decide) ?_
          refine G_jgeZ (pc := 29) f_208_29 rfl (by first | exact nI_toInt (by omega) | exact zI_toInt (by omega) (by omega) | rfl) (by first | exact nI_toInt (by omega) | exact zI_toInt (by omega) (by omega) | rfl) (fun b3 => ?_) (fun b3 => ?_)
          · refine G_ic (v := nI 1) (pc := 82) f_208_82 (by decide) ?_
            refine G_rz (pc := 83) f_208_83 (by first | exact Or.inl rfl | exact Or.inr rfl | exact b2i_01 _ | assumption) ?_
            first
              | (have e : tkE 2 kd (vN t n (tkR t n p) : Int) (-1) (!decide (vN t n (tkR t n p) < 0 ∨ 60 < vN t n (tkR t n p))) E = E := by
                   unfold tkE
                   rw [if_neg (by decide), if_neg (by decide), if_pos rfl, if_neg (by omega)]
                 rw [e]
                 exact LN_fin ((hF2.sub (by decide) (by decide)).tr hF3) T3 hf3 g21 hlt3 hp3 Fw.rf hD3)
              | (have e : tkE 2 kd (vN t n (tkR t n p) : Int) (-1) (!decide (vN t n (tkR t n p) < 0 ∨ 60 < vN t n (tkR t n p))) E = up1 (up1 (up1 E (11 + c) (kd : Int)) (19 + c) (vN t n (tkR t n p) : Int)) 2 (E 2 + 1) := by
                   unfold tkE
                   rw [if_neg (by decide), if_neg (by decide), if_pos rfl, if_pos (by omega), hc, Int.toNat_natCast]
                 rw [e]
                 refine LN_fin ((hF2.sub (by decide) (by decide)).tr hF3) T3 hf3 g21 hlt3 hp3 (((Fw.up (i := 108) (by decide) (by decide)).tr (Fw.up (i := 108) (by decide) (by decide))).tr (Fw.up (i := 108) (by decide) (by decide))) ?_
                 have e2 : nI (c + 1) = zI (E 2 + 1) := zn' (by omega)
                 rw [e2, nI_zI (vN t n (tkR t n p)), nI_zI kd]
                 exact hD3.up.up.up)
          · refine G_S (pc := 32) f_208_32 rfl rfl rfl ?_
            refine G_gR (pc := 33) f_208_33 (by decide) rfl (by first | assumption | exact hK.1 _ _ rfl) (by first | assumption | exact hK.2 _ _ _ rfl | (try dsimp only) <;> (repeat (first | exact up2_s | refine up2_o (by first | decide | omega) ?_)) <;> first | assumption | exact hK.2 _ _ _ rfl) ?_
            refine G_bi (v := nI 11) (pc := 36) f_208_36 (by decide) ?_
            refine G_S (pc := 38) f_208_38 rfl rfl rfl ?_
            refine G_gR (pc := 39) f_208_39 (by decide) rfl (by first | assumption | exact hK.1 _ _ rfl) (by first | assumption | exact hK.2 _ _ _ rfl | (try dsimp only) <;> (repeat (first | exact up2_s | refine up2_o (by first | decide | omega) ?_)) <;> first | assumption | exact hK.2 _ _ _ rfl) ?_
            refine G_ic (v := nI 2) (pc := 42) f_208_42 (by decide) ?_
            refine G_iaN (pc := 43) f_208_43 (by first | assumption | exact hK.1 _ _ rfl) (by omega) (by omega) (by first | exact d2 | rfl) ?_
            first | refine G_addN (pc := 44) f_208_44 ?_ | refine G_addZ (pc := 44) f_208_44 (by first | rfl | exact nI_zI _) (by first | rfl | exact nI_zI _) ?_ | refine G_S (pc := 44) f_208_44 rfl rfl rfl ?_
            refine G_S (pc := 45) f_208_45 rfl rfl rfl ?_
            refine G_gR (pc := 46) f_208_46 (by decide) rfl (by first | assumption | exact hK.1 _ _ rfl) (by first | assumption | exact hK.2 _ _ _ rfl | (try dsimp only) <;> (repeat (first | exact up2_s | refine up2_o (by first | decide | omega) ?_)) <;> first | assumption | exact hK.2 _ _ _ rfl) ?_
            refine G_ic (v := nI 0) (pc := 49) f_208_49 (by decide) ?_
            refine G_iaN (pc := 50) f_208_50 (by first | assumption | exact hK.1 _ _ rfl) (by omega) (by omega) (by first | exact rk3 | rfl) ?_
            refine G_isN (pc := 51) f_208_51 (by first | assumption | exact hK.1 _ _ rfl) (by omega) (by omega) ?_
            refine G_S (pc := 52) f_208_52 rfl rfl rfl ?_
            refine G_gR (pc := 53) f_208_53 (by decide) rfl (by first | assumption | exact hK.1 _ _ rfl) (by first | assumption | exact hK.2 _ _ _ rfl | (try dsimp only) <;> (repeat (first | exact up2_s | refine up2_o (by first | decide | omega) ?_)) <;> first | assumption | exact hK.2 _ _ _ rfl) ?_
            refine G_bi (v := nI 19) (pc := 56) f_208_56 (by decide) ?_
            refine G_S (pc := 58) f_208_58 rfl rfl rfl ?_
            refine G_gR (pc := 59) f_208_59 (by decide) rfl (by first | assumption | exact hK.1 _ _ rfl) (by first | assumption | exact hK.2 _ _ _ rfl | (try dsimp only) <;> (repeat (first | exact up2_s | refine up2_o (by first | decide | omega) ?_)) <;> first | assumption | exact hK.2 _ _ _ rfl) ?_
            refine G_ic (v := nI 2) (pc := 62) f_208_62 (by decide) ?_
            refine G_iaN (pc := 63) f_208_63 (by first | assumption | exact hK.1 _ _ rfl) (by omega) (by omega) (by first | exact (mI_o (by omega) d2) | rfl) ?_
            first | refine G_addN (pc := 64) f_208_64 ?_ | refine G_addZ (pc := 64) f_208_64 (by first | rfl | exact nI_zI _) (by first | rfl | exact nI_zI _) ?_ | refine G_S (pc := 64) f_208_64 rfl rfl rfl ?_
            refine G_S (pc := 65) f_208_65 rfl rfl rfl ?_
            refine G_gR (pc := 66) f_208_66 (by decide) rfl (by first | assumption | exact hK.1 _ _ rfl) (by first | assumption | exact hK.2 _ _ _ rfl | (try dsimp only) <;> (repeat (first | exact up2_s | refine up2_o (by first | decide | omega) ?_)) <;> first | assumption | exact hK.2 _ _ _ rfl) ?_
            refine G_ic (v := nI 1) (pc := 69) f_208_69 (by decide) ?_
            refine G_iaN (pc := 70) f_208_70 (by first | assumption | exact hK.1 _ _ rfl) (by omega) (by omega) (by first | exact (mI_o (by omega) r1) | rfl) ?_
            refine G_isN (pc := 71) f_208_71 (by first | assumption | exact hK.1 _ _ rfl) (by omega) (by omega) ?_
            refine G_S (pc := 72) f_208_72 rfl rfl rfl ?_
            refine G_gR (pc := 73) f_208_73 (by decide) rfl (by first | assumption | exact hK.1 _ _ rfl) (by first | assumption | exact hK.2 _ _ _ rfl | (try dsimp only) <;> (repeat (first | exact up2_s | refine up2_o (by first | decide | omega) ?_)) <;> first | assumption | exact hK.2 _ _ _ rfl) ?_
            refine G_ic (v := nI 2) (pc := 76) f_208_76 (by decide) ?_
            refine G_S (pc := 77) f_208_77 rfl rfl rfl ?_
            refine G_iaN (pc := 78) f_208_78 (by first | assumption | exact hK.1 _ _ rfl) (by omega) (by omega) (by first | exact (mI_o (by omega) (mI_o (by omega) d2)) | rfl) ?_
            refine G_ic (v := nI 1) (pc := 79) f_208_79 (by decide) ?_
            first | refine G_addN (pc := 80) f_208_80 ?_ | refine G_addZ (pc := 80) f_208_80 (by first | rfl | exact nI_zI _) (by first | rfl | exact nI_zI _) ?_ | refine G_S (pc := 80) f_208_80 rfl rfl rfl ?_
            refine G_isN (pc := 81) f_208_81 (by first | assumption | exact hK.1 _ _ rfl) (by omega) (by omega) ?_
            refine G_ic (v := nI 1) (pc := 82) f_208_82 (by decide) ?_
            refine G_rz (pc := 83) f_208_83 (by first | exact Or.inl rfl | exact Or.inr rfl | exact b2i_01 _ | assumption) ?_
            first
              | (have e : tkE 2 kd (vN t n (tkR t n p) : Int) (-1) (!decide (vN t n (tkR t n p) < 0 ∨ 60 < vN t n (tkR t n p))) E = E := by
                   unfold tkE
                   rw [if_neg (by decide), if_neg (by decide), if_pos rfl, if_neg (by omega)]
                 rw [e]
                 exact LN_fin ((hF2.sub (by decide) (by decide)).tr hF3) T3 hf3 g21 hlt3 hp3 Fw.rf hD3)
              | (have e : tkE 2 kd (vN t n (tkR t n p) : Int) (-1) (!decide (vN t n (tkR t n p) < 0 ∨ 60 < vN t n (tkR t n p))) E = up1 (up1 (up1 E (11 + c) (kd : Int)) (19 + c) (vN t n (tkR t n p) : Int)) 2 (E 2 + 1) := by
                   unfold tkE
                   rw [if_neg (by decide), if_neg (by decide), if_pos rfl, if_pos (by omega), hc, Int.toNat_natCast]
                 rw [e]
                 refine LN_fin ((hF2.sub (by decide) (by decide)).tr hF3) T3 hf3 g21 hlt3 hp3 (((Fw.up (i := 108) (by decide) (by decide)).tr (Fw.up (i := 108) (by decide) (by decide))).tr (Fw.up (i := 108) (by decide) (by decide))) ?_
                 have e2 : nI (c + 1) = zI (E 2 + 1) := zn' (by omega)
                 rw [e2, nI_zI (vN t n (tkR t n p)), nI_zI kd]
                 exact hD3.up.up.up)
        · exact absurd trivial b2
    · rw [if_neg h]
      refine CG_in (mL := 1) (hl := false) (lv := [some (.ref 98)]) (ll := []) rfl rfl rfl ?_
      refine G_S (pc := 0) f_208_0 rfl rfl rfl ?_
      refine G_ic (v := nI 0) (pc := 1) f_208_1 (by decide) ?_
      refine G_CV (pc := 2) f_208_2 rfl rfl (by decide) rfl rfl (by first | assumption | exact hK.1 _ _ rfl) (by decide) ⟨Nat.le_of_ble_eq_true rfl, Nat.le_of_ble_eq_true rfl⟩ ?_
      refine CG.mono (tk) ?_
      rintro _ M2 ⟨rfl, hF2, T2, rk, ro⟩
      have W2 := W.fp hF2 (by decide) (by decide)
      have hK := W2.1
      first | refine G_bEq (pc := 5) f_208_5 rfl (fun b1 => ?_) (fun b1 => ?_) | refine G_zeqZ (pc := 5) f_208_5 rfl (by first | exact nI_toInt (by omega) | exact zI_toInt (by omega) (by omega) | rfl) (fun b1 => ?_) (fun b1 => ?_)
      · exact absurd trivial b1
      · refine G_S (pc := 8) f_208_8 rfl rfl rfl ?_
        refine G_ic (v := nI 1) (pc := 9) f_208_9 (by decide) ?_
        refine G_ic (v := nI 0) (pc := 10) f_208_10 (by decide) ?_
        refine G_bi (v := nI 60) (pc := 11) f_208_11 (by decide) ?_
        refine G_CV (pc := 13) f_208_13 rfl rfl (by decide) rfl rfl (by first | assumption | exact hK.1 _ _ rfl) (by decide) ⟨Nat.le_of_ble_eq_true rfl, Nat.le_of_ble_eq_true rfl⟩ ?_
        refine CG.mono (m_takeN W2 T2 h) ?_
        rintro _ M3 ⟨rfl, hF3, h16⟩
        first | refine G_bNe (pc := 16) f_208_16 rfl (fun b2 => ?_) (fun b2 => ?_) | refine G_zneZ (pc := 16) f_208_16 rfl (by first | exact nI_toInt (by omega) | exact zI_toInt (by omega) (by omega) | rfl) (fun b2 => ?_) (fun b2 => ?_)
        · exact absurd b2 id
        · refine G_ic (v := nI 0) (pc := 19) f_208_19 (by decide) ?_
          refine G_rz (pc := 20) f_208_20 (by first | exact Or.inl rfl | exact Or.inr rfl | exact b2i_01 _ | assumption) ?_
          exact LN_no ((hF2.sub (by decide) (by decide)).tr (hF3.1.sub (by decide) (by decide))) h16
theorem m_wearL (S : MSt M t n p f E T) : CG C 209 [.ref 98] M (LNq t n M (lnS t n 3 E T f p)) := by
  obtain ⟨W, T1, hf, hD, h21, h22, hlt, hp⟩ := S
  have hK := W.1
  cases hk : kdH t n p with
  | none =>
    rw [ln_kN (by decide) hk]
    refine CG_in (mL := 1) (hl := false) (lv := [some (.ref 98)]) (ll := []) rfl rfl rfl ?_
    refine G_S (pc := 0) f_209_0 rfl rfl rfl ?_
    refine G_ic (v := nI 0) (pc := 1) f_209_1 (by decide) ?_
    refine G_CV (pc := 2) f_209_2 rfl rfl (by decide) rfl rfl (by first | assumption | exact hK.1 _ _ rfl) (by decide) ⟨Nat.le_of_ble_eq_true rfl, Nat.le_of_ble_eq_true rfl⟩ ?_
    refine CG.mono (m_kindN W T1 hp hk) ?_
    rintro _ M2 ⟨rfl, hF2, h16⟩
    first | refine G_bEq (pc := 5) f_209_5 rfl (fun b1 => ?_) (fun b1 => ?_) | refine G_zeqZ (pc := 5) f_209_5 rfl (by first | exact nI_toInt (by omega) | exact zI_toInt (by omega) (by omega) | rfl) (fun b1 => ?_) (fun b1 => ?_)
    · refine G_ic (v := nI 0) (pc := 19) f_209_19 (by decide) ?_
      refine G_rz (pc := 20) f_209_20 (by first | exact Or.inl rfl | exact Or.inr rfl | exact b2i_01 _ | assumption) ?_
      exact LN_no (hF2.1.sub (by decide) (by decide)) h16
    · exact absurd b1 id
  | some kd =>
    rw [ln_k1 (by decide) (by decide) hk, bad_d (lo := 0) (hi := 9) (by decide) (by decide)]
    have hl := leastF_lt _ _ _ hk
    have hx := tk_nx hp (show tkK t n p ≠ 0 by rw [wd_k hl.2.2]; decide)
    have tk := m_kindS (C := C) (k := 0) W T1 hp hk (by decide)
    have hs := skp_b (t := t) hx.2.2
    by_cases h : tkK t n (tkR t n p) = 2
    · rw [if_pos h]
      refine CG_in (mL := 1) (hl := false) (lv := [some (.ref 98)]) (ll := []) rfl rfl rfl ?_
      refine G_S (pc := 0) f_209_0 rfl rfl rfl ?_
      refine G_ic (v := nI 0) (pc := 1) f_209_1 (by decide) ?_
      refine G_CV (pc := 2) f_209_2 rfl rfl (by decide) rfl rfl (by first | assumption | exact hK.1 _ _ rfl) (by decide) ⟨Nat.le_of_ble_eq_true rfl, Nat.le_of_ble_eq_true rfl⟩ ?_
      refine CG.mono (tk) ?_
      rintro _ M2 ⟨rfl, hF2, T2, rk, ro⟩
      have W2 := W.fp hF2 (by decide) (by decide)
      have hK := W2.1
      have tn := m_num (C := C) (k := 1) (lo := 0) (hi := 9) W2 T2 (hf.fp hF2 (by decide) (by decide)) (hD.fp hF2 (by decide)) (by rw [hF2.2.2 21 (by decide)]; exact h21) (by rw [hF2.2.2 22 (by decide)]; exact h22) (fun z => by have := hlt z; omega) hx.2.2 h (by decide) (by decide) (by decide)
      first | refine G_bEq (pc := 5) f_209_5 rfl (fun b1 => ?_) (fun b1 => ?_) | refine G_zeqZ (pc := 5) f_209_5 rfl (by first | exact nI_toInt (by omega) | exact zI_toInt (by omega) (by omega) | rfl) (fun b1 => ?_) (fun b1 => ?_)
      · exact absurd trivial b1
      · refine G_S (pc := 8) f_209_8 rfl rfl rfl ?_
        refine G_ic (v := nI 1) (pc := 9) f_209_9 (by decide) ?_
        refine G_ic (v := nI 0) (pc := 10) f_209_10 (by decide) ?_
        refine G_bi (v := nI 9) (pc := 11) f_209_11 (by decide) ?_
        refine G_CV (pc := 13) f_209_13 rfl rfl (by decide) rfl rfl (by first | assumption | exact hK.1 _ _ rfl) (by decide) ⟨Nat.le_of_ble_eq_true rfl, Nat.le_of_ble_eq_true rfl⟩ ?_
        refine CG.mono (tn) ?_
        rintro _ M3 ⟨rfl, hF3, W3, T3, hf3, hD3, g21, g22, hlt3, hp3, r1, ro3⟩
        have hK := W3.1
        have rk3 : M3.2.1 109 0 = nI kd := (ro3 0 (by decide)).trans rk
        rw [Bool.true_and] at g22
        first | refine G_bNe (pc := 16) f_209_16 rfl (fun b2 => ?_) (fun b2 => ?_) | refine G_zneZ (pc := 16) f_209_16 rfl (by first | exact nI_toInt (by omega) | exact zI_toInt (by omega) (by omega) | rfl) (fun b2 => ?_) (fun b2 => ?_)
        · refine G_S (pc := 21) f_209_21 rfl rfl rfl ?_
          refine G_gIv (pc := 22) f_209_22 (by decide) rfl (by decide) (by first | assumption | exact hK.1 _ _ rfl) (g22) ?_
          first | refine G_bEq (pc := 25) f_209_25 rfl (fun b3 => ?_) (fun b3 => ?_) | refine G_zeqZ (pc := 25) f_209_25 rfl (by first | exact nI_toInt (by omega) | exact zI_toInt (by omega) (by omega) | rfl) (fun b3 => ?_) (fun b3 => ?_)
          · refine G_ic (v := nI 1) (pc := 48) f_209_48 (by decide) ?_
            refine G_rz (pc := 49) f_209_49 (by first | exact Or.inl rfl | exact Or.inr rfl | exact b2i_01 _ | assumption) ?_
            first
              | (have e : tkE 3 kd (vN t n (tkR t n p) : Int) (-1) (!decide (vN t n (tkR t n p) < 0 ∨ 9 < vN t n (tkR t n p))) E = E := by
                   unfold tkE
                   rw [if_neg (by decide), if_neg (by decide), if_neg (by decide), if_pos rfl, if_neg b3]
                 rw [e]
                 exact LN_fin ((hF2.sub (by decide) (by decide)).tr hF3) T3 hf3 g21 hlt3 hp3 Fw.rf hD3)
              | (have e : tkE 3 kd (vN t n (tkR t n p) : Int) (-1) (!decide (vN t n (tkR t n p) < 0 ∨ 9 < vN t n (tkR t n p))) E = up1 E (27 + kd) (vN t n (tkR t n p) : Int) := by
                   unfold tkE
                   rw [if_neg (by decide), if_neg (by decide), if_neg (by decide), if_pos rfl, if_pos b3]
                 rw [e]
                 refine LN_fin ((hF2.sub (by decide) (by decide)).tr hF3) T3 hf3 g21 hlt3 hp3 (Fw.up (i := 108) (by decide) (by decide)) ?_
                 rw [nI_zI (vN t n (tkR t n p))]
                 exact hD3.up)
          · refine G_S (pc := 28) f_209_28 rfl rfl rfl ?_
            refine G_gR (pc := 29) f_209_29 (by decide) rfl (by first | assumption | exact hK.1 _ _ rfl) (by first | assumption | exact hK.2 _ _ _ rfl | (try dsimp only) <;> (repeat (first | exact up2_s | refine up2_o (by first | decide | omega) ?_)) <;> first | assumption | exact hK.2 _ _ _ rfl) ?_
            refine G_bi (v := nI 27) (pc := 32) f_209_32 (by decide) ?_
            refine G_S (pc := 34) f_209_34 rfl rfl rfl ?_
            refine G_gR (pc := 35) f_209_35 (by decide) rfl (by first | assumption | exact hK.1 _ _ rfl) (by first | assumption | exact hK.2 _ _ _ rfl | (try dsimp only) <;> (repeat (first | exact up2_s | refine up2_o (by first | decide | omega) ?_)) <;> first | assumption | exact hK.2 _ _ _ rfl) ?_
            refine G_ic (v := nI 0) (pc := 38) f_209_38 (by decide) ?_
            refine G_iaN (pc := 39) f_209_39 (by first | assumption | exact hK.1 _ _ rfl) (by omega) (by omega) (by first | exact rk3 | rfl) ?_
            first | refine G_addN (pc := 40) f_209_40 ?_ | refine G_addZ (pc := 40) f_209_40 (by first | rfl | exact nI_zI _) (by first | rfl | exact nI_zI _) ?_ | refine G_S (pc := 40) f_209_40 rfl rfl rfl ?_
            refine G_S (pc := 41) f_209_41 rfl rfl rfl ?_
            refine G_gR (pc := 42) f_209_42 (by decide) rfl (by first | assumption | exact hK.1 _ _ rfl) (by first | assumption | exact hK.2 _ _ _ rfl | (try dsimp only) <;> (repeat (first | exact up2_s | refine up2_o (by first | decide | omega) ?_)) <;> first | assumption | exact hK.2 _ _ _ rfl) ?_
            refine G_ic (v := nI 1) (pc := 45) f_209_45 (by decide) ?_
            refine G_iaN (pc := 46) f_209_46 (by first | assumption | exact hK.1 _ _ rfl) (by omega) (by omega) (by first | exact r1 | rfl) ?_
            refine G_isN (pc := 47) f_209_47 (by first | assumption | exact hK.1 _ _ rfl) (by omega) (by omega) ?_
            refine G_ic (v := nI 1) (pc := 48) f_209_48 (by decide) ?_
            refine G_rz (pc := 49) f_209_49 (by first | exact Or.inl rfl | exact Or.inr rfl | exact b2i_01 _ | assumption) ?_
            first
              | (have e : tkE 3 kd (vN t n (tkR t n p) : Int) (-1) (!decide (vN t n (tkR t n p) < 0 ∨ 9 < vN t n (tkR t n p))) E = E := by
                   unfold tkE
                   rw [if_neg (by decide), if_neg (by decide), if_neg (by decide), if_pos rfl, if_neg b3]
                 rw [e]
                 exact LN_fin ((hF2.sub (by decide) (by decide)).tr hF3) T3 hf3 g21 hlt3 hp3 Fw.rf hD3)
              | (have e : tkE 3 kd (vN t n (tkR t n p) : Int) (-1) (!decide (vN t n (tkR t n p) < 0 ∨ 9 < vN t n (tkR t n p))) E = up1 E (27 + kd) (vN t n (tkR t n p) : Int) := by
                   unfold tkE
                   rw [if_neg (by decide), if_neg (by decide), if_neg (by decide), if_pos rfl, if_pos b3]
                 rw [e]
                 refine LN_fin ((hF2.sub (by decide) (by decide)).tr hF3) T3 hf3 g21 hlt3 hp3 (Fw.up (i := 108) (by decide) (by decide)) ?_
                 rw [nI_zI (vN t n (tkR t n p))]
                 exact hD3.up)
        · exact absurd trivial b2
    · rw [if_neg h]
      refine CG_in (mL := 1) (hl := false) (lv := [some (.ref 98)]) (ll := []) rfl rfl rfl ?_
      refine G_S (pc := 0) f_209_0 rfl rfl rfl ?_
      refine G_ic (v := nI 0) (pc := 1) f_209_1 (by decide) ?_
      refine G_CV (pc := 2) f_209_2 rfl rfl (by decide) rfl rfl (by first | assumption | exact hK.1 _ _ rfl) (by decide) ⟨Nat.le_of_ble_eq_true rfl, Nat.le_of_ble_eq_true rfl⟩ ?_
      refine CG.mono (tk) ?_
      rintro _ M2 ⟨rfl, hF2, T2, rk, ro⟩
      have W2 := W.fp hF2 (by decide) (by decide)
      have hK := W2.1
      first | refine G_bEq (pc := 5) f_209_5 rfl (fun b1 => ?_) (fun b1 => ?_) | refine G_zeqZ (pc := 5) f_209_5 rfl (by first | exact nI_toInt (by omega) | exact zI_toInt (by omega) (by omega) | rfl) (fun b1 => ?_) (fun b1 => ?_)
      · exact absurd trivial b1
      · refine G_S (pc := 8) f_209_8 rfl rfl rfl ?_
        refine G_ic (v := nI 1) (pc := 9) f_209_9 (by decide) ?_
        refine G_ic (v := nI 0) (pc := 10) f_209_10 (by decide) ?_
        refine G_bi (v := nI 9) (pc := 11) f_209_11 (by decide) ?_
        refine G_CV (pc := 13) f_209_13 rfl rfl (by decide) rfl rfl (by first | assumption | exact hK.1 _ _ rfl) (by decide) ⟨Nat.le_of_ble_eq_true rfl, Nat.le_of_ble_eq_true rfl⟩ ?_
        refine CG.mono (m_takeN W2 T2 h) ?_
        rintro _ M3 ⟨rfl, hF3, h16⟩
        first | refine G_bNe (pc := 16) f_209_16 rfl (fun b2 => ?_) (fun b2 => ?_) | refine G_zneZ (pc := 16) f_209_16 rfl (by first | exact nI_toInt (by omega) | exact zI_toInt (by omega) (by omega) | rfl) (fun b2 => ?_) (fun b2 => ?_)
        · exact absurd b2 id
        · refine G_ic (v := nI 0) (pc := 19) f_209_19 (by decide) ?_
          refine G_rz (pc := 20) f_209_20 (by first | exact Or.inl rfl | exact Or.inr rfl | exact b2i_01 _ | assumption) ?_
          exact LN_no ((hF2.sub (by decide) (by decide)).tr (hF3.1.sub (by decide) (by decide))) h16
theorem m_fareL (S : MSt M t n p f E T) : CG C 210 [.ref 98] M (LNq t n M (lnS t n 4 E T f p)) := by
  obtain ⟨W, T1, hf, hD, h21, h22, hlt, hp⟩ := S
  have hK := W.1
  rw [ln_2 (by decide) (by decide), bad_d (lo := 1) (hi := 8) (i := 0) (by decide) (by decide), bad_d (lo := 0) (hi := 99) (i := 1) (by decide) (by decide)]
  by_cases h : tkK t n p = 2
  · rw [if_pos h]
    have tn := m_num (C := C) (k := 0) (lo := 1) (hi := 8) W T1 hf hD h21 h22 hlt hp h (by decide) (by decide) (by decide)
    by_cases h2 : tkK t n (tkR t n p) = 2
    · rw [if_pos h2]
      refine CG_in (mL := 1) (hl := false) (lv := [some (.ref 98)]) (ll := []) rfl rfl rfl ?_
      refine G_S (pc := 0) f_210_0 rfl rfl rfl ?_
      refine G_ic (v := nI 0) (pc := 1) f_210_1 (by decide) ?_
      refine G_ic (v := nI 1) (pc := 2) f_210_2 (by decide) ?_
      refine G_bi (v := nI 8) (pc := 3) f_210_3 (by decide) ?_
      refine G_CV (pc := 5) f_210_5 rfl rfl (by decide) rfl rfl (by first | assumption | exact hK.1 _ _ rfl) (by decide) ⟨Nat.le_of_ble_eq_true rfl, Nat.le_of_ble_eq_true rfl⟩ ?_
      refine CG.mono (tn) ?_
      rintro _ M2 ⟨rfl, hF2, W2, T2, hf2, hD2, g21, g22, hlt2, hp2, r0, ro⟩
      have hK := W2.1
      have tn2 := m_num (C := C) (k := 1) (lo := 0) (hi := 99) W2 T2 hf2 hD2 g21 g22 hlt2 hp2 h2 (by decide) (by decide) (by decide)
      first | refine G_bEq (pc := 8) f_210_8 rfl (fun b1 => ?_) (fun b1 => ?_) | refine G_zeqZ (pc := 8) f_210_8 rfl (by first | exact nI_toInt (by omega) | exact zI_toInt (by omega) (by omega) | rfl) (fun b1 => ?_) (fun b1 => ?_)
      · exact absurd trivial b1
      · refine G_S (pc := 11) f_210_11 rfl rfl rfl ?_
        refine G_ic (v := nI 1) (pc := 12) f_210_12 (by decide) ?_
        refine G_ic (v := nI 0) (pc := 13) f_210_13 (by decide) ?_
        refine G_bi (v := nI 99) (pc := 14) f_210_14 (by decide) ?_
        refine G_CV (pc := 16) f_210_16 rfl rfl (by decide) rfl rfl (by first | assumption | exact hK.1 _ _ rfl) (by decide) ⟨Nat.le_of_ble_eq_true rfl, Nat.le_of_ble_eq_true rfl⟩ ?_
        refine CG.mono (tn2) ?_
        rintro _ M3 ⟨rfl, hF3, W3, T3, hf3, hD3, k21, k22, hlt3, hp3, r1, ro3⟩
        have hK := W3.1
        have r03 : M3.2.1 109 0 = nI (vN t n p) := (ro3 0 (by decide)).trans r0
        rw [Bool.true_and] at k22
        first | refine G_bNe (pc := 19) f_210_19 rfl (fun b2 => ?_) (fun b2 => ?_) | refine G_zneZ (pc := 19) f_210_19 rfl (by first | exact nI_toInt (by omega) | exact zI_toInt (by omega) (by omega) | rfl) (fun b2 => ?_) (fun b2 => ?_)
        · refine G_S (pc := 24) f_210_24 rfl rfl rfl ?_
          refine G_gIv (pc := 25) f_210_25 (by decide) rfl (by decide) (by first | assumption | exact hK.1 _ _ rfl) (k22) ?_
          first | refine G_bEq (pc := 28) f_210_28 rfl (fun b3 => ?_) (fun b3 => ?_) | refine G_zeqZ (pc := 28) f_210_28 rfl (by first | exact nI_toInt (by omega) | exact zI_toInt (by omega) (by omega) | rfl) (fun b3 => ?_) (fun b3 => ?_)
          · refine G_ic (v := nI 1) (pc := 53) f_210_53 (by decide) ?_
            refine G_rz (pc := 54) f_210_54 (by first | exact Or.inl rfl | exact Or.inr rfl | exact b2i_01 _ | assumption) ?_
            first
              | (have e : tkE 4 0 (vN t n p : Int) (vN t n (tkR t n p) : Int) (!decide (vN t n p < 1 ∨ 8 < vN t n p) && !decide (vN t n (tkR t n p) < 0 ∨ 99 < vN t n (tkR t n p))) E = E := by
                   unfold tkE
                   rw [if_neg (by decide), if_neg (by decide), if_neg (by decide), if_neg (by decide), if_pos rfl, if_neg b3]
                 rw [e]
                 exact LN_fin (hF2.tr hF3) T3 hf3 k21 hlt3 hp3 Fw.rf hD3)
              | (have e : tkE 4 0 (vN t n p : Int) (vN t n (tkR t n p) : Int) (!decide (vN t n p < 1 ∨ 8 < vN t n p) && !decide (vN t n (tkR t n p) < 0 ∨ 99 < vN t n (tkR t n p))) E = up1 E (31 + vN t n p - 1) (vN t n (tkR t n p) : Int) := by
                   unfold tkE
                   rw [if_neg (by decide), if_neg (by decide), if_neg (by decide), if_neg (by decide), if_pos rfl, if_pos b3, Int.toNat_natCast, show 31 + vN t n p - 1 = 30 + vN t n p by omega]
                 rw [e]
                 refine LN_fin (hF2.tr hF3) T3 hf3 k21 hlt3 hp3 (Fw.up (i := 108) (by decide) (by decide)) ?_
                 rw [nI_zI (vN t n (tkR t n p))]
                 exact hD3.up)
          · have hv1 : 1 ≤ vN t n p ∧ vN t n p ≤ 8 := by
              have z := (Bool.and_eq_true _ _ ▸ b3).1
              have z := of_decide_eq_false ((Bool.not_eq_true' _) ▸ z)
              omega
            refine G_S (pc := 31) f_210_31 rfl rfl rfl ?_
            refine G_gR (pc := 32) f_210_32 (by decide) rfl (by first | assumption | exact hK.1 _ _ rfl) (by first | assumption | exact hK.2 _ _ _ rfl | (try dsimp only) <;> (repeat (first | exact up2_s | refine up2_o (by first | decide | omega) ?_)) <;> first | assumption | exact hK.2 _ _ _ rfl) ?_
            refine G_bi (v := nI 31) (pc := 35) f_210_35 (by decide) ?_
            refine G_S (pc := 37) f_210_37 rfl rfl rfl ?_
            refine G_gR (pc := 38) f_210_38 (by decide) rfl (by first | assumption | exact hK.1 _ _ rfl) (by first | assumption | exact hK.2 _ _ _ rfl | (try dsimp only) <;> (repeat (first | exact up2_s | refine up2_o (by first | decide | omega) ?_)) <;> first | assumption | exact hK.2 _ _ _ rfl) ?_
            refine G_ic (v := nI 0) (pc := 41) f_210_41 (by decide) ?_
            refine G_iaN (pc := 42) f_210_42 (by first | assumption | exact hK.1 _ _ rfl) (by omega) (by omega) (by first | exact r03 | rfl) ?_
            first | refine G_addN (pc := 43) f_210_43 ?_ | refine G_addZ (pc := 43) f_210_43 (by first | rfl | exact nI_zI _) (by first | rfl | exact nI_zI _) ?_ | refine G_S (pc := 43) f_210_43 rfl rfl rfl ?_
            refine G_ic (v := nI 1) (pc := 44) f_210_44 (by decide) ?_
            first | refine G_subN (pc := 45) f_210_45 (by omega) ?_ | refine G_subZ (pc := 45) f_210_45 (by first | rfl | exact nI_zI _) (by first | rfl | exact nI_zI _) ?_ | refine G_S (pc := 45) f_210_45 rfl rfl rfl ?_
            refine G_S (pc := 46) f_210_46 rfl rfl rfl ?_
            refine G_gR (pc := 47) f_210_47 (by decide) rfl (by first | assumption | exact hK.1 _ _ rfl) (by first | assumption | exact hK.2 _ _ _ rfl | (try dsimp only) <;> (repeat (first | exact up2_s | refine up2_o (by first | decide | omega) ?_)) <;> first | assumption | exact hK.2 _ _ _ rfl) ?_
            refine G_ic (v := nI 1) (pc := 50) f_210_50 (by decide) ?_
            refine G_iaN (pc := 51) f_210_51 (by first | assumption | exact hK.1 _ _ rfl) (by omega) (by omega) (by first | exact r1 | rfl) ?_
            refine G_isN (pc := 52) f_210_52 (by first | assumption | exact hK.1 _ _ rfl) (by omega) (by omega) ?_
            refine G_ic (v := nI 1) (pc := 53) f_210_53 (by decide) ?_
            refine G_rz (pc := 54) f_210_54 (by first | exact Or.inl rfl | exact Or.inr rfl | exact b2i_01 _ | assumption) ?_
            first
              | (have e : tkE 4 0 (vN t n p : Int) (vN t n (tkR t n p) : Int) (!decide (vN t n p < 1 ∨ 8 < vN t n p) && !decide (vN t n (tkR t n p) < 0 ∨ 99 < vN t n (tkR t n p))) E = E := by
                   unfold tkE
                   rw [if_neg (by decide), if_neg (by decide), if_neg (by decide), if_neg (by decide), if_pos rfl, if_neg b3]
                 rw [e]
                 exact LN_fin (hF2.tr hF3) T3 hf3 k21 hlt3 hp3 Fw.rf hD3)
              | (have e : tkE 4 0 (vN t n p : Int) (vN t n (tkR t n p) : Int) (!decide (vN t n p < 1 ∨ 8 < vN t n p) && !decide (vN t n (tkR t n p) < 0 ∨ 99 < vN t n (tkR t n p))) E = up1 E (31 + vN t n p - 1) (vN t n (tkR t n p) : Int) := by
                   unfold tkE
                   rw [if_neg (by decide), if_neg (by decide), if_neg (by decide), if_neg (by decide), if_pos rfl, if_pos b3, Int.toNat_natCast, show 31 + vN t n p - 1 = 30 + vN t n p by omega]
                 rw [e]
                 refine LN_fin (hF2.tr hF3) T3 hf3 k21 hlt3 hp3 (Fw.up (i := 108) (by decide) (by decide)) ?_
                 rw [nI_zI (vN t n (tkR t n p))]
                 exact hD3.up)
        · exact absurd trivial b2
    · rw [if_neg h2]
      refine CG_in (mL := 1) (hl := false) (lv := [some (.ref 98)]) (ll := []) rfl rfl rfl ?_
      refine G_S (pc := 0) f_210_0 rfl rfl rfl ?_
      refine G_ic (v := nI 0) (pc := 1) f_210_1 (by decide) ?_
      refine G_ic (v := nI 1) (pc := 2) f_210_2 (by decide) ?_
      refine G_bi (v := nI 8) (pc := 3) f_210_3 (by decide) ?_
      refine G_CV (pc := 5) f_210_5 rfl rfl (by decide) rfl rfl (by first | assumption | exact hK.1 _ _ rfl) (by decide) ⟨Nat.le_of_ble_eq_true rfl, Nat.le_of_ble_eq_true rfl⟩ ?_
      refine CG.mono (tn) ?_
      rintro _ M2 ⟨rfl, hF2, W2, T2, hf2, hD2, g21, g22, hlt2, hp2, r0, ro⟩
      have hK := W2.1
      first | refine G_bEq (pc := 8) f_210_8 rfl (fun b1 => ?_) (fun b1 => ?_) | refine G_zeqZ (pc := 8) f_210_8 rfl (by first | exact nI_toInt (by omega) | exact zI_toInt (by omega) (by omega) | rfl) (fun b1 => ?_) (fun b1 => ?_)
      · exact absurd trivial b1
      · refine G_S (pc := 11) f_210_11 rfl rfl rfl ?_
        refine G_ic (v := nI 1) (pc := 12) f_210_12 (by decide) ?_
        refine G_ic (v := nI 0) (pc := 13) f_210_13 (by decide) ?_
        refine G_bi (v := nI 99) (pc := 14) f_210_14 (by decide) ?_
        refine G_CV (pc := 16) f_210_16 rfl rfl (by decide) rfl rfl (by first | assumption | exact hK.1 _ _ rfl) (by decide) ⟨Nat.le_of_ble_eq_true rfl, Nat.le_of_ble_eq_true rfl⟩ ?_
        refine CG.mono (m_takeN W2 T2 h2) ?_
        rintro _ M3 ⟨rfl, hF3, h16⟩
        first | refine G_bNe (pc := 19) f_210_19 rfl (fun b2 => ?_) (fun b2 => ?_) | refine G_zneZ (pc := 19) f_210_19 rfl (by first | exact nI_toInt (by omega) | exact zI_toInt (by omega) (by omega) | rfl) (fun b2 => ?_) (fun b2 => ?_)
        · exact absurd b2 id
        · refine G_ic (v := nI 0) (pc := 22) f_210_22 (by decide) ?_
          refine G_rz (pc := 23) f_210_23 (by first | exact Or.inl rfl | exact Or.inr rfl | exact b2i_01 _ | assumption) ?_
          exact LN_no (hF2.tr (hF3.1.sub (by decide) (by decide))) h16
  · rw [if_neg h]
    refine CG_in (mL := 1) (hl := false) (lv := [some (.ref 98)]) (ll := []) rfl rfl rfl ?_
    refine G_S (pc := 0) f_210_0 rfl rfl rfl ?_
    refine G_ic (v := nI 0) (pc := 1) f_210_1 (by decide) ?_
    refine G_ic (v := nI 1) (pc := 2) f_210_2 (by decide) ?_
    refine G_bi (v := nI 8) (pc := 3) f_210_3 (by decide) ?_
    refine G_CV (pc := 5) f_210_5 rfl rfl (by decide) rfl rfl (by first | assumption | exact hK.1 _ _ rfl) (by decide) ⟨Nat.le_of_ble_eq_true rfl, Nat.le_of_ble_eq_true rfl⟩ ?_
    refine CG.mono (m_takeN W T1 h) ?_
    rintro _ M2 ⟨rfl, hF2, h16⟩
    first | refine G_bEq (pc := 8) f_210_8 rfl (fun b1 => ?_) (fun b1 => ?_) | refine G_zeqZ (pc := 8) f_210_8 rfl (by first | exact nI_toInt (by omega) | exact zI_toInt (by omega) (by omega) | rfl) (fun b1 => ?_) (fun b1 => ?_)
    · refine G_ic (v := nI 0) (pc := 22) f_210_22 (by decide) ?_
      refine G_rz (pc := 23) f_210_23 (by first | exact Or.inl rfl | exact Or.inr rfl | exact b2i_01 _ | assumption) ?_
      exact LN_no (hF2.1.sub (by decide) (by decide)) h16
    · exact absurd b1 id
end MLN
