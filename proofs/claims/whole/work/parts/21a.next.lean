/-! the next order by numbers -/
theorem Fo.c {os : List Nat} {M M' : Mm} (h : Fo os M M') : Fc os M M' := ⟨h.1.1, fun i k _ => by rw [h.1.2], h.2⟩
def swF (a : Nat → Nat) (i j : Nat) : Nat → Nat := up1 (up1 a i (a j)) j (a i)
def nxT (a : Nat → Nat) : Nat → Option Nat
  | 0 => none
  | k + 1 => if a (k + 1) < a k then nxT a k else some k
def nxW (a : Nat → Nat) (t : Nat) : Nat → Nat
  | 0 => 0
  | i + 1 => if a (i + 1) < a t then nxW a t i else i + 1
def rvF : Nat → (Nat → Nat) → Nat → Nat → Nat → Nat
  | 0, a, _, _ => a
  | f + 1, a, lo, hi => if lo < hi then rvF f (swF a lo hi) (lo + 1) (hi - 1) else a
def nxF (m : Nat) (a : Nat → Nat) : Option (Nat → Nat) := match nxT a (m - 1) with
  | none => none
  | some t => some (rvF 8 (swF a t (nxW a t (m - 1))) (t + 1) (m - 1))
theorem swF_lt {a : Nat → Nat} {i j m B : Nat} (hi : i < m) (hj : j < m) (h : ∀ r, r < m → a r < B) : ∀ r, r < m → swF a i j r < B := by
  intro r hr
  unfold swF up1
  split
  · exact h i hi
  · split
    · exact h j hj
    · exact h r hr
theorem nxT_some {a : Nat → Nat} : ∀ {k t : Nat}, nxT a k = some t → t < k ∧ a t ≤ a (t + 1)
  | 0, t, h => by cases h
  | k + 1, t, h => by
    rw [nxT] at h
    split at h
    · have := nxT_some h
      omega
    · cases h
      omega
theorem nxW_b {a : Nat → Nat} {t : Nat} (ht : a t ≤ a (t + 1)) : ∀ {w : Nat}, t + 1 ≤ w → t + 1 ≤ nxW a t w ∧ nxW a t w ≤ w
  | 0, h => by omega
  | w + 1, h => by
    rw [nxW]
    split
    · have : t ≠ w := fun q => by subst q; omega
      have := nxW_b ht (w := w) (by omega)
      omega
    · omega
section NXX0
variable {C : Ct} {M : Mm} {m : Nat} {a : Nat → Nat}
theorem b_swap {i j : Nat} (hK : KM M.1 M.2.2.2) (hq : ∀ r, r < m → M.2.1 90 r = nI (a r)) (hm : m ≤ 6) (hi : i < m) (hj : j < m) : CG C 6 [.ref 89, .int (nI i), .int (nI j)] M (fun w M' => w = none ∧ Fo [90] M M' ∧ ∀ r, r < m → M'.2.1 90 r = nI (swF a i j r)) := by
  have q1 := hq i hi
  have q2 := hq j hj
  refine CG_in (mL := 4) (hl := false) (lv := [some (.ref 89), some (.int (nI i)), some (.int (nI j)), none]) (ll := []) rfl rfl rfl ?_
  refine G_S (pc := 0) f_6_0 rfl rfl rfl ?_
  refine G_gR (pc := 1) f_6_1 (by decide) rfl (by first | assumption | exact hK.1 _ _ rfl) (by first | assumption | exact hK.2 _ _ _ rfl | (try dsimp only) <;> (repeat (first | exact up2_s | refine up2_o (by first | decide | omega) ?_)) <;> first | assumption | exact hK.2 _ _ _ rfl) ?_
  refine G_S (pc := 4) f_6_4 rfl rfl rfl ?_
  refine G_iaN (pc := 5) f_6_5 (by first | assumption | exact hK.1 _ _ rfl) (by omega) (by omega) (by first | exact q1 | rfl) ?_
  refine G_S (pc := 6) f_6_6 rfl rfl rfl ?_
  refine G_S (pc := 7) f_6_7 rfl rfl rfl ?_
  refine G_gR (pc := 8) f_6_8 (by decide) rfl (by first | assumption | exact hK.1 _ _ rfl) (by first | assumption | exact hK.2 _ _ _ rfl | (try dsimp only) <;> (repeat (first | exact up2_s | refine up2_o (by first | decide | omega) ?_)) <;> first | assumption | exact hK.2 _ _ _ rfl) ?_
  refine G_S (pc := 11) f_6_11 rfl rfl rfl ?_
  refine G_S (pc := 12) f_6_12 rfl rfl rfl ?_
  refine G_gR (pc := 13) f_6_13 (by decide) rfl (by first | assumption | exact hK.1 _ _ rfl) (by first | assumption | exact hK.2 _ _ _ rfl | (try dsimp only) <;> (repeat (first | exact up2_s | refine up2_o (by first | decide | omega) ?_)) <;> first | assumption | exact hK.2 _ _ _ rfl) ?_
  refine G_S (pc := 16) f_6_16 rfl rfl rfl ?_
  refine G_iaN (pc := 17) f_6_17 (by first | assumption | exact hK.1 _ _ rfl) (by omega) (by omega) (by first | exact q2 | rfl) ?_
  refine G_isN (pc := 18) f_6_18 (by first | assumption | exact hK.1 _ _ rfl) (by omega) (by omega) ?_
  refine G_S (pc := 19) f_6_19 rfl rfl rfl ?_
  refine G_gR (pc := 20) f_6_20 (by decide) rfl (by first | assumption | exact hK.1 _ _ rfl) (by first | assumption | exact hK.2 _ _ _ rfl | (try dsimp only) <;> (repeat (first | exact up2_s | refine up2_o (by first | decide | omega) ?_)) <;> first | assumption | exact hK.2 _ _ _ rfl) ?_
  refine G_S (pc := 23) f_6_23 rfl rfl rfl ?_
  refine G_S (pc := 24) f_6_24 rfl rfl rfl ?_
  refine G_isN (pc := 25) f_6_25 (by first | assumption | exact hK.1 _ _ rfl) (by omega) (by omega) ?_
  refine G_rv (pc := 26) f_6_26 ?_
  refine ⟨rfl, (Fo.up (i := 90) (k := i) (x := nI (a j)) (by decide)).tr (Fo.up (i := 90) (k := j) (x := nI (a i)) (by decide)), fun r hr => ?_⟩
  unfold swF
  by_cases e1 : r = j
  · subst e1
    rw [up1_s]
    exact (by (try dsimp only); exact up2_s)
  · rw [up1_o e1 rfl]
    by_cases e2 : r = i
    · subst e2
      rw [up1_s]
      exact (by (try dsimp only); exact up2_o (by omega) (by (try dsimp only); exact up2_s))
    · rw [up1_o e2 rfl]
      exact (by (try dsimp only); exact up2_o (by omega) (by (try dsimp only); exact up2_o (by omega) (hq r hr)))
theorem b_rev {t w : Nat} : ∀ f lo hi a M, KM M.1 M.2.2.2 → M.2.1 89 0 = nI m → m ≤ 6 → hi < m → hi ≤ lo + 2 * f → lo ≤ m → (∀ r, r < m → M.2.1 90 r = nI (a r)) → G C 5 (91, [some (.ref 89), some (.int (nI t)), some (.int (nI w)), some (.int (nI lo)), some (.int (nI hi))], [], [], M) (fun v M' => v = some (.int (nI 1)) ∧ Fo [90] M M' ∧ ∀ r, r < m → M'.2.1 90 r = nI (rvF f a lo hi r)) := by
  intro f
  induction f with
  | zero =>
    intro lo hi a M hK hs hm hh hf hl hq
    refine G_S (pc := 91) f_5_91 rfl rfl rfl ?_
    refine G_S (pc := 92) f_5_92 rfl rfl rfl ?_
    refine G_jgeZ (pc := 94) f_5_94 rfl (by first | exact nI_toInt (by omega) | exact zI_toInt (by omega) (by omega) | rfl) (by first | exact nI_toInt (by omega) | exact zI_toInt (by omega) (by omega) | rfl) (fun b6 => ?_) (fun b6 => ?_)
    · refine G_ic (v := nI 1) (pc := 113) f_5_113 (by decide) ?_
      refine G_rz (pc := 114) f_5_114 (by first | exact Or.inl rfl | exact Or.inr rfl | exact b2i_01 _ | assumption) ?_
      exact ⟨rfl, Fo.rf, hq⟩
    · exfalso; omega
  | succ f ih =>
    intro lo hi a M hK hs hm hh hf hl hq
    refine G_S (pc := 91) f_5_91 rfl rfl rfl ?_
    refine G_S (pc := 92) f_5_92 rfl rfl rfl ?_
    refine G_jgeZ (pc := 94) f_5_94 rfl (by first | exact nI_toInt (by omega) | exact zI_toInt (by omega) (by omega) | rfl) (by first | exact nI_toInt (by omega) | exact zI_toInt (by omega) (by omega) | rfl) (fun b6 => ?_) (fun b6 => ?_)
    · refine G_ic (v := nI 1) (pc := 113) f_5_113 (by decide) ?_
      refine G_rz (pc := 114) f_5_114 (by first | exact Or.inl rfl | exact Or.inr rfl | exact b2i_01 _ | assumption) ?_
      rw [rvF, if_neg (by omega)]
      exact ⟨rfl, Fo.rf, hq⟩
    · refine G_S (pc := 97) f_5_97 rfl rfl rfl ?_
      refine G_S (pc := 98) f_5_98 rfl rfl rfl ?_
      refine G_S (pc := 99) f_5_99 rfl rfl rfl ?_
      refine G_CV (pc := 101) f_5_101 rfl rfl (by decide) rfl rfl (by first | assumption | exact hK.1 _ _ rfl) (by decide) ⟨Nat.le_of_ble_eq_true rfl, Nat.le_of_ble_eq_true rfl⟩ ?_
      refine CG.mono (b_swap hK hq hm (by omega) (by omega)) ?_
      rintro _ M2 ⟨rfl, hF, hq2⟩
      first | refine G_inc1 (pc := 104) f_5_104 rfl ?_ | refine G_S (pc := 104) f_5_104 rfl rfl rfl ?_
      first | refine G_dec1 (pc := 107) f_5_107 rfl (by omega) ?_ | refine G_incZ (pc := 107) f_5_107 rfl (by first | rfl | exact nI_zI _) ?_
      refine G_S (pc := 110) f_5_110 rfl rfl rfl ?_
      refine G.mono (ih (lo + 1) (hi - 1) _ M2 (hF.K hK) (by rw [(hF.2 89 (by decide)).1]; exact hs) hm (by omega) (by omega) (by omega) hq2) ?_
      rintro v M9 ⟨g1, g2, g3⟩
      rw [rvF, if_pos (by omega)]
      exact ⟨g1, hF.tr g2, g3⟩
theorem b_with {t : Nat} (hK : KM M.1 M.2.2.2) (hs : M.2.1 89 0 = nI m) (hm : m ≤ 6) (hq : ∀ r, r < m → M.2.1 90 r = nI (a r)) (ha : ∀ r, r < m → a r < 8) (ht : t + 1 < m) (h1 : a t ≤ a (t + 1)) : ∀ w, t + 1 ≤ w → w < m → nxW a t w = nxW a t (m - 1) → G C 5 (47, [some (.ref 89), some (.int (nI t)), some (.int (nI w)), none, none], [], [], M) (fun v M' => v = some (.int (nI 1)) ∧ Fo [90] M M' ∧ ∀ r, r < m → M'.2.1 90 r = nI (rvF 8 (swF a t (nxW a t (m - 1))) (t + 1) (m - 1) r)) := by
  intro w
  induction w with
  | zero =>
    intro hw
    omega
  | succ w ih =>
    intro hw hwm hn
    have qt := hq t (by omega)
    have qw := hq (w + 1) hwm
    have at8 := ha t (by omega)
    have aw8 := ha (w + 1) hwm
    refine G_S (pc := 47) f_5_47 rfl rfl rfl ?_
    refine G_S (pc := 48) f_5_48 rfl rfl rfl ?_
    refine G_jleZ (pc := 49) f_5_49 rfl (by first | exact nI_toInt (by omega) | exact zI_toInt (by omega) (by omega) | rfl) (by first | exact nI_toInt (by omega) | exact zI_toInt (by omega) (by omega) | rfl) (fun b4 => ?_) (fun b4 => ?_)
    · exfalso; omega
    · refine G_S (pc := 52) f_5_52 rfl rfl rfl ?_
      refine G_gR (pc := 53) f_5_53 (by decide) rfl (by first | assumption | exact hK.1 _ _ rfl) (by first | assumption | exact hK.2 _ _ _ rfl | (try dsimp only) <;> (repeat (first | exact up2_s | refine up2_o (by first | decide | omega) ?_)) <;> first | assumption | exact hK.2 _ _ _ rfl) ?_
      refine G_S (pc := 56) f_5_56 rfl rfl rfl ?_
      refine G_iaN (pc := 57) f_5_57 (by first | assumption | exact hK.1 _ _ rfl) (by omega) (by omega) (by first | exact qw | rfl) ?_
      refine G_S (pc := 58) f_5_58 rfl rfl rfl ?_
      refine G_gR (pc := 59) f_5_59 (by decide) rfl (by first | assumption | exact hK.1 _ _ rfl) (by first | assumption | exact hK.2 _ _ _ rfl | (try dsimp only) <;> (repeat (first | exact up2_s | refine up2_o (by first | decide | omega) ?_)) <;> first | assumption | exact hK.2 _ _ _ rfl) ?_
      refine G_S (pc := 62) f_5_62 rfl rfl rfl ?_
      refine G_iaN (pc := 63) f_5_63 (by first | assumption | exact hK.1 _ _ rfl) (by omega) (by omega) (by first | exact qt | rfl) ?_
      refine G_jgeZ (pc := 64) f_5_64 rfl (by first | exact nI_toInt (by omega) | exact zI_toInt (by omega) (by omega) | rfl) (by first | exact nI_toInt (by omega) | exact zI_toInt (by omega) (by omega) | rfl) (fun b5 => ?_) (fun b5 => ?_)
      · refine G_S (pc := 73) f_5_73 rfl rfl rfl ?_
        refine G_S (pc := 74) f_5_74 rfl rfl rfl ?_
        refine G_S (pc := 75) f_5_75 rfl rfl rfl ?_
        refine G_CV (pc := 76) f_5_76 rfl rfl (by decide) rfl rfl (by first | assumption | exact hK.1 _ _ rfl) (by decide) ⟨Nat.le_of_ble_eq_true rfl, Nat.le_of_ble_eq_true rfl⟩ ?_
        refine CG.mono (b_swap hK hq hm (by omega) hwm) ?_
        rintro _ M2 ⟨rfl, hF, hq2⟩
        have hK2 := hF.K hK
        have hK := hK2
        have hs2 : M2.2.1 89 0 = nI m := by rw [(hF.2 89 (by decide)).1]; exact hs
        refine G_S (pc := 79) f_5_79 rfl rfl rfl ?_
        refine G_ic (v := nI 1) (pc := 80) f_5_80 (by decide) ?_
        first | refine G_addN (pc := 81) f_5_81 ?_ | refine G_addZ (pc := 81) f_5_81 (by first | rfl | exact nI_zI _) (by first | rfl | exact nI_zI _) ?_ | refine G_S (pc := 81) f_5_81 rfl rfl rfl ?_
        refine G_S (pc := 82) f_5_82 rfl rfl rfl ?_
        refine G_S (pc := 83) f_5_83 rfl rfl rfl ?_
        refine G_gIv (pc := 84) f_5_84 (by decide) rfl (by decide) (by first | assumption | exact hK.1 _ _ rfl) (by first | assumption | exact mI_s | ((refine mI_o (by first | decide | omega) ?_); (repeat (refine mI_o (by first | decide | omega) ?_)); first | exact mI_s | assumption) | rfl) ?_
        refine G_ic (v := nI 1) (pc := 87) f_5_87 (by decide) ?_
        first | refine G_subN (pc := 88) f_5_88 (by omega) ?_ | refine G_subZ (pc := 88) f_5_88 (by first | rfl | exact nI_zI _) (by first | rfl | exact nI_zI _) ?_ | refine G_S (pc := 88) f_5_88 rfl rfl rfl ?_
        refine G_S (pc := 89) f_5_89 rfl rfl rfl ?_
        have e : nxW a t (m - 1) = w + 1 := by
          rw [← hn, nxW, if_neg (by omega)]
        rw [e]
        refine G.mono (b_rev 8 (t + 1) (m - 1) _ M2 hK2 hs2 hm (by omega) (by omega) (by omega) hq2) ?_
        rintro v M9 ⟨g1, g2, g3⟩
        exact ⟨g1, hF.tr g2, g3⟩
      · first | refine G_dec1 (pc := 67) f_5_67 rfl (by omega) ?_ | refine G_incZ (pc := 67) f_5_67 rfl (by first | rfl | exact nI_zI _) ?_
        refine G_S (pc := 70) f_5_70 rfl rfl rfl ?_
        have hne : t ≠ w := fun q => by subst q; omega
        refine ih (by omega) (by omega) ?_
        rw [← hn, nxW, if_pos (by omega)]
theorem b_next (hK : KM M.1 M.2.2.2) (hs : M.2.1 89 0 = nI m) (hm : 1 ≤ m ∧ m ≤ 6) (hq : ∀ r, r < m → M.2.1 90 r = nI (a r)) (ha : ∀ r, r < m → a r < 8) : CG C 5 [.ref 89] M (fun v M' => v = some (.int (b2i ((nxF m a).isSome = true))) ∧ Fo [90] M M' ∧ ∀ a', nxF m a = some a' → ∀ r, r < m → M'.2.1 90 r = nI (a' r)) := by
  have loop : ∀ k, k ≤ m - 1 → nxT a k = nxT a (m - 1) → G C 5 (7, [some (.ref 89), some (.int ((zI ((k : Int) - 1)))), none, none, none], [], [], M) (fun v M' => v = some (.int (b2i ((nxF m a).isSome = true))) ∧ Fo [90] M M' ∧ ∀ a', nxF m a = some a' → ∀ r, r < m → M'.2.1 90 r = nI (a' r)) := by
    intro k
    induction k with
    | zero =>
      intro hk hn
      have e : nxF m a = none := by
        unfold nxF
        rw [← hn]
        rfl
      rw [e]
      refine G_S (pc := 7) f_5_7 rfl rfl rfl ?_
      refine G_zltZ (pc := 8) f_5_8 rfl (by first | exact nI_toInt (by omega) | exact zI_toInt (by omega) (by omega) | rfl) (fun b1 => ?_) (fun b1 => ?_)
      · refine G_S (pc := 34) f_5_34 rfl rfl rfl ?_
        refine G_zgeZ (pc := 35) f_5_35 rfl (by first | exact nI_toInt (by omega) | exact zI_toInt (by omega) (by omega) | rfl) (fun b3 => ?_) (fun b3 => ?_)
        · exfalso; omega
        · refine G_ic (v := nI 0) (pc := 38) f_5_38 (by decide) ?_
          refine G_rz (pc := 39) f_5_39 (by first | exact Or.inl rfl | exact Or.inr rfl | exact b2i_01 _ | assumption) ?_
          exact ⟨rfl, Fo.rf, fun a' h => by cases h⟩
      · exfalso; omega
    | succ k ih =>
      intro hk hn
      have ei : zI (((k + 1 : Nat) : Int) - 1) = nI k := by
        rw [nI_zI]
        congr 1
        omega
      rw [ei]
      have qk := hq k (by omega)
      have qk1 := hq (k + 1) (by omega)
      have a1 := ha k (by omega)
      have a2 := ha (k + 1) (by omega)
      refine G_S (pc := 7) f_5_7 rfl rfl rfl ?_
      refine G_zltZ (pc := 8) f_5_8 rfl (by first | exact nI_toInt (by omega) | exact zI_toInt (by omega) (by omega) | rfl) (fun b1 => ?_) (fun b1 => ?_)
      · exfalso; omega
      · refine G_S (pc := 11) f_5_11 rfl rfl rfl ?_
        refine G_gR (pc := 12) f_5_12 (by decide) rfl (by first | assumption | exact hK.1 _ _ rfl) (by first | assumption | exact hK.2 _ _ _ rfl | (try dsimp only) <;> (repeat (first | exact up2_s | refine up2_o (by first | decide | omega) ?_)) <;> first | assumption | exact hK.2 _ _ _ rfl) ?_
        refine G_S (pc := 15) f_5_15 rfl rfl rfl ?_
        refine G_iaN (pc := 16) f_5_16 (by first | assumption | exact hK.1 _ _ rfl) (by omega) (by omega) (by first | exact qk | rfl) ?_
        refine G_S (pc := 17) f_5_17 rfl rfl rfl ?_
        refine G_gR (pc := 18) f_5_18 (by decide) rfl (by first | assumption | exact hK.1 _ _ rfl) (by first | assumption | exact hK.2 _ _ _ rfl | (try dsimp only) <;> (repeat (first | exact up2_s | refine up2_o (by first | decide | omega) ?_)) <;> first | assumption | exact hK.2 _ _ _ rfl) ?_
        refine G_S (pc := 21) f_5_21 rfl rfl rfl ?_
        refine G_ic (v := nI 1) (pc := 22) f_5_22 (by decide) ?_
        first | refine G_addN (pc := 23) f_5_23 ?_ | refine G_addZ (pc := 23) f_5_23 (by first | rfl | exact nI_zI _) (by first | rfl | exact nI_zI _) ?_ | refine G_S (pc := 23) f_5_23 rfl rfl rfl ?_
        refine G_iaN (pc := 24) f_5_24 (by first | assumption | exact hK.1 _ _ rfl) (by omega) (by omega) (by first | exact qk1 | rfl) ?_
        refine G_jleZ (pc := 25) f_5_25 rfl (by first | exact nI_toInt (by omega) | exact zI_toInt (by omega) (by omega) | rfl) (by first | exact nI_toInt (by omega) | exact zI_toInt (by omega) (by omega) | rfl) (fun b2 => ?_) (fun b2 => ?_)
        · refine G_S (pc := 34) f_5_34 rfl rfl rfl ?_
          refine G_zgeZ (pc := 35) f_5_35 rfl (by first | exact nI_toInt (by omega) | exact zI_toInt (by omega) (by omega) | rfl) (fun b3 => ?_) (fun b3 => ?_)
          · refine G_S (pc := 40) f_5_40 rfl rfl rfl ?_
            refine G_gIv (pc := 41) f_5_41 (by decide) rfl (by decide) (by first | assumption | exact hK.1 _ _ rfl) (by first | assumption | exact mI_s | ((refine mI_o (by first | decide | omega) ?_); (repeat (refine mI_o (by first | decide | omega) ?_)); first | exact mI_s | assumption) | rfl) ?_
            refine G_ic (v := nI 1) (pc := 44) f_5_44 (by decide) ?_
            first | refine G_subN (pc := 45) f_5_45 (by omega) ?_ | refine G_subZ (pc := 45) f_5_45 (by first | rfl | exact nI_zI _) (by first | rfl | exact nI_zI _) ?_ | refine G_S (pc := 45) f_5_45 rfl rfl rfl ?_
            refine G_S (pc := 46) f_5_46 rfl rfl rfl ?_
            have en : nxT a (m - 1) = some k := by rw [← hn, nxT, if_neg (by omega)]
            have e : nxF m a = some (rvF 8 (swF a k (nxW a k (m - 1))) (k + 1) (m - 1)) := by
              unfold nxF
              rw [en]
            rw [e]
            refine G.mono (b_with hK hs hm.2 hq ha (by omega) (by omega) (m - 1) (by omega) (by omega) rfl) ?_
            rintro v M9 ⟨rfl, g2, g3⟩
            refine ⟨rfl, g2, fun a' h => ?_⟩
            cases h
            exact g3
          · exfalso; omega
        · first | refine G_dec1 (pc := 28) f_5_28 rfl (by omega) ?_ | refine G_incZ (pc := 28) f_5_28 rfl (by first | rfl | exact nI_zI _) ?_
          refine G_S (pc := 31) f_5_31 rfl rfl rfl ?_
          have e := ih (by omega) (by rw [← hn, nxT, if_pos (by omega)])
          exact e
  have e0 : zI ((m : Int) - ((2 : Nat) : Int)) = zI (((m - 1 : Nat) : Int) - 1) := by
    congr 1
    omega
  have e := loop (m - 1) (Nat.le_refl _) rfl
  rw [← e0] at e
  refine CG_in (mL := 5) (hl := false) (lv := [some (.ref 89), none, none, none, none]) (ll := []) rfl rfl rfl ?_
  refine G_S (pc := 0) f_5_0 rfl rfl rfl ?_
  refine G_gIv (pc := 1) f_5_1 (by decide) rfl (by decide) (by first | assumption | exact hK.1 _ _ rfl) (by first | assumption | exact mI_s | ((refine mI_o (by first | decide | omega) ?_); (repeat (refine mI_o (by first | decide | omega) ?_)); first | exact mI_s | assumption) | rfl) ?_
  refine G_ic (v := nI 2) (pc := 4) f_5_4 (by decide) ?_
  first | refine G_subN (pc := 5) f_5_5 (by omega) ?_ | refine G_subZ (pc := 5) f_5_5 (by first | rfl | exact nI_zI _) (by first | rfl | exact nI_zI _) ?_ | refine G_S (pc := 5) f_5_5 rfl rfl rfl ?_
  refine G_S (pc := 6) f_5_6 rfl rfl rfl ?_
  exact e
end NXX0
section NXX12
variable {C : Ct} {M : Mm} {m : Nat} {a : Nat → Nat}
theorem n_swap {i j : Nat} (hK : KM M.1 M.2.2.2) (hq : ∀ r, r < m → M.2.1 115 r = nI (a r)) (hm : m ≤ 6) (hi : i < m) (hj : j < m) : CG C 269 [.ref 98, .int (nI i), .int (nI j)] M (fun w M' => w = none ∧ Fo [115] M M' ∧ ∀ r, r < m → M'.2.1 115 r = nI (swF a i j r)) := by
  have q1 := hq i hi
  have q2 := hq j hj
  refine CG_in (mL := 4) (hl := false) (lv := [some (.ref 98), some (.int (nI i)), some (.int (nI j)), none]) (ll := []) rfl rfl rfl ?_
  refine G_S (pc := 0) f_269_0 rfl rfl rfl ?_
  refine G_gR (pc := 1) f_269_1 (by decide) rfl (by first | assumption | exact hK.1 _ _ rfl) (by first | assumption | exact hK.2 _ _ _ rfl | (try dsimp only) <;> (repeat (first | exact up2_s | refine up2_o (by first | decide | omega) ?_)) <;> first | assumption | exact hK.2 _ _ _ rfl) ?_
  refine G_S (pc := 4) f_269_4 rfl rfl rfl ?_
  refine G_iaN (pc := 5) f_269_5 (by first | assumption | exact hK.1 _ _ rfl) (by omega) (by omega) (by first | exact q1 | rfl) ?_
  refine G_S (pc := 6) f_269_6 rfl rfl rfl ?_
  refine G_S (pc := 7) f_269_7 rfl rfl rfl ?_
  refine G_gR (pc := 8) f_269_8 (by decide) rfl (by first | assumption | exact hK.1 _ _ rfl) (by first | assumption | exact hK.2 _ _ _ rfl | (try dsimp only) <;> (repeat (first | exact up2_s | refine up2_o (by first | decide | omega) ?_)) <;> first | assumption | exact hK.2 _ _ _ rfl) ?_
  refine G_S (pc := 11) f_269_11 rfl rfl rfl ?_
  refine G_S (pc := 12) f_269_12 rfl rfl rfl ?_
  refine G_gR (pc := 13) f_269_13 (by decide) rfl (by first | assumption | exact hK.1 _ _ rfl) (by first | assumption | exact hK.2 _ _ _ rfl | (try dsimp only) <;> (repeat (first | exact up2_s | refine up2_o (by first | decide | omega) ?_)) <;> first | assumption | exact hK.2 _ _ _ rfl) ?_
  refine G_S (pc := 16) f_269_16 rfl rfl rfl ?_
  refine G_iaN (pc := 17) f_269_17 (by first | assumption | exact hK.1 _ _ rfl) (by omega) (by omega) (by first | exact q2 | rfl) ?_
  refine G_isN (pc := 18) f_269_18 (by first | assumption | exact hK.1 _ _ rfl) (by omega) (by omega) ?_
  refine G_S (pc := 19) f_269_19 rfl rfl rfl ?_
  refine G_gR (pc := 20) f_269_20 (by decide) rfl (by first | assumption | exact hK.1 _ _ rfl) (by first | assumption | exact hK.2 _ _ _ rfl | (try dsimp only) <;> (repeat (first | exact up2_s | refine up2_o (by first | decide | omega) ?_)) <;> first | assumption | exact hK.2 _ _ _ rfl) ?_
  refine G_S (pc := 23) f_269_23 rfl rfl rfl ?_
  refine G_S (pc := 24) f_269_24 rfl rfl rfl ?_
  refine G_isN (pc := 25) f_269_25 (by first | assumption | exact hK.1 _ _ rfl) (by omega) (by omega) ?_
  refine G_rv (pc := 26) f_269_26 ?_
  refine ⟨rfl, (Fo.up (i := 115) (k := i) (x := nI (a j)) (by decide)).tr (Fo.up (i := 115) (k := j) (x := nI (a i)) (by decide)), fun r hr => ?_⟩
  unfold swF
  by_cases e1 : r = j
  · subst e1
    rw [up1_s]
    exact (by (try dsimp only); exact up2_s)
  · rw [up1_o e1 rfl]
    by_cases e2 : r = i
    · subst e2
      rw [up1_s]
      exact (by (try dsimp only); exact up2_o (by omega) (by (try dsimp only); exact up2_s))
    · rw [up1_o e2 rfl]
      exact (by (try dsimp only); exact up2_o (by omega) (by (try dsimp only); exact up2_o (by omega) (hq r hr)))
theorem n_rev {t w : Nat} : ∀ f lo hi a M, KM M.1 M.2.2.2 → M.2.1 98 39 = nI m → m ≤ 6 → hi < m → hi ≤ lo + 2 * f → lo ≤ m → (∀ r, r < m → M.2.1 115 r = nI (a r)) → G C 268 (86, [some (.ref 98), some (.int (nI t)), some (.int (nI w)), some (.int (nI lo)), some (.int (nI hi))], [], [], M) (fun v M' => v = some (.int (nI 1)) ∧ Fo [115] M M' ∧ ∀ r, r < m → M'.2.1 115 r = nI (rvF f a lo hi r)) := by
  intro f
  induction f with
  | zero =>
    intro lo hi a M hK hs hm hh hf hl hq
    refine G_S (pc := 86) f_268_86 rfl rfl rfl ?_
    refine G_S (pc := 87) f_268_87 rfl rfl rfl ?_
    refine G_jgeZ (pc := 89) f_268_89 rfl (by first | exact nI_toInt (by omega) | exact zI_toInt (by omega) (by omega) | rfl) (by first | exact nI_toInt (by omega) | exact zI_toInt (by omega) (by omega) | rfl) (fun b5 => ?_) (fun b5 => ?_)
    · refine G_ic (v := nI 1) (pc := 108) f_268_108 (by decide) ?_
      refine G_rz (pc := 109) f_268_109 (by first | exact Or.inl rfl | exact Or.inr rfl | exact b2i_01 _ | assumption) ?_
      exact ⟨rfl, Fo.rf, hq⟩
    · exfalso; omega
  | succ f ih =>
    intro lo hi a M hK hs hm hh hf hl hq
    refine G_S (pc := 86) f_268_86 rfl rfl rfl ?_
    refine G_S (pc := 87) f_268_87 rfl rfl rfl ?_
    refine G_jgeZ (pc := 89) f_268_89 rfl (by first | exact nI_toInt (by omega) | exact zI_toInt (by omega) (by omega) | rfl) (by first | exact nI_toInt (by omega) | exact zI_toInt (by omega) (by omega) | rfl) (fun b5 => ?_) (fun b5 => ?_)
    · refine G_ic (v := nI 1) (pc := 108) f_268_108 (by decide) ?_
      refine G_rz (pc := 109) f_268_109 (by first | exact Or.inl rfl | exact Or.inr rfl | exact b2i_01 _ | assumption) ?_
      rw [rvF, if_neg (by omega)]
      exact ⟨rfl, Fo.rf, hq⟩
    · refine G_S (pc := 92) f_268_92 rfl rfl rfl ?_
      refine G_S (pc := 93) f_268_93 rfl rfl rfl ?_
      refine G_S (pc := 94) f_268_94 rfl rfl rfl ?_
      refine G_CV (pc := 96) f_268_96 rfl rfl (by decide) rfl rfl (by first | assumption | exact hK.1 _ _ rfl) (by decide) ⟨Nat.le_of_ble_eq_true rfl, Nat.le_of_ble_eq_true rfl⟩ ?_
      refine CG.mono (n_swap hK hq hm (by omega) (by omega)) ?_
      rintro _ M2 ⟨rfl, hF, hq2⟩
      first | refine G_inc1 (pc := 99) f_268_99 rfl ?_ | refine G_S (pc := 99) f_268_99 rfl rfl rfl ?_
      first | refine G_dec1 (pc := 102) f_268_102 rfl (by omega) ?_ | refine G_incZ (pc := 102) f_268_102 rfl (by first | rfl | exact nI_zI _) ?_
      refine G_S (pc := 105) f_268_105 rfl rfl rfl ?_
      refine G.mono (ih (lo + 1) (hi - 1) _ M2 (hF.K hK) (by rw [(hF.2 98 (by decide)).1]; exact hs) hm (by omega) (by omega) (by omega) hq2) ?_
      rintro v M9 ⟨g1, g2, g3⟩
      rw [rvF, if_pos (by omega)]
      exact ⟨g1, hF.tr g2, g3⟩
theorem n_with {t : Nat} (hK : KM M.1 M.2.2.2) (hs : M.2.1 98 39 = nI m) (hm : m ≤ 6) (hq : ∀ r, r < m → M.2.1 115 r = nI (a r)) (ha : ∀ r, r < m → a r < 8) (ht : t + 1 < m) (h1 : a t ≤ a (t + 1)) : ∀ w, t + 1 ≤ w → w < m → nxW a t w = nxW a t (m - 1) → G C 268 (47, [some (.ref 98), some (.int (nI t)), some (.int (nI w)), none, none], [], [], M) (fun v M' => v = some (.int (nI 1)) ∧ Fo [115] M M' ∧ ∀ r, r < m → M'.2.1 115 r = nI (rvF 8 (swF a t (nxW a t (m - 1))) (t + 1) (m - 1) r)) := by
  intro w
  induction w with
  | zero =>
    intro hw
    omega
  | succ w ih =>
    intro hw hwm hn
    have qt := hq t (by omega)
    have qw := hq (w + 1) hwm
    have at8 := ha t (by omega)
    have aw8 := ha (w + 1) hwm
    refine G_S (pc := 47) f_268_47 rfl rfl rfl ?_
    refine G_gR (pc := 48) f_268_48 (by decide) rfl (by first | assumption | exact hK.1 _ _ rfl) (by first | assumption | exact hK.2 _ _ _ rfl | (try dsimp only) <;> (repeat (first | exact up2_s | refine up2_o (by first | decide | omega) ?_)) <;> first | assumption | exact hK.2 _ _ _ rfl) ?_
    refine G_S (pc := 51) f_268_51 rfl rfl rfl ?_
    refine G_iaN (pc := 52) f_268_52 (by first | assumption | exact hK.1 _ _ rfl) (by omega) (by omega) (by first | exact qw | rfl) ?_
    refine G_S (pc := 53) f_268_53 rfl rfl rfl ?_
    refine G_gR (pc := 54) f_268_54 (by decide) rfl (by first | assumption | exact hK.1 _ _ rfl) (by first | assumption | exact hK.2 _ _ _ rfl | (try dsimp only) <;> (repeat (first | exact up2_s | refine up2_o (by first | decide | omega) ?_)) <;> first | assumption | exact hK.2 _ _ _ rfl) ?_
    refine G_S (pc := 57) f_268_57 rfl rfl rfl ?_
    refine G_iaN (pc := 58) f_268_58 (by first | assumption | exact hK.1 _ _ rfl) (by omega) (by omega) (by first | exact qt | rfl) ?_
    refine G_jgeZ (pc := 59) f_268_59 rfl (by first | exact nI_toInt (by omega) | exact zI_toInt (by omega) (by omega) | rfl) (by first | exact nI_toInt (by omega) | exact zI_toInt (by omega) (by omega) | rfl) (fun b4 => ?_) (fun b4 => ?_)
    · refine G_S (pc := 68) f_268_68 rfl rfl rfl ?_
      refine G_S (pc := 69) f_268_69 rfl rfl rfl ?_
      refine G_S (pc := 70) f_268_70 rfl rfl rfl ?_
      refine G_CV (pc := 71) f_268_71 rfl rfl (by decide) rfl rfl (by first | assumption | exact hK.1 _ _ rfl) (by decide) ⟨Nat.le_of_ble_eq_true rfl, Nat.le_of_ble_eq_true rfl⟩ ?_
      refine CG.mono (n_swap hK hq hm (by omega) hwm) ?_
      rintro _ M2 ⟨rfl, hF, hq2⟩
      have hK2 := hF.K hK
      have hK := hK2
      have hs2 : M2.2.1 98 39 = nI m := by rw [(hF.2 98 (by decide)).1]; exact hs
      refine G_S (pc := 74) f_268_74 rfl rfl rfl ?_
      refine G_ic (v := nI 1) (pc := 75) f_268_75 (by decide) ?_
      first | refine G_addN (pc := 76) f_268_76 ?_ | refine G_addZ (pc := 76) f_268_76 (by first | rfl | exact nI_zI _) (by first | rfl | exact nI_zI _) ?_ | refine G_S (pc := 76) f_268_76 rfl rfl rfl ?_
      refine G_S (pc := 77) f_268_77 rfl rfl rfl ?_
      refine G_S (pc := 78) f_268_78 rfl rfl rfl ?_
      refine G_gIv (pc := 79) f_268_79 (by decide) rfl (by decide) (by first | assumption | exact hK.1 _ _ rfl) (by first | assumption | exact mI_s | ((refine mI_o (by first | decide | omega) ?_); (repeat (refine mI_o (by first | decide | omega) ?_)); first | exact mI_s | assumption) | rfl) ?_
      refine G_ic (v := nI 1) (pc := 82) f_268_82 (by decide) ?_
      first | refine G_subN (pc := 83) f_268_83 (by omega) ?_ | refine G_subZ (pc := 83) f_268_83 (by first | rfl | exact nI_zI _) (by first | rfl | exact nI_zI _) ?_ | refine G_S (pc := 83) f_268_83 rfl rfl rfl ?_
      refine G_S (pc := 84) f_268_84 rfl rfl rfl ?_
      have e : nxW a t (m - 1) = w + 1 := by
        rw [← hn, nxW, if_neg (by omega)]
      rw [e]
      refine G.mono (n_rev 8 (t + 1) (m - 1) _ M2 hK2 hs2 hm (by omega) (by omega) (by omega) hq2) ?_
      rintro v M9 ⟨g1, g2, g3⟩
      exact ⟨g1, hF.tr g2, g3⟩
    · first | refine G_dec1 (pc := 62) f_268_62 rfl (by omega) ?_ | refine G_incZ (pc := 62) f_268_62 rfl (by first | rfl | exact nI_zI _) ?_
      refine G_S (pc := 65) f_268_65 rfl rfl rfl ?_
      have hne : t ≠ w := fun q => by subst q; omega
      refine ih (by omega) (by omega) ?_
      rw [← hn, nxW, if_pos (by omega)]
theorem n_next (hK : KM M.1 M.2.2.2) (hs : M.2.1 98 39 = nI m) (hm : 1 ≤ m ∧ m ≤ 6) (hq : ∀ r, r < m → M.2.1 115 r = nI (a r)) (ha : ∀ r, r < m → a r < 8) : CG C 268 [.ref 98] M (fun v M' => v = some (.int (b2i ((nxF m a).isSome = true))) ∧ Fo [115] M M' ∧ ∀ a', nxF m a = some a' → ∀ r, r < m → M'.2.1 115 r = nI (a' r)) := by
  have loop : ∀ k, k ≤ m - 1 → nxT a k = nxT a (m - 1) → G C 268 (7, [some (.ref 98), some (.int ((zI ((k : Int) - 1)))), none, none, none], [], [], M) (fun v M' => v = some (.int (b2i ((nxF m a).isSome = true))) ∧ Fo [115] M M' ∧ ∀ a', nxF m a = some a' → ∀ r, r < m → M'.2.1 115 r = nI (a' r)) := by
    intro k
    induction k with
    | zero =>
      intro hk hn
      have e : nxF m a = none := by
        unfold nxF
        rw [← hn]
        rfl
      rw [e]
      refine G_S (pc := 7) f_268_7 rfl rfl rfl ?_
      refine G_zltZ (pc := 8) f_268_8 rfl (by first | exact nI_toInt (by omega) | exact zI_toInt (by omega) (by omega) | rfl) (fun b1 => ?_) (fun b1 => ?_)
      · refine G_S (pc := 34) f_268_34 rfl rfl rfl ?_
        refine G_zgeZ (pc := 35) f_268_35 rfl (by first | exact nI_toInt (by omega) | exact zI_toInt (by omega) (by omega) | rfl) (fun b3 => ?_) (fun b3 => ?_)
        · exfalso; omega
        · refine G_ic (v := nI 0) (pc := 38) f_268_38 (by decide) ?_
          refine G_rz (pc := 39) f_268_39 (by first | exact Or.inl rfl | exact Or.inr rfl | exact b2i_01 _ | assumption) ?_
          exact ⟨rfl, Fo.rf, fun a' h => by cases h⟩
      · exfalso; omega
    | succ k ih =>
      intro hk hn
      have ei : zI (((k + 1 : Nat) : Int) - 1) = nI k := by
        rw [nI_zI]
        congr 1
        omega
      rw [ei]
      have qk := hq k (by omega)
      have qk1 := hq (k + 1) (by omega)
      have a1 := ha k (by omega)
      have a2 := ha (k + 1) (by omega)
      refine G_S (pc := 7) f_268_7 rfl rfl rfl ?_
      refine G_zltZ (pc := 8) f_268_8 rfl (by first | exact nI_toInt (by omega) | exact zI_toInt (by omega) (by omega) | rfl) (fun b1 => ?_) (fun b1 => ?_)
      · exfalso; omega
      · refine G_S (pc := 11) f_268_11 rfl rfl rfl ?_
        refine G_gR (pc := 12) f_268_12 (by decide) rfl (by first | assumption | exact hK.1 _ _ rfl) (by first | assumption | exact hK.2 _ _ _ rfl | (try dsimp only) <;> (repeat (first | exact up2_s | refine up2_o (by first | decide | omega) ?_)) <;> first | assumption | exact hK.2 _ _ _ rfl) ?_
        refine G_S (pc := 15) f_268_15 rfl rfl rfl ?_
        refine G_iaN (pc := 16) f_268_16 (by first | assumption | exact hK.1 _ _ rfl) (by omega) (by omega) (by first | exact qk | rfl) ?_
        refine G_S (pc := 17) f_268_17 rfl rfl rfl ?_
        refine G_gR (pc := 18) f_268_18 (by decide) rfl (by first | assumption | exact hK.1 _ _ rfl) (by first | assumption | exact hK.2 _ _ _ rfl | (try dsimp only) <;> (repeat (first | exact up2_s | refine up2_o (by first | decide | omega) ?_)) <;> first | assumption | exact hK.2 _ _ _ rfl) ?_
        refine G_S (pc := 21) f_268_21 rfl rfl rfl ?_
        refine G_ic (v := nI 1) (pc := 22) f_268_22 (by decide) ?_
        first | refine G_addN (pc := 23) f_268_23 ?_ | refine G_addZ (pc := 23) f_268_23 (by first | rfl | exact nI_zI _) (by first | rfl | exact nI_zI _) ?_ | refine G_S (pc := 23) f_268_23 rfl rfl rfl ?_
        refine G_iaN (pc := 24) f_268_24 (by first | assumption | exact hK.1 _ _ rfl) (by omega) (by omega) (by first | exact qk1 | rfl) ?_
        refine G_jleZ (pc := 25) f_268_25 rfl (by first | exact nI_toInt (by omega) | exact zI_toInt (by omega) (by omega) | rfl) (by first | exact nI_toInt (by omega) | exact zI_toInt (by omega) (by omega) | rfl) (fun b2 => ?_) (fun b2 => ?_)
        · refine G_S (pc := 34) f_268_34 rfl rfl rfl ?_
          refine G_zgeZ (pc := 35) f_268_35 rfl (by first | exact nI_toInt (by omega) | exact zI_toInt (by omega) (by omega) | rfl) (fun b3 => ?_) (fun b3 => ?_)
          · refine G_S (pc := 40) f_268_40 rfl rfl rfl ?_
            refine G_gIv (pc := 41) f_268_41 (by decide) rfl (by decide) (by first | assumption | exact hK.1 _ _ rfl) (by first | assumption | exact mI_s | ((refine mI_o (by first | decide | omega) ?_); (repeat (refine mI_o (by first | decide | omega) ?_)); first | exact mI_s | assumption) | rfl) ?_
            refine G_ic (v := nI 1) (pc := 44) f_268_44 (by decide) ?_
            first | refine G_subN (pc := 45) f_268_45 (by omega) ?_ | refine G_subZ (pc := 45) f_268_45 (by first | rfl | exact nI_zI _) (by first | rfl | exact nI_zI _) ?_ | refine G_S (pc := 45) f_268_45 rfl rfl rfl ?_
            refine G_S (pc := 46) f_268_46 rfl rfl rfl ?_
            have en : nxT a (m - 1) = some k := by rw [← hn, nxT, if_neg (by omega)]
            have e : nxF m a = some (rvF 8 (swF a k (nxW a k (m - 1))) (k + 1) (m - 1)) := by
              unfold nxF
              rw [en]
            rw [e]
            refine G.mono (n_with hK hs hm.2 hq ha (by omega) (by omega) (m - 1) (by omega) (by omega) rfl) ?_
            rintro v M9 ⟨rfl, g2, g3⟩
            refine ⟨rfl, g2, fun a' h => ?_⟩
            cases h
            exact g3
          · exfalso; omega
        · first | refine G_dec1 (pc := 28) f_268_28 rfl (by omega) ?_ | refine G_incZ (pc := 28) f_268_28 rfl (by first | rfl | exact nI_zI _) ?_
          refine G_S (pc := 31) f_268_31 rfl rfl rfl ?_
          have e := ih (by omega) (by rw [← hn, nxT, if_pos (by omega)])
          exact e
  have e0 : zI ((m : Int) - ((2 : Nat) : Int)) = zI (((m - 1 : Nat) : Int) - 1) := by
    congr 1
    omega
  have e := loop (m - 1) (Nat.le_refl _) rfl
  rw [← e0] at e
  refine CG_in (mL := 5) (hl := false) (lv := [some (.ref 98), none, none, none, none]) (ll := []) rfl rfl rfl ?_
  refine G_S (pc := 0) f_268_0 rfl rfl rfl ?_
  refine G_gIv (pc := 1) f_268_1 (by decide) rfl (by decide) (by first | assumption | exact hK.1 _ _ rfl) (by first | assumption | exact mI_s | ((refine mI_o (by first | decide | omega) ?_); (repeat (refine mI_o (by first | decide | omega) ?_)); first | exact mI_s | assumption) | rfl) ?_
  refine G_ic (v := nI 2) (pc := 4) f_268_4 (by decide) ?_
  first | refine G_subN (pc := 5) f_268_5 (by omega) ?_ | refine G_subZ (pc := 5) f_268_5 (by first | rfl | exact nI_zI _) (by first | rfl | exact nI_zI _) ?_ | refine G_S (pc := 5) f_268_5 rfl rfl rfl ?_
  refine G_S (pc := 6) f_268_6 rfl rfl rfl ?_
  exact e
end NXX12
