/-! the program: end, fault, count, takesText -/
section CEN
variable {C : Ct} {M : Mm} {s : Sg} {x y : Int32}
/-- the head of a Told changes -/
theorem CB.hd {t : Nat → Int} {m : Nat} {f : Nat × Nat} {X : Nat → Nat → Int32} (h : CB M 1 s) (hs : SgOK s) (e : ∀ i, i ≠ 1 → X i = M.2.1 i) (e1 : X 1 1 = nI m) (e2 : X 1 2 = nI f.1) (e3 : X 1 3 = plI f) (ht : ∀ i, i < m → M.2.1 2 i = zI (t i)) : CB (M.1, X, M.2.2.1, M.2.2.2) 1 (t, m, f, s.2.2.2) := by
  have hs5 := hs.2.2.2.2
  have q : ∀ l, l < 2 → OQ M (M.1, X, M.2.2.1, M.2.2.2) (1 + 7 + 22 * l) (1 + 7 + 22 * l) := fun l hl => OQ.self (fun j hj => e _ (by omega))
  obtain ⟨⟨h1, h2, h3⟩, _, hc, ⟨hL, hP, hF, hZ⟩, hj⟩ := h
  refine ⟨⟨e1, e2, e3⟩, fun i hi => ?_, fun so hso => (by rw [show (M.1, X, M.2.2.1, M.2.2.2).2.1 (1 + 2) = M.2.1 (1 + 2) from e _ (by decide)]; exact hc so hso), ⟨fun l hl => ?_, fun l hl => ?_, fun l hl => ?_, fun l hl => ?_⟩, fun l hl => ?_⟩
  · show X 2 i = zI (t i)
    rw [e 2 (by decide)]
    exact ht i hi
  · exact (hL l hl).eq (q l (by have := hs5 0; exact Nat.lt_of_lt_of_le hl this)).1
  · exact (hP l hl).eq (q l (by have := hs5 1; exact Nat.lt_of_lt_of_le hl this)).2.1
  · exact (hF l hl).eq (q l (by have := hs5 2; exact Nat.lt_of_lt_of_le hl this)).2.2.1
  · exact (hZ l hl).eq (q l (by have := hs5 3; exact Nat.lt_of_lt_of_le hl this)).2.2.2
  · rw [(q l hl).2.2.2.1.2.2.1]
    exact hj l hl
theorem c_endN (hK : KM M.1 M.2.2.2) (h : CB M 1 s) (hs : SgOK s) (hx : ¬ (0 ≤ x.toInt ∧ x.toInt ≤ (s.len : Int))) : CG C 146 [.ref 0, .int x] M (fun w M' => w = some (.int (zI (-1))) ∧ M' = M) := by
  have h1 := h.1.1
  have hs1 := hs.1
  refine CG_in (mL := 2) (hl := false) (lv := [some (.ref 0), some (.int x)]) (ll := []) rfl rfl rfl ?_
  refine G_S (pc := 0) f_146_0 rfl rfl rfl ?_
  refine G_zltZ (pc := 1) f_146_1 rfl (by first | exact nI_toInt (by omega) | exact zI_toInt (by omega) (by omega) | rfl) (fun b1 => ?_) (fun b1 => ?_)
  · refine G_ic (v := zI (-1)) (pc := 15) f_146_15 (by decide) ?_
    refine G_ri (pc := 16) f_146_16 ?_
    first
      | exact ⟨rfl, rfl⟩
      | (exfalso; omega)
  · refine G_S (pc := 4) f_146_4 rfl rfl rfl ?_
    refine G_S (pc := 5) f_146_5 rfl rfl rfl ?_
    refine G_gR (pc := 6) f_146_6 (by decide) rfl (by first | assumption | exact hK.1 _ _ rfl) (by first | assumption | exact hK.2 _ _ _ rfl | (try dsimp only) <;> (repeat (first | exact up2_s | refine up2_o (by first | decide | omega) ?_)) <;> first | assumption | exact hK.2 _ _ _ rfl) ?_
    refine G_gIv (pc := 9) f_146_9 (by decide) rfl (by decide) (by first | assumption | exact hK.1 _ _ rfl) (h1) ?_
    refine G_jleZ (pc := 12) f_146_12 rfl (by first | exact nI_toInt (by omega) | exact zI_toInt (by omega) (by omega) | rfl) (by first | exact nI_toInt (by omega) | exact zI_toInt (by omega) (by omega) | rfl) (fun b2 => ?_) (fun b2 => ?_)
    · refine G_S (pc := 17) f_146_17 rfl rfl rfl ?_
      refine G_gR (pc := 18) f_146_18 (by decide) rfl (by first | assumption | exact hK.1 _ _ rfl) (by first | assumption | exact hK.2 _ _ _ rfl | (try dsimp only) <;> (repeat (first | exact up2_s | refine up2_o (by first | decide | omega) ?_)) <;> first | assumption | exact hK.2 _ _ _ rfl) ?_
      refine G_S (pc := 21) f_146_21 rfl rfl rfl ?_
      refine G_pI (pc := 22) f_146_22 rfl (by first | assumption | exact hK.1 _ _ rfl) ?_
      refine G_S (pc := 25) f_146_25 rfl rfl rfl ?_
      refine G_ri (pc := 26) f_146_26 ?_
      first
        | exact ⟨rfl, rfl⟩
        | (exfalso; omega)
    · refine G_ic (v := zI (-1)) (pc := 15) f_146_15 (by decide) ?_
      refine G_ri (pc := 16) f_146_16 ?_
      first
        | exact ⟨rfl, rfl⟩
        | (exfalso; omega)
theorem c_endY {m : Nat} (hK : KM M.1 M.2.2.2) (h : CB M 1 s) (hs : SgOK s) (hm : m ≤ s.len) : CG C 146 [.ref 0, .int (nI m)] M (fun w M' => w = some (.int (nI m)) ∧ Fo [1, 2] M M' ∧ CB M' 1 (enF s m)) := by
  have h1 := h.1.1
  have hs1 := hs.1
  refine CG_in (mL := 2) (hl := false) (lv := [some (.ref 0), some (.int (nI m))]) (ll := []) rfl rfl rfl ?_
  refine G_S (pc := 0) f_146_0 rfl rfl rfl ?_
  refine G_zltZ (pc := 1) f_146_1 rfl (by first | exact nI_toInt (by omega) | exact zI_toInt (by omega) (by omega) | rfl) (fun b1 => ?_) (fun b1 => ?_)
  · exfalso; omega
  · refine G_S (pc := 4) f_146_4 rfl rfl rfl ?_
    refine G_S (pc := 5) f_146_5 rfl rfl rfl ?_
    refine G_gR (pc := 6) f_146_6 (by decide) rfl (by first | assumption | exact hK.1 _ _ rfl) (by first | assumption | exact hK.2 _ _ _ rfl | (try dsimp only) <;> (repeat (first | exact up2_s | refine up2_o (by first | decide | omega) ?_)) <;> first | assumption | exact hK.2 _ _ _ rfl) ?_
    refine G_gIv (pc := 9) f_146_9 (by decide) rfl (by decide) (by first | assumption | exact hK.1 _ _ rfl) (h1) ?_
    refine G_jleZ (pc := 12) f_146_12 rfl (by first | exact nI_toInt (by omega) | exact zI_toInt (by omega) (by omega) | rfl) (by first | exact nI_toInt (by omega) | exact zI_toInt (by omega) (by omega) | rfl) (fun b2 => ?_) (fun b2 => ?_)
    · refine G_S (pc := 17) f_146_17 rfl rfl rfl ?_
      refine G_gR (pc := 18) f_146_18 (by decide) rfl (by first | assumption | exact hK.1 _ _ rfl) (by first | assumption | exact hK.2 _ _ _ rfl | (try dsimp only) <;> (repeat (first | exact up2_s | refine up2_o (by first | decide | omega) ?_)) <;> first | assumption | exact hK.2 _ _ _ rfl) ?_
      refine G_S (pc := 21) f_146_21 rfl rfl rfl ?_
      refine G_pI (pc := 22) f_146_22 rfl (by first | assumption | exact hK.1 _ _ rfl) ?_
      refine G_S (pc := 25) f_146_25 rfl rfl rfl ?_
      refine G_ri (pc := 26) f_146_26 ?_
      refine ⟨rfl, Fo.up (by decide), h.hd hs (fun i hi => up2_ne hi) (by (try dsimp only); exact up2_s) (by (try dsimp only); exact up2_o (by omega) h.1.2.1) (by (try dsimp only); exact up2_o (by omega) h.1.2.2) (fun i hi => h.2.1 i (by omega))⟩
    · exfalso; omega
theorem c_fault (hK : KM M.1 M.2.2.2) (h : CB M 1 s) : CG C 148 [.ref 0, .int x] M (fun w M' => w = some (.int (aFlt s x)) ∧ M' = M) := by
  have h2 := h.1.2.1
  have h3 := h.1.2.2
  unfold aFlt
  refine CG_in (mL := 2) (hl := false) (lv := [some (.ref 0), some (.int x)]) (ll := []) rfl rfl rfl ?_
  refine G_S (pc := 0) f_148_0 rfl rfl rfl ?_
  rcases sw2 x with rfl | rfl | hw
  · refine G_S (pc := 1) f_148_1 rfl rfl rfl ?_
    refine G_S (pc := 28) f_148_28 rfl rfl rfl ?_
    refine G_gR (pc := 29) f_148_29 (by decide) rfl (by first | assumption | exact hK.1 _ _ rfl) (by first | assumption | exact hK.2 _ _ _ rfl | (try dsimp only) <;> (repeat (first | exact up2_s | refine up2_o (by first | decide | omega) ?_)) <;> first | assumption | exact hK.2 _ _ _ rfl) ?_
    refine G_gIv (pc := 32) f_148_32 (by decide) rfl (by decide) (by first | assumption | exact hK.1 _ _ rfl) (h2) ?_
    refine G_ri (pc := 35) f_148_35 ?_
    first
      | exact ⟨rfl, rfl⟩
      | exact ⟨by rw [if_neg (by omega), if_neg (by omega)], rfl⟩
  · refine G_S (pc := 1) f_148_1 rfl rfl rfl ?_
    refine G_S (pc := 36) f_148_36 rfl rfl rfl ?_
    refine G_gR (pc := 37) f_148_37 (by decide) rfl (by first | assumption | exact hK.1 _ _ rfl) (by first | assumption | exact hK.2 _ _ _ rfl | (try dsimp only) <;> (repeat (first | exact up2_s | refine up2_o (by first | decide | omega) ?_)) <;> first | assumption | exact hK.2 _ _ _ rfl) ?_
    refine G_gIv (pc := 40) f_148_40 (by decide) rfl (by decide) (by first | assumption | exact hK.1 _ _ rfl) (h3) ?_
    refine G_ri (pc := 43) f_148_43 ?_
    first
      | exact ⟨rfl, rfl⟩
      | exact ⟨by rw [if_neg (by omega), if_neg (by omega)], rfl⟩
  · refine G_lsO (pc := 1) f_148_1 rfl (hw) ?_
    refine G_ic (v := zI (-1)) (pc := 44) f_148_44 (by decide) ?_
    refine G_ri (pc := 45) f_148_45 ?_
    first
      | exact ⟨rfl, rfl⟩
      | exact ⟨by rw [if_neg (by omega), if_neg (by omega)], rfl⟩
theorem c_count (hK : KM M.1 M.2.2.2) (h : CB M 1 s) : CG C 149 [.ref 0, .int x] M (fun w M' => w = some (.int (aCnt s x)) ∧ M' = M) := by
  unfold aCnt
  by_cases x0 : 0 ≤ x.toInt ∧ x.toInt ≤ 3
  · rw [if_pos x0]
    obtain ⟨n, rfl, e, -⟩ := nI_tt x0.1
    rw [e, Int.toNat_natCast]
    have hn : n ≤ 3 := by omega
    have hc := h.2.2.1 n (by omega)
    refine CG_in (mL := 2) (hl := false) (lv := [some (.ref 0), some (.int (nI n))]) (ll := []) rfl rfl rfl ?_
    refine G_S (pc := 0) f_149_0 rfl rfl rfl ?_
    refine G_zltZ (pc := 1) f_149_1 rfl (by first | exact nI_toInt (by omega) | exact zI_toInt (by omega) (by omega) | rfl) (fun b1 => ?_) (fun b1 => ?_)
    · refine G_bi (v := zI (-2)) (pc := 21) f_149_21 (by decide) ?_
      refine G_ri (pc := 23) f_149_23 ?_
      first
        | exact ⟨rfl, rfl⟩
        | (exfalso; omega)
    · refine G_S (pc := 4) f_149_4 rfl rfl rfl ?_
      refine G_ic (v := nI 4) (pc := 5) f_149_5 (by decide) ?_
      refine G_jgeZ (pc := 6) f_149_6 rfl (by first | exact nI_toInt (by omega) | exact zI_toInt (by omega) (by omega) | rfl) (by first | exact nI_toInt (by omega) | exact zI_toInt (by omega) (by omega) | rfl) (fun b2 => ?_) (fun b2 => ?_)
      · refine G_bi (v := zI (-2)) (pc := 21) f_149_21 (by decide) ?_
        refine G_ri (pc := 23) f_149_23 ?_
        first
          | exact ⟨rfl, rfl⟩
          | (exfalso; omega)
      · refine G_S (pc := 9) f_149_9 rfl rfl rfl ?_
        refine G_gR (pc := 10) f_149_10 (by decide) rfl (by first | assumption | exact hK.1 _ _ rfl) (by first | assumption | exact hK.2 _ _ _ rfl | (try dsimp only) <;> (repeat (first | exact up2_s | refine up2_o (by first | decide | omega) ?_)) <;> first | assumption | exact hK.2 _ _ _ rfl) ?_
        refine G_gR (pc := 13) f_149_13 (by decide) rfl (by first | assumption | exact hK.1 _ _ rfl) (by first | assumption | exact hK.2 _ _ _ rfl | (try dsimp only) <;> (repeat (first | exact up2_s | refine up2_o (by first | decide | omega) ?_)) <;> first | assumption | exact hK.2 _ _ _ rfl) ?_
        refine G_S (pc := 16) f_149_16 rfl rfl rfl ?_
        refine G_iaN (pc := 17) f_149_17 (by first | assumption | exact hK.1 _ _ rfl) (by omega) (by omega) (by first | exact hc | rfl) ?_
        refine G_S (pc := 18) f_149_18 rfl rfl rfl ?_
        refine G_ri (pc := 23) f_149_23 ?_
        first
          | exact ⟨rfl, rfl⟩
          | (exfalso; omega)
  · rw [if_neg x0]
    by_cases xn : x.toInt < 0
    · refine CG_in (mL := 2) (hl := false) (lv := [some (.ref 0), some (.int x)]) (ll := []) rfl rfl rfl ?_
      refine G_S (pc := 0) f_149_0 rfl rfl rfl ?_
      refine G_zltZ (pc := 1) f_149_1 rfl (by first | exact nI_toInt (by omega) | exact zI_toInt (by omega) (by omega) | rfl) (fun b1 => ?_) (fun b1 => ?_)
      · refine G_bi (v := zI (-2)) (pc := 21) f_149_21 (by decide) ?_
        refine G_ri (pc := 23) f_149_23 ?_
        exact ⟨rfl, rfl⟩
      · exfalso; omega
    · refine CG_in (mL := 2) (hl := false) (lv := [some (.ref 0), some (.int x)]) (ll := []) rfl rfl rfl ?_
      refine G_S (pc := 0) f_149_0 rfl rfl rfl ?_
      refine G_zltZ (pc := 1) f_149_1 rfl (by first | exact nI_toInt (by omega) | exact zI_toInt (by omega) (by omega) | rfl) (fun b1 => ?_) (fun b1 => ?_)
      · exfalso; omega
      · refine G_S (pc := 4) f_149_4 rfl rfl rfl ?_
        refine G_ic (v := nI 4) (pc := 5) f_149_5 (by decide) ?_
        refine G_jgeZ (pc := 6) f_149_6 rfl (by first | exact nI_toInt (by omega) | exact zI_toInt (by omega) (by omega) | rfl) (by first | exact nI_toInt (by omega) | exact zI_toInt (by omega) (by omega) | rfl) (fun b2 => ?_) (fun b2 => ?_)
        · refine G_bi (v := zI (-2)) (pc := 21) f_149_21 (by decide) ?_
          refine G_ri (pc := 23) f_149_23 ?_
          exact ⟨rfl, rfl⟩
        · exfalso; omega
end CEN
