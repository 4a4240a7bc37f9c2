/-! the class reads: notes, kinds, numbers -/
def plI (f : Nat × Nat) : Int32 := if f.1 = 0 then zI (-1) else nI f.2
def FRd (M : Mm) (f : Nat × Nat) : Prop := M.2.1 53 4 = nI f.1 ∧ M.2.1 53 5 = plI f ∧ f.1 ≤ 4
def KTk : List Nat := [8, 9, 10, 11, 12]
def NTk : List Nat := [4, 5, 8, 9, 10, 11]
theorem TCk.fp {M M' : Mm} {t : Nat → Int} {n p : Nat} {os fs : List Nat} (T : TCk M t n p) (h : Fp 53 os fs M M') (h8 : 8 ∉ fs) (h9 : 9 ∉ fs) (h10 : 10 ∉ fs) (h11 : 11 ∉ fs) : TCk M' t n p := by
  unfold TCk
  rw [h.2.2 8 h8, h.2.2 9 h9, h.2.2 10 h10, h.2.2 11 h11]
  exact T
theorem FRd.fp {M M' : Mm} {f : Nat × Nat} {os fs : List Nat} (T : FRd M f) (h : Fp 53 os fs M M') (h4 : 4 ∉ fs) (h5 : 5 ∉ fs) : FRd M' f := by
  unfold FRd
  rw [h.2.2 4 h4, h.2.2 5 h5]
  exact T
section CRD
variable {C : Ct} {M : Mm} {t : Nat → Int} {n p g : Nat} {f : Nat × Nat}
theorem c_note {k q : Nat} (hK : KM M.1 M.2.2.2) (hf : FRd M f) (hk : k ≤ 4) (h0 : k ≠ 0) : CG C 75 [.ref 53, .int (nI k), .int (nI q)] M (fun w M' => w = none ∧ Fp 53 [] [4, 5] M M' ∧ FRd M' (nt f true k q)) := by
  obtain ⟨h4, h5, hf4⟩ := hf
  refine CG_in (mL := 3) (hl := false) (lv := [some (.ref 53), some (.int (nI k)), some (.int (nI q))]) (ll := []) rfl rfl rfl ?_
  refine G_S (pc := 0) f_75_0 rfl rfl rfl ?_
  refine G_gIv (pc := 1) f_75_1 (by decide) rfl (by decide) (by first | assumption | exact hK.1 _ _ rfl) (by first | assumption | exact mI_s | ((refine mI_o (by first | decide | omega) ?_); (repeat (refine mI_o (by first | decide | omega) ?_)); first | exact mI_s | assumption) | rfl) ?_
  first | refine G_bNe (pc := 4) f_75_4 rfl (fun b1 => ?_) (fun b1 => ?_) | refine G_zneZ (pc := 4) f_75_4 rfl (by first | exact nI_toInt (by omega) | exact zI_toInt (by omega) (by omega) | rfl) (fun b1 => ?_) (fun b1 => ?_)
  · refine G_rv (pc := 17) f_75_17 ?_
    first
      | (have e : nt f true k q = f := if_neg (by omega)
         rw [e]
         exact ⟨rfl, Fp.rf, h4, h5, hf4⟩)
      | (have e : nt f true k q = (k, q) := if_pos ⟨by omega, rfl⟩
         have e2 : plI (k, q) = nI q := if_neg h0
         rw [e]
         refine ⟨rfl, (Fp.upf (k := 4) (x := nI k) (by decide)).tr (Fp.upf (k := 5) (x := nI q) (by decide)), (by (try dsimp only); exact up2_o (by omega) (by (try dsimp only); exact up2_s)), ?_, hk⟩
         rw [e2]
         exact (by (try dsimp only); exact up2_s))
  · refine G_S (pc := 7) f_75_7 rfl rfl rfl ?_
    refine G_S (pc := 8) f_75_8 rfl rfl rfl ?_
    refine G_pI (pc := 9) f_75_9 rfl (by first | assumption | exact hK.1 _ _ rfl) ?_
    refine G_S (pc := 12) f_75_12 rfl rfl rfl ?_
    refine G_S (pc := 13) f_75_13 rfl rfl rfl ?_
    refine G_pI (pc := 14) f_75_14 rfl (by first | assumption | exact hK.1 _ _ rfl) ?_
    refine G_rv (pc := 17) f_75_17 ?_
    first
      | (have e : nt f true k q = f := if_neg (by omega)
         rw [e]
         exact ⟨rfl, Fp.rf, h4, h5, hf4⟩)
      | (have e : nt f true k q = (k, q) := if_pos ⟨by omega, rfl⟩
         have e2 : plI (k, q) = nI q := if_neg h0
         rw [e]
         refine ⟨rfl, (Fp.upf (k := 4) (x := nI k) (by decide)).tr (Fp.upf (k := 5) (x := nI q) (by decide)), (by (try dsimp only); exact up2_o (by omega) (by (try dsimp only); exact up2_s)), ?_, hk⟩
         rw [e2]
         exact (by (try dsimp only); exact up2_s))
def fulZ (M : Mm) (g : Nat) : Bool := if g = 0 then decide (8 ≤ (M.2.1 54 1).toInt) else if g = 2 then decide (8 ≤ (M.2.1 54 5).toInt) else if 5 ≤ g ∧ g ≤ 12 then decide (40 ≤ (M.2.1 61 3).toInt) else if g = 16 ∨ g = 17 then decide (10 ≤ (M.2.1 70 1).toInt) else false
theorem c_isFull (hK : KM M.1 M.2.2.2) (hg : g < 18) : CG C 76 [.ref 53, .int (nI g)] M (fun w M' => w = some (.int (b2i (fulZ M g = true))) ∧ M' = M) := by
  refine CG_in (mL := 2) (hl := false) (lv := [some (.ref 53), some (.int (nI g))]) (ll := []) rfl rfl rfl ?_
  refine G_S (pc := 0) f_76_0 rfl rfl rfl ?_
  first | refine G_bNe (pc := 1) f_76_1 rfl (fun b1 => ?_) (fun b1 => ?_) | refine G_zneZ (pc := 1) f_76_1 rfl (by first | exact nI_toInt (by omega) | exact zI_toInt (by omega) (by omega) | rfl) (fun b1 => ?_) (fun b1 => ?_)
  · refine G_S (pc := 22) f_76_22 rfl rfl rfl ?_
    refine G_ic (v := nI 2) (pc := 23) f_76_23 (by decide) ?_
    refine G_jneZ (pc := 24) f_76_24 rfl (by first | exact nI_toInt (by omega) | exact zI_toInt (by omega) (by omega) | rfl) (by first | exact nI_toInt (by omega) | exact zI_toInt (by omega) (by omega) | rfl) (fun b3 => ?_) (fun b3 => ?_)
    · refine G_S (pc := 45) f_76_45 rfl rfl rfl ?_
      refine G_ic (v := nI 5) (pc := 46) f_76_46 (by decide) ?_
      refine G_jltZ (pc := 47) f_76_47 rfl (by first | exact nI_toInt (by omega) | exact zI_toInt (by omega) (by omega) | rfl) (by first | exact nI_toInt (by omega) | exact zI_toInt (by omega) (by omega) | rfl) (fun b5 => ?_) (fun b5 => ?_)
      · refine G_S (pc := 74) f_76_74 rfl rfl rfl ?_
        refine G_bi (v := nI 16) (pc := 75) f_76_75 (by decide) ?_
        refine G_jeqZ (pc := 77) f_76_77 rfl (by first | exact nI_toInt (by omega) | exact zI_toInt (by omega) (by omega) | rfl) (by first | exact nI_toInt (by omega) | exact zI_toInt (by omega) (by omega) | rfl) (fun b8 => ?_) (fun b8 => ?_)
        · refine G_S (pc := 86) f_76_86 rfl rfl rfl ?_
          refine G_gR (pc := 87) f_76_87 (by decide) rfl (by first | assumption | exact hK.1 _ _ rfl) (by first | assumption | exact hK.2 _ _ _ rfl | (try dsimp only) <;> (repeat (first | exact up2_s | refine up2_o (by first | decide | omega) ?_)) <;> first | assumption | exact hK.2 _ _ _ rfl) ?_
          refine G_gIv (pc := 90) f_76_90 (by decide) rfl (by decide) (by first | assumption | exact hK.1 _ _ rfl) (by first | assumption | exact mI_s | ((refine mI_o (by first | decide | omega) ?_); (repeat (refine mI_o (by first | decide | omega) ?_)); first | exact mI_s | assumption) | rfl) ?_
          refine G_bi (v := nI 10) (pc := 93) f_76_93 (by decide) ?_
          refine G_jltZ (pc := 95) f_76_95 rfl (by first | exact nI_toInt (by omega) | exact zI_toInt (by omega) (by omega) | rfl) (by first | exact nI_toInt (by omega) | exact zI_toInt (by omega) (by omega) | rfl) (fun b10 => ?_) (fun b10 => ?_)
          · refine G_ic (v := nI 0) (pc := 102) f_76_102 (by decide) ?_
            refine G_rz (pc := 103) f_76_103 (by first | exact Or.inl rfl | exact Or.inr rfl | exact b2i_01 _ | assumption) ?_
            refine ⟨?_, rfl⟩
            congr 2
            unfold fulZ
            first
              | (exfalso; omega)
              | (rw [if_pos (by omega)]
                 first
                   | exact (b2i_1 (decide_eq_true (by omega))).symm
                   | exact (b2i_0 (fun q => absurd (of_decide_eq_true q) (by omega))).symm)
              | (rw [if_neg (by omega), if_pos (by omega)]
                 first
                   | exact (b2i_1 (decide_eq_true (by omega))).symm
                   | exact (b2i_0 (fun q => absurd (of_decide_eq_true q) (by omega))).symm)
              | (rw [if_neg (by omega), if_neg (by omega), if_pos (by omega)]
                 first
                   | exact (b2i_1 (decide_eq_true (by omega))).symm
                   | exact (b2i_0 (fun q => absurd (of_decide_eq_true q) (by omega))).symm)
              | (rw [if_neg (by omega), if_neg (by omega), if_neg (by omega), if_pos (by omega)]
                 first
                   | exact (b2i_1 (decide_eq_true (by omega))).symm
                   | exact (b2i_0 (fun q => absurd (of_decide_eq_true q) (by omega))).symm)
              | (rw [if_neg (by omega), if_neg (by omega), if_neg (by omega), if_neg (by omega)]
                 exact (b2i_0 (by decide)).symm)
          · refine G_ic (v := nI 1) (pc := 98) f_76_98 (by decide) ?_
            refine G_S (pc := 99) f_76_99 rfl rfl rfl ?_
            refine G_rz (pc := 103) f_76_103 (by first | exact Or.inl rfl | exact Or.inr rfl | exact b2i_01 _ | assumption) ?_
            refine ⟨?_, rfl⟩
            congr 2
            unfold fulZ
            first
              | (exfalso; omega)
              | (rw [if_pos (by omega)]
                 first
                   | exact (b2i_1 (decide_eq_true (by omega))).symm
                   | exact (b2i_0 (fun q => absurd (of_decide_eq_true q) (by omega))).symm)
              | (rw [if_neg (by omega), if_pos (by omega)]
                 first
                   | exact (b2i_1 (decide_eq_true (by omega))).symm
                   | exact (b2i_0 (fun q => absurd (of_decide_eq_true q) (by omega))).symm)
              | (rw [if_neg (by omega), if_neg (by omega), if_pos (by omega)]
                 first
                   | exact (b2i_1 (decide_eq_true (by omega))).symm
                   | exact (b2i_0 (fun q => absurd (of_decide_eq_true q) (by omega))).symm)
              | (rw [if_neg (by omega), if_neg (by omega), if_neg (by omega), if_pos (by omega)]
                 first
                   | exact (b2i_1 (decide_eq_true (by omega))).symm
                   | exact (b2i_0 (fun q => absurd (of_decide_eq_true q) (by omega))).symm)
              | (rw [if_neg (by omega), if_neg (by omega), if_neg (by omega), if_neg (by omega)]
                 exact (b2i_0 (by decide)).symm)
        · refine G_S (pc := 80) f_76_80 rfl rfl rfl ?_
          refine G_bi (v := nI 17) (pc := 81) f_76_81 (by decide) ?_
          refine G_jneZ (pc := 83) f_76_83 rfl (by first | exact nI_toInt (by omega) | exact zI_toInt (by omega) (by omega) | rfl) (by first | exact nI_toInt (by omega) | exact zI_toInt (by omega) (by omega) | rfl) (fun b9 => ?_) (fun b9 => ?_)
          · refine G_ic (v := nI 0) (pc := 102) f_76_102 (by decide) ?_
            refine G_rz (pc := 103) f_76_103 (by first | exact Or.inl rfl | exact Or.inr rfl | exact b2i_01 _ | assumption) ?_
            refine ⟨?_, rfl⟩
            congr 2
            unfold fulZ
            first
              | (exfalso; omega)
              | (rw [if_pos (by omega)]
                 first
                   | exact (b2i_1 (decide_eq_true (by omega))).symm
                   | exact (b2i_0 (fun q => absurd (of_decide_eq_true q) (by omega))).symm)
              | (rw [if_neg (by omega), if_pos (by omega)]
                 first
                   | exact (b2i_1 (decide_eq_true (by omega))).symm
                   | exact (b2i_0 (fun q => absurd (of_decide_eq_true q) (by omega))).symm)
              | (rw [if_neg (by omega), if_neg (by omega), if_pos (by omega)]
                 first
                   | exact (b2i_1 (decide_eq_true (by omega))).symm
                   | exact (b2i_0 (fun q => absurd (of_decide_eq_true q) (by omega))).symm)
              | (rw [if_neg (by omega), if_neg (by omega), if_neg (by omega), if_pos (by omega)]
                 first
                   | exact (b2i_1 (decide_eq_true (by omega))).symm
                   | exact (b2i_0 (fun q => absurd (of_decide_eq_true q) (by omega))).symm)
              | (rw [if_neg (by omega), if_neg (by omega), if_neg (by omega), if_neg (by omega)]
                 exact (b2i_0 (by decide)).symm)
          · refine G_S (pc := 86) f_76_86 rfl rfl rfl ?_
            refine G_gR (pc := 87) f_76_87 (by decide) rfl (by first | assumption | exact hK.1 _ _ rfl) (by first | assumption | exact hK.2 _ _ _ rfl | (try dsimp only) <;> (repeat (first | exact up2_s | refine up2_o (by first | decide | omega) ?_)) <;> first | assumption | exact hK.2 _ _ _ rfl) ?_
            refine G_gIv (pc := 90) f_76_90 (by decide) rfl (by decide) (by first | assumption | exact hK.1 _ _ rfl) (by first | assumption | exact mI_s | ((refine mI_o (by first | decide | omega) ?_); (repeat (refine mI_o (by first | decide | omega) ?_)); first | exact mI_s | assumption) | rfl) ?_
            refine G_bi (v := nI 10) (pc := 93) f_76_93 (by decide) ?_
            refine G_jltZ (pc := 95) f_76_95 rfl (by first | exact nI_toInt (by omega) | exact zI_toInt (by omega) (by omega) | rfl) (by first | exact nI_toInt (by omega) | exact zI_toInt (by omega) (by omega) | rfl) (fun b10 => ?_) (fun b10 => ?_)
            · refine G_ic (v := nI 0) (pc := 102) f_76_102 (by decide) ?_
              refine G_rz (pc := 103) f_76_103 (by first | exact Or.inl rfl | exact Or.inr rfl | exact b2i_01 _ | assumption) ?_
              refine ⟨?_, rfl⟩
              congr 2
              unfold fulZ
              first
                | (exfalso; omega)
                | (rw [if_pos (by omega)]
                   first
                     | exact (b2i_1 (decide_eq_true (by omega))).symm
                     | exact (b2i_0 (fun q => absurd (of_decide_eq_true q) (by omega))).symm)
                | (rw [if_neg (by omega), if_pos (by omega)]
                   first
                     | exact (b2i_1 (decide_eq_true (by omega))).symm
                     | exact (b2i_0 (fun q => absurd (of_decide_eq_true q) (by omega))).symm)
                | (rw [if_neg (by omega), if_neg (by omega), if_pos (by omega)]
                   first
                     | exact (b2i_1 (decide_eq_true (by omega))).symm
                     | exact (b2i_0 (fun q => absurd (of_decide_eq_true q) (by omega))).symm)
                | (rw [if_neg (by omega), if_neg (by omega), if_neg (by omega), if_pos (by omega)]
                   first
                     | exact (b2i_1 (decide_eq_true (by omega))).symm
                     | exact (b2i_0 (fun q => absurd (of_decide_eq_true q) (by omega))).symm)
                | (rw [if_neg (by omega), if_neg (by omega), if_neg (by omega), if_neg (by omega)]
                   exact (b2i_0 (by decide)).symm)
            · refine G_ic (v := nI 1) (pc := 98) f_76_98 (by decide) ?_
              refine G_S (pc := 99) f_76_99 rfl rfl rfl ?_
              refine G_rz (pc := 103) f_76_103 (by first | exact Or.inl rfl | exact Or.inr rfl | exact b2i_01 _ | assumption) ?_
              refine ⟨?_, rfl⟩
              congr 2
              unfold fulZ
              first
                | (exfalso; omega)
                | (rw [if_pos (by omega)]
                   first
                     | exact (b2i_1 (decide_eq_true (by omega))).symm
                     | exact (b2i_0 (fun q => absurd (of_decide_eq_true q) (by omega))).symm)
                | (rw [if_neg (by omega), if_pos (by omega)]
                   first
                     | exact (b2i_1 (decide_eq_true (by omega))).symm
                     | exact (b2i_0 (fun q => absurd (of_decide_eq_true q) (by omega))).symm)
                | (rw [if_neg (by omega), if_neg (by omega), if_pos (by omega)]
                   first
                     | exact (b2i_1 (decide_eq_true (by omega))).symm
                     | exact (b2i_0 (fun q => absurd (of_decide_eq_true q) (by omega))).symm)
                | (rw [if_neg (by omega), if_neg (by omega), if_neg (by omega), if_pos (by omega)]
                   first
                     | exact (b2i_1 (decide_eq_true (by omega))).symm
                     | exact (b2i_0 (fun q => absurd (of_decide_eq_true q) (by omega))).symm)
                | (rw [if_neg (by omega), if_neg (by omega), if_neg (by omega), if_neg (by omega)]
                   exact (b2i_0 (by decide)).symm)
      · refine G_S (pc := 50) f_76_50 rfl rfl rfl ?_
        refine G_bi (v := nI 12) (pc := 51) f_76_51 (by decide) ?_
        refine G_jgtZ (pc := 53) f_76_53 rfl (by first | exact nI_toInt (by omega) | exact zI_toInt (by omega) (by omega) | rfl) (by first | exact nI_toInt (by omega) | exact zI_toInt (by omega) (by omega) | rfl) (fun b6 => ?_) (fun b6 => ?_)
        · refine G_S (pc := 74) f_76_74 rfl rfl rfl ?_
          refine G_bi (v := nI 16) (pc := 75) f_76_75 (by decide) ?_
          refine G_jeqZ (pc := 77) f_76_77 rfl (by first | exact nI_toInt (by omega) | exact zI_toInt (by omega) (by omega) | rfl) (by first | exact nI_toInt (by omega) | exact zI_toInt (by omega) (by omega) | rfl) (fun b8 => ?_) (fun b8 => ?_)
          · refine G_S (pc := 86) f_76_86 rfl rfl rfl ?_
            refine G_gR (pc := 87) f_76_87 (by decide) rfl (by first | assumption | exact hK.1 _ _ rfl) (by first | assumption | exact hK.2 _ _ _ rfl | (try dsimp only) <;> (repeat (first | exact up2_s | refine up2_o (by first | decide | omega) ?_)) <;> first | assumption | exact hK.2 _ _ _ rfl) ?_
            refine G_gIv (pc := 90) f_76_90 (by decide) rfl (by decide) (by first | assumption | exact hK.1 _ _ rfl) (by first | assumption | exact mI_s | ((refine mI_o (by first | decide | omega) ?_); (repeat (refine mI_o (by first | decide | omega) ?_)); first | exact mI_s | assumption) | rfl) ?_
            refine G_bi (v := nI 10) (pc := 93) f_76_93 (by decide) ?_
            refine G_jltZ (pc := 95) f_76_95 rfl (by first | exact nI_toInt (by omega) | exact zI_toInt (by omega) (by omega) | rfl) (by first | exact nI_toInt (by omega) | exact zI_toInt (by omega) (by omega) | rfl) (fun b10 => ?_) (fun b10 => ?_)
            · refine G_ic (v := nI 0) (pc := 102) f_76_102 (by decide) ?_
              refine G_rz (pc := 103) f_76_103 (by first | exact Or.inl rfl | exact Or.inr rfl | exact b2i_01 _ | assumption) ?_
              refine ⟨?_, rfl⟩
              congr 2
              unfold fulZ
              first
                | (exfalso; omega)
                | (rw [if_pos (by omega)]
                   first
                     | exact (b2i_1 (decide_eq_true (by omega))).symm
                     | exact (b2i_0 (fun q => absurd (of_decide_eq_true q) (by omega))).symm)
                | (rw [if_neg (by omega), if_pos (by omega)]
                   first
                     | exact (b2i_1 (decide_eq_true (by omega))).symm
                     | exact (b2i_0 (fun q => absurd (of_decide_eq_true q) (by omega))).symm)
                | (rw [if_neg (by omega), if_neg (by omega), if_pos (by omega)]
                   first
                     | exact (b2i_1 (decide_eq_true (by omega))).symm
                     | exact (b2i_0 (fun q => absurd (of_decide_eq_true q) (by omega))).symm)
                | (rw [if_neg (by omega), if_neg (by omega), if_neg (by omega), if_pos (by omega)]
                   first
                     | exact (b2i_1 (decide_eq_true (by omega))).symm
                     | exact (b2i_0 (fun q => absurd (of_decide_eq_true q) (by omega))).symm)
                | (rw [if_neg (by omega), if_neg (by omega), if_neg (by omega), if_neg (by omega)]
                   exact (b2i_0 (by decide)).symm)
            · refine G_ic (v := nI 1) (pc := 98) f_76_98 (by decide) ?_
              refine G_S (pc := 99) f_76_99 rfl rfl rfl ?_
              refine G_rz (pc := 103) f_76_103 (by first | exact Or.inl rfl | exact Or.inr rfl | exact b2i_01 _ | assumption) ?_
              refine ⟨?_, rfl⟩
              congr 2
              unfold fulZ
              first
                | (exfalso; omega)
                | (rw [if_pos (by omega)]
                   first
                     | exact (b2i_1 (decide_eq_true (by omega))).symm
                     | exact (b2i_0 (fun q => absurd (of_decide_eq_true q) (by omega))).symm)
                | (rw [if_neg (by omega), if_pos (by omega)]
                   first
                     | exact (b2i_1 (decide_eq_true (by omega))).symm
                     | exact (b2i_0 (fun q => absurd (of_decide_eq_true q) (by omega))).symm)
                | (rw [if_neg (by omega), if_neg (by omega), if_pos (by omega)]
                   first
                     | exact (b2i_1 (decide_eq_true (by omega))).symm
                     | exact (b2i_0 (fun q => absurd (of_decide_eq_true q) (by omega))).symm)
                | (rw [if_neg (by omega), if_neg (by omega), if_neg (by omega), if_pos (by omega)]
                   first
                     | exact (b2i_1 (decide_eq_true (by omega))).symm
                     | exact (b2i_0 (fun q => absurd (of_decide_eq_true q) (by omega))).symm)
                | (rw [if_neg (by omega), if_neg (by omega), if_neg (by omega), if_neg (by omega)]
                   exact (b2i_0 (by decide)).symm)
          · refine G_S (pc := 80) f_76_80 rfl rfl rfl ?_
            refine G_bi (v := nI 17) (pc := 81) f_76_81 (by decide) ?_
            refine G_jneZ (pc := 83) f_76_83 rfl (by first | exact nI_toInt (by omega) | exact zI_toInt (by omega) (by omega) | rfl) (by first | exact nI_toInt (by omega) | exact zI_toInt (by omega) (by omega) | rfl) (fun b9 => ?_) (fun b9 => ?_)
            · refine G_ic (v := nI 0) (pc := 102) f_76_102 (by decide) ?_
              refine G_rz (pc := 103) f_76_103 (by first | exact Or.inl rfl | exact Or.inr rfl | exact b2i_01 _ | assumption) ?_
              refine ⟨?_, rfl⟩
              congr 2
              unfold fulZ
              first
                | (exfalso; omega)
                | (rw [if_pos (by omega)]
                   first
                     | exact (b2i_1 (decide_eq_true (by omega))).symm
                     | exact (b2i_0 (fun q => absurd (of_decide_eq_true q) (by omega))).symm)
                | (rw [if_neg (by omega), if_pos (by omega)]
                   first
                     | exact (b2i_1 (decide_eq_true (by omega))).symm
                     | exact (b2i_0 (fun q => absurd (of_decide_eq_true q) (by omega))).symm)
                | (rw [if_neg (by omega), if_neg (by omega), if_pos (by omega)]
                   first
                     | exact (b2i_1 (decide_eq_true (by omega))).symm
                     | exact (b2i_0 (fun q => absurd (of_decide_eq_true q) (by omega))).symm)
                | (rw [if_neg (by omega), if_neg (by omega), if_neg (by omega), if_pos (by omega)]
                   first
                     | exact (b2i_1 (decide_eq_true (by omega))).symm
                     | exact (b2i_0 (fun q => absurd (of_decide_eq_true q) (by omega))).symm)
                | (rw [if_neg (by omega), if_neg (by omega), if_neg (by omega), if_neg (by omega)]
                   exact (b2i_0 (by decide)).symm)
            · refine G_S (pc := 86) f_76_86 rfl rfl rfl ?_
              refine G_gR (pc := 87) f_76_87 (by decide) rfl (by first | assumption | exact hK.1 _ _ rfl) (by first | assumption | exact hK.2 _ _ _ rfl | (try dsimp only) <;> (repeat (first | exact up2_s | refine up2_o (by first | decide | omega) ?_)) <;> first | assumption | exact hK.2 _ _ _ rfl) ?_
              refine G_gIv (pc := 90) f_76_90 (by decide) rfl (by decide) (by first | assumption | exact hK.1 _ _ rfl) (by first | assumption | exact mI_s | ((refine mI_o (by first | decide | omega) ?_); (repeat (refine mI_o (by first | decide | omega) ?_)); first | exact mI_s | assumption) | rfl) ?_
              refine G_bi (v := nI 10) (pc := 93) f_76_93 (by decide) ?_
              refine G_jltZ (pc := 95) f_76_95 rfl (by first | exact nI_toInt (by omega) | exact zI_toInt (by omega) (by omega) | rfl) (by first | exact nI_toInt (by omega) | exact zI_toInt (by omega) (by omega) | rfl) (fun b10 => ?_) (fun b10 => ?_)
              · refine G_ic (v := nI 0) (pc := 102) f_76_102 (by decide) ?_
                refine G_rz (pc := 103) f_76_103 (by first | exact Or.inl rfl | exact Or.inr rfl | exact b2i_01 _ | assumption) ?_
                refine ⟨?_, rfl⟩
                congr 2
                unfold fulZ
                first
                  | (exfalso; omega)
                  | (rw [if_pos (by omega)]
                     first
                       | exact (b2i_1 (decide_eq_true (by omega))).symm
                       | exact (b2i_0 (fun q => absurd (of_decide_eq_true q) (by omega))).symm)
                  | (rw [if_neg (by omega), if_pos (by omega)]
                     first
                       | exact (b2i_1 (decide_eq_true (by omega))).symm
                       | exact (b2i_0 (fun q => absurd (of_decide_eq_true q) (by omega))).symm)
                  | (rw [if_neg (by omega), if_neg (by omega), if_pos (by omega)]
                     first
                       | exact (b2i_1 (decide_eq_true (by omega))).symm
                       | exact (b2i_0 (fun q => absurd (of_decide_eq_true q) (by omega))).symm)
                  | (rw [if_neg (by omega), if_neg (by omega), if_neg (by omega), if_pos (by omega)]
                     first
                       | exact (b2i_1 (decide_eq_true (by omega))).symm
                       | exact (b2i_0 (fun q => absurd (of_decide_eq_true q) (by omega))).symm)
                  | (rw [if_neg (by omega), if_neg (by omega), if_neg (by omega), if_neg (by omega)]
                     exact (b2i_0 (by decide)).symm)
              · refine G_ic (v := nI 1) (pc := 98) f_76_98 (by decide) ?_
                refine G_S (pc := 99) f_76_99 rfl rfl rfl ?_
                refine G_rz (pc := 103) f_76_103 (by first | exact Or.inl rfl | exact Or.inr rfl | exact b2i_01 _ | assumption) ?_
                refine ⟨?_, rfl⟩
                congr 2
                unfold fulZ
                first
                  | (exfalso; omega)
                  | (rw [if_pos (by omega)]
                     first
                       | exact (b2i_1 (decide_eq_true (by omega))).symm
                       | exact (b2i_0 (fun q => absurd (of_decide_eq_true q) (by omega))).symm)
                  | (rw [if_neg (by omega), if_pos (by omega)]
                     first
                       | exact (b2i_1 (decide_eq_true (by omega))).symm
                       | exact (b2i_0 (fun q => absurd (of_decide_eq_true q) (by omega))).symm)
                  | (rw [if_neg (by omega), if_neg (by omega), if_pos (by omega)]
                     first
                       | exact (b2i_1 (decide_eq_true (by omega))).symm
                       | exact (b2i_0 (fun q => absurd (of_decide_eq_true q) (by omega))).symm)
                  | (rw [if_neg (by omega), if_neg (by omega), if_neg (by omega), if_pos (by omega)]
                     first
                       | exact (b2i_1 (decide_eq_true (by omega))).symm
                       | exact (b2i_0 (fun q => absurd (of_decide_eq_true q) (by omega))).symm)
                  | (rw [if_neg (by omega), if_neg (by omega), if_neg (by omega), if_neg (by omega)]
                     exact (b2i_0 (by decide)).symm)
        · refine G_S (pc := 56) f_76_56 rfl rfl rfl ?_
          refine G_gR (pc := 57) f_76_57 (by decide) rfl (by first | assumption | exact hK.1 _ _ rfl) (by first | assumption | exact hK.2 _ _ _ rfl | (try dsimp only) <;> (repeat (first | exact up2_s | refine up2_o (by first | decide | omega) ?_)) <;> first | assumption | exact hK.2 _ _ _ rfl) ?_
          refine G_gIv (pc := 60) f_76_60 (by decide) rfl (by decide) (by first | assumption | exact hK.1 _ _ rfl) (by first | assumption | exact mI_s | ((refine mI_o (by first | decide | omega) ?_); (repeat (refine mI_o (by first | decide | omega) ?_)); first | exact mI_s | assumption) | rfl) ?_
          refine G_bi (v := nI 40) (pc := 63) f_76_63 (by decide) ?_
          refine G_jltZ (pc := 65) f_76_65 rfl (by first | exact nI_toInt (by omega) | exact zI_toInt (by omega) (by omega) | rfl) (by first | exact nI_toInt (by omega) | exact zI_toInt (by omega) (by omega) | rfl) (fun b7 => ?_) (fun b7 => ?_)
          · refine G_ic (v := nI 0) (pc := 72) f_76_72 (by decide) ?_
            refine G_rz (pc := 73) f_76_73 (by first | exact Or.inl rfl | exact Or.inr rfl | exact b2i_01 _ | assumption) ?_
            refine ⟨?_, rfl⟩
            congr 2
            unfold fulZ
            first
              | (exfalso; omega)
              | (rw [if_pos (by omega)]
                 first
                   | exact (b2i_1 (decide_eq_true (by omega))).symm
                   | exact (b2i_0 (fun q => absurd (of_decide_eq_true q) (by omega))).symm)
              | (rw [if_neg (by omega), if_pos (by omega)]
                 first
                   | exact (b2i_1 (decide_eq_true (by omega))).symm
                   | exact (b2i_0 (fun q => absurd (of_decide_eq_true q) (by omega))).symm)
              | (rw [if_neg (by omega), if_neg (by omega), if_pos (by omega)]
                 first
                   | exact (b2i_1 (decide_eq_true (by omega))).symm
                   | exact (b2i_0 (fun q => absurd (of_decide_eq_true q) (by omega))).symm)
              | (rw [if_neg (by omega), if_neg (by omega), if_neg (by omega), if_pos (by omega)]
                 first
                   | exact (b2i_1 (decide_eq_true (by omega))).symm
                   | exact (b2i_0 (fun q => absurd (of_decide_eq_true q) (by omega))).symm)
              | (rw [if_neg (by omega), if_neg (by omega), if_neg (by omega), if_neg (by omega)]
                 exact (b2i_0 (by decide)).symm)
          · refine G_ic (v := nI 1) (pc := 68) f_76_68 (by decide) ?_
            refine G_S (pc := 69) f_76_69 rfl rfl rfl ?_
            refine G_rz (pc := 73) f_76_73 (by first | exact Or.inl rfl | exact Or.inr rfl | exact b2i_01 _ | assumption) ?_
            refine ⟨?_, rfl⟩
            congr 2
            unfold fulZ
            first
              | (exfalso; omega)
              | (rw [if_pos (by omega)]
                 first
                   | exact (b2i_1 (decide_eq_true (by omega))).symm
                   | exact (b2i_0 (fun q => absurd (of_decide_eq_true q) (by omega))).symm)
              | (rw [if_neg (by omega), if_pos (by omega)]
                 first
                   | exact (b2i_1 (decide_eq_true (by omega))).symm
                   | exact (b2i_0 (fun q => absurd (of_decide_eq_true q) (by omega))).symm)
              | (rw [if_neg (by omega), if_neg (by omega), if_pos (by omega)]
                 first
                   | exact (b2i_1 (decide_eq_true (by omega))).symm
                   | exact (b2i_0 (fun q => absurd (of_decide_eq_true q) (by omega))).symm)
              | (rw [if_neg (by omega), if_neg (by omega), if_neg (by omega), if_pos (by omega)]
                 first
                   | exact (b2i_1 (decide_eq_true (by omega))).symm
                   | exact (b2i_0 (fun q => absurd (of_decide_eq_true q) (by omega))).symm)
              | (rw [if_neg (by omega), if_neg (by omega), if_neg (by omega), if_neg (by omega)]
                 exact (b2i_0 (by decide)).symm)
    · refine G_S (pc := 27) f_76_27 rfl rfl rfl ?_
      refine G_gR (pc := 28) f_76_28 (by decide) rfl (by first | assumption | exact hK.1 _ _ rfl) (by first | assumption | exact hK.2 _ _ _ rfl | (try dsimp only) <;> (repeat (first | exact up2_s | refine up2_o (by first | decide | omega) ?_)) <;> first | assumption | exact hK.2 _ _ _ rfl) ?_
      refine G_gIv (pc := 31) f_76_31 (by decide) rfl (by decide) (by first | assumption | exact hK.1 _ _ rfl) (by first | assumption | exact mI_s | ((refine mI_o (by first | decide | omega) ?_); (repeat (refine mI_o (by first | decide | omega) ?_)); first | exact mI_s | assumption) | rfl) ?_
      refine G_bi (v := nI 8) (pc := 34) f_76_34 (by decide) ?_
      refine G_jltZ (pc := 36) f_76_36 rfl (by first | exact nI_toInt (by omega) | exact zI_toInt (by omega) (by omega) | rfl) (by first | exact nI_toInt (by omega) | exact zI_toInt (by omega) (by omega) | rfl) (fun b4 => ?_) (fun b4 => ?_)
      · refine G_ic (v := nI 0) (pc := 43) f_76_43 (by decide) ?_
        refine G_rz (pc := 44) f_76_44 (by first | exact Or.inl rfl | exact Or.inr rfl | exact b2i_01 _ | assumption) ?_
        refine ⟨?_, rfl⟩
        congr 2
        unfold fulZ
        first
          | (exfalso; omega)
          | (rw [if_pos (by omega)]
             first
               | exact (b2i_1 (decide_eq_true (by omega))).symm
               | exact (b2i_0 (fun q => absurd (of_decide_eq_true q) (by omega))).symm)
          | (rw [if_neg (by omega), if_pos (by omega)]
             first
               | exact (b2i_1 (decide_eq_true (by omega))).symm
               | exact (b2i_0 (fun q => absurd (of_decide_eq_true q) (by omega))).symm)
          | (rw [if_neg (by omega), if_neg (by omega), if_pos (by omega)]
             first
               | exact (b2i_1 (decide_eq_true (by omega))).symm
               | exact (b2i_0 (fun q => absurd (of_decide_eq_true q) (by omega))).symm)
          | (rw [if_neg (by omega), if_neg (by omega), if_neg (by omega), if_pos (by omega)]
             first
               | exact (b2i_1 (decide_eq_true (by omega))).symm
               | exact (b2i_0 (fun q => absurd (of_decide_eq_true q) (by omega))).symm)
          | (rw [if_neg (by omega), if_neg (by omega), if_neg (by omega), if_neg (by omega)]
             exact (b2i_0 (by decide)).symm)
      · refine G_ic (v := nI 1) (pc := 39) f_76_39 (by decide) ?_
        refine G_S (pc := 40) f_76_40 rfl rfl rfl ?_
        refine G_rz (pc := 44) f_76_44 (by first | exact Or.inl rfl | exact Or.inr rfl | exact b2i_01 _ | assumption) ?_
        refine ⟨?_, rfl⟩
        congr 2
        unfold fulZ
        first
          | (exfalso; omega)
          | (rw [if_pos (by omega)]
             first
               | exact (b2i_1 (decide_eq_true (by omega))).symm
               | exact (b2i_0 (fun q => absurd (of_decide_eq_true q) (by omega))).symm)
          | (rw [if_neg (by omega), if_pos (by omega)]
             first
               | exact (b2i_1 (decide_eq_true (by omega))).symm
               | exact (b2i_0 (fun q => absurd (of_decide_eq_true q) (by omega))).symm)
          | (rw [if_neg (by omega), if_neg (by omega), if_pos (by omega)]
             first
               | exact (b2i_1 (decide_eq_true (by omega))).symm
               | exact (b2i_0 (fun q => absurd (of_decide_eq_true q) (by omega))).symm)
          | (rw [if_neg (by omega), if_neg (by omega), if_neg (by omega), if_pos (by omega)]
             first
               | exact (b2i_1 (decide_eq_true (by omega))).symm
               | exact (b2i_0 (fun q => absurd (of_decide_eq_true q) (by omega))).symm)
          | (rw [if_neg (by omega), if_neg (by omega), if_neg (by omega), if_neg (by omega)]
             exact (b2i_0 (by decide)).symm)
  · refine G_S (pc := 4) f_76_4 rfl rfl rfl ?_
    refine G_gR (pc := 5) f_76_5 (by decide) rfl (by first | assumption | exact hK.1 _ _ rfl) (by first | assumption | exact hK.2 _ _ _ rfl | (try dsimp only) <;> (repeat (first | exact up2_s | refine up2_o (by first | decide | omega) ?_)) <;> first | assumption | exact hK.2 _ _ _ rfl) ?_
    refine G_gIv (pc := 8) f_76_8 (by decide) rfl (by decide) (by first | assumption | exact hK.1 _ _ rfl) (by first | assumption | exact mI_s | ((refine mI_o (by first | decide | omega) ?_); (repeat (refine mI_o (by first | decide | omega) ?_)); first | exact mI_s | assumption) | rfl) ?_
    refine G_bi (v := nI 8) (pc := 11) f_76_11 (by decide) ?_
    refine G_jltZ (pc := 13) f_76_13 rfl (by first | exact nI_toInt (by omega) | exact zI_toInt (by omega) (by omega) | rfl) (by first | exact nI_toInt (by omega) | exact zI_toInt (by omega) (by omega) | rfl) (fun b2 => ?_) (fun b2 => ?_)
    · refine G_ic (v := nI 0) (pc := 20) f_76_20 (by decide) ?_
      refine G_rz (pc := 21) f_76_21 (by first | exact Or.inl rfl | exact Or.inr rfl | exact b2i_01 _ | assumption) ?_
      refine ⟨?_, rfl⟩
      congr 2
      unfold fulZ
      first
        | (exfalso; omega)
        | (rw [if_pos (by omega)]
           first
             | exact (b2i_1 (decide_eq_true (by omega))).symm
             | exact (b2i_0 (fun q => absurd (of_decide_eq_true q) (by omega))).symm)
        | (rw [if_neg (by omega), if_pos (by omega)]
           first
             | exact (b2i_1 (decide_eq_true (by omega))).symm
             | exact (b2i_0 (fun q => absurd (of_decide_eq_true q) (by omega))).symm)
        | (rw [if_neg (by omega), if_neg (by omega), if_pos (by omega)]
           first
             | exact (b2i_1 (decide_eq_true (by omega))).symm
             | exact (b2i_0 (fun q => absurd (of_decide_eq_true q) (by omega))).symm)
        | (rw [if_neg (by omega), if_neg (by omega), if_neg (by omega), if_pos (by omega)]
           first
             | exact (b2i_1 (decide_eq_true (by omega))).symm
             | exact (b2i_0 (fun q => absurd (of_decide_eq_true q) (by omega))).symm)
        | (rw [if_neg (by omega), if_neg (by omega), if_neg (by omega), if_neg (by omega)]
           exact (b2i_0 (by decide)).symm)
    · refine G_ic (v := nI 1) (pc := 16) f_76_16 (by decide) ?_
      refine G_S (pc := 17) f_76_17 rfl rfl rfl ?_
      refine G_rz (pc := 21) f_76_21 (by first | exact Or.inl rfl | exact Or.inr rfl | exact b2i_01 _ | assumption) ?_
      refine ⟨?_, rfl⟩
      congr 2
      unfold fulZ
      first
        | (exfalso; omega)
        | (rw [if_pos (by omega)]
           first
             | exact (b2i_1 (decide_eq_true (by omega))).symm
             | exact (b2i_0 (fun q => absurd (of_decide_eq_true q) (by omega))).symm)
        | (rw [if_neg (by omega), if_pos (by omega)]
           first
             | exact (b2i_1 (decide_eq_true (by omega))).symm
             | exact (b2i_0 (fun q => absurd (of_decide_eq_true q) (by omega))).symm)
        | (rw [if_neg (by omega), if_neg (by omega), if_pos (by omega)]
           first
             | exact (b2i_1 (decide_eq_true (by omega))).symm
             | exact (b2i_0 (fun q => absurd (of_decide_eq_true q) (by omega))).symm)
        | (rw [if_neg (by omega), if_neg (by omega), if_neg (by omega), if_pos (by omega)]
           first
             | exact (b2i_1 (decide_eq_true (by omega))).symm
             | exact (b2i_0 (fun q => absurd (of_decide_eq_true q) (by omega))).symm)
        | (rw [if_neg (by omega), if_neg (by omega), if_neg (by omega), if_neg (by omega)]
           exact (b2i_0 (by decide)).symm)
theorem fm_i (hg : g < 18) {j : Nat} (hj : j < 6) : FMS.getD (g * 6 + j) 0 = nI (fmN g j) := by
  rw [Nat.mul_comm g 6]
  exact (fmN_at g hg j hj).1
theorem c_readKind0 (hC : CK C) (W : KTp M t n) (hg : g < 18) (h0 : fmN g 0 = 0) : CG C 73 [.ref 53, .int (nI g)] M (fun w M' => w = some (.int (b2i (True))) ∧ M' = M) := by
  have hK := W.1
  have hM := W.2.1
  have hv := fm_i hg (j := 0) (by decide)
  refine CG_in (mL := 2) (hl := false) (lv := [some (.ref 53), some (.int (nI g))]) (ll := []) rfl rfl rfl ?_
  refine G_S (pc := 0) f_73_0 rfl rfl rfl ?_
  refine G_S (pc := 3) f_73_3 rfl rfl rfl ?_
  refine G_bi (v := nI 6) (pc := 4) f_73_4 (by decide) ?_
  first | refine G_mulN (pc := 6) f_73_6 ?_ | refine G_mulZ (pc := 6) f_73_6 (by first | rfl | exact nI_zI _) (by first | rfl | exact nI_zI _) ?_ | refine G_S (pc := 6) f_73_6 rfl rfl rfl ?_
  refine G_iacN (pc := 7) f_73_7 (con_none hM (by decide)) hC.2.1 (by omega) (by decide) hv ?_
  first | refine G_bNe (pc := 8) f_73_8 rfl (fun b1 => ?_) (fun b1 => ?_) | refine G_zneZ (pc := 8) f_73_8 rfl (by first | exact nI_toInt (by omega) | exact zI_toInt (by omega) (by omega) | rfl) (fun b1 => ?_) (fun b1 => ?_)
  · exfalso; omega
  · refine G_ic (v := nI 1) (pc := 11) f_73_11 (by decide) ?_
    refine G_rz (pc := 12) f_73_12 (by first | exact Or.inl rfl | exact Or.inr rfl | exact b2i_01 _ | assumption) ?_
    exact ⟨rfl, rfl⟩
theorem c_readKindN (hC : CK C) (W : KTp M t n) (T : TCk M t n p) (hp : p ≤ n) (hg : g < 18) (h0 : fmN g 0 ≠ 0) (hk : kdH t n p = none) : CG C 73 [.ref 53, .int (nI g)] M (fun w M' => w = some (.int (b2i (False))) ∧ Fp 53 [] KTk M M' ∧ M'.2.1 53 10 = nI (skp t n p)) := by
  have hK := W.1
  have hM := W.2.1
  have hv := fm_i hg (j := 0) (by decide)
  have h99 := (fmN_at g hg 0 (by decide)).2
  have tk := c_kindHere hC W T hp
  rw [hk] at tk
  refine CG_in (mL := 2) (hl := false) (lv := [some (.ref 53), some (.int (nI g))]) (ll := []) rfl rfl rfl ?_
  refine G_S (pc := 0) f_73_0 rfl rfl rfl ?_
  refine G_S (pc := 3) f_73_3 rfl rfl rfl ?_
  refine G_bi (v := nI 6) (pc := 4) f_73_4 (by decide) ?_
  first | refine G_mulN (pc := 6) f_73_6 ?_ | refine G_mulZ (pc := 6) f_73_6 (by first | rfl | exact nI_zI _) (by first | rfl | exact nI_zI _) ?_ | refine G_S (pc := 6) f_73_6 rfl rfl rfl ?_
  refine G_iacN (pc := 7) f_73_7 (con_none hM (by decide)) hC.2.1 (by omega) (by decide) hv ?_
  first | refine G_bNe (pc := 8) f_73_8 rfl (fun b1 => ?_) (fun b1 => ?_) | refine G_zneZ (pc := 8) f_73_8 rfl (by first | exact nI_toInt (by omega) | exact zI_toInt (by omega) (by omega) | rfl) (fun b1 => ?_) (fun b1 => ?_)
  · refine G_S (pc := 13) f_73_13 rfl rfl rfl ?_
    refine G_S (pc := 14) f_73_14 rfl rfl rfl ?_
    refine G_CV (pc := 15) f_73_15 rfl rfl (by decide) rfl rfl (by first | assumption | exact hK.1 _ _ rfl) (by decide) ⟨Nat.le_of_ble_eq_true rfl, Nat.le_of_ble_eq_true rfl⟩ ?_
    refine CG.go (tk) ?_
    refine G_pI (pc := 18) f_73_18 rfl (by first | assumption | exact hK.1 _ _ rfl) ?_
    refine G_S (pc := 21) f_73_21 rfl rfl rfl ?_
    refine G_gIv (pc := 22) f_73_22 (by decide) rfl (by decide) (by first | assumption | exact hK.1 _ _ rfl) (mI_s) ?_
    refine G_ic (v := zI (-1)) (pc := 25) f_73_25 (by decide) ?_
    refine G_jneZ (pc := 26) f_73_26 rfl (by first | exact nI_toInt (by omega) | exact zI_toInt (by omega) (by omega) | rfl) (by first | exact nI_toInt (by omega) | exact zI_toInt (by omega) (by omega) | rfl) (fun b2 => ?_) (fun b2 => ?_)
    · exact absurd rfl b2
    · refine G_ic (v := nI 0) (pc := 29) f_73_29 (by decide) ?_
      refine G_rz (pc := 30) f_73_30 (by first | exact Or.inl rfl | exact Or.inr rfl | exact b2i_01 _ | assumption) ?_
      exact ⟨rfl, Fp.upf (k := 12) (x := zI (-1)) (by decide), (by (try dsimp only); exact up2_o (by omega) T.2.2.1)⟩
  · exfalso; omega
theorem c_readKindS {k : Nat} (hC : CK C) (W : KTp M t n) (T : TCk M t n p) (hp : p ≤ n) (hg : g < 18) (h0 : fmN g 0 ≠ 0) (hk : kdH t n p = some k) : CG C 73 [.ref 53, .int (nI g)] M (fun w M' => w = some (.int (b2i (True))) ∧ Fp 53 [] KTk M M' ∧ TCk M' t n (tkR t n p) ∧ M'.2.1 53 12 = nI k) := by
  have hK := W.1
  have hM := W.2.1
  have hv := fm_i hg (j := 0) (by decide)
  have h99 := (fmN_at g hg 0 (by decide)).2
  have tk := c_kindHere hC W T hp
  rw [hk] at tk
  have hl := leastF_lt _ _ _ hk
  have hx := tk_nx hp (show tkK t n p ≠ 0 by rw [wd_k hl.2.2]; decide)
  have hF1 : Fp 53 [] KTk M (M.1, up2 M.2.1 53 12 (nI k), M.2.2.1, M.2.2.2) := Fp.upf (by decide)
  refine CG_in (mL := 2) (hl := false) (lv := [some (.ref 53), some (.int (nI g))]) (ll := []) rfl rfl rfl ?_
  refine G_S (pc := 0) f_73_0 rfl rfl rfl ?_
  refine G_S (pc := 3) f_73_3 rfl rfl rfl ?_
  refine G_bi (v := nI 6) (pc := 4) f_73_4 (by decide) ?_
  first | refine G_mulN (pc := 6) f_73_6 ?_ | refine G_mulZ (pc := 6) f_73_6 (by first | rfl | exact nI_zI _) (by first | rfl | exact nI_zI _) ?_ | refine G_S (pc := 6) f_73_6 rfl rfl rfl ?_
  refine G_iacN (pc := 7) f_73_7 (con_none hM (by decide)) hC.2.1 (by omega) (by decide) hv ?_
  first | refine G_bNe (pc := 8) f_73_8 rfl (fun b1 => ?_) (fun b1 => ?_) | refine G_zneZ (pc := 8) f_73_8 rfl (by first | exact nI_toInt (by omega) | exact zI_toInt (by omega) (by omega) | rfl) (fun b1 => ?_) (fun b1 => ?_)
  · refine G_S (pc := 13) f_73_13 rfl rfl rfl ?_
    refine G_S (pc := 14) f_73_14 rfl rfl rfl ?_
    refine G_CV (pc := 15) f_73_15 rfl rfl (by decide) rfl rfl (by first | assumption | exact hK.1 _ _ rfl) (by decide) ⟨Nat.le_of_ble_eq_true rfl, Nat.le_of_ble_eq_true rfl⟩ ?_
    refine CG.go (tk) ?_
    refine G_pI (pc := 18) f_73_18 rfl (by first | assumption | exact hK.1 _ _ rfl) ?_
    refine G_S (pc := 21) f_73_21 rfl rfl rfl ?_
    refine G_gIv (pc := 22) f_73_22 (by decide) rfl (by decide) (by first | assumption | exact hK.1 _ _ rfl) (mI_s) ?_
    refine G_ic (v := zI (-1)) (pc := 25) f_73_25 (by decide) ?_
    refine G_jneZ (pc := 26) f_73_26 rfl (by first | exact nI_toInt (by omega) | exact zI_toInt (by omega) (by omega) | rfl) (by first | exact nI_toInt (by omega) | exact zI_toInt (by omega) (by omega) | rfl) (fun b2 => ?_) (fun b2 => ?_)
    · refine G_S (pc := 31) f_73_31 rfl rfl rfl ?_
      refine G_CV (pc := 32) f_73_32 rfl rfl (by decide) rfl rfl (by first | assumption | exact hK.1 _ _ rfl) (by decide) ⟨Nat.le_of_ble_eq_true rfl, Nat.le_of_ble_eq_true rfl⟩ ?_
      refine CG.mono (c_step (W.fp hF1 (by decide) (by decide)) (by (try dsimp only); exact up2_o (by omega) T.1) hx.2.2) ?_
      rintro _ M2 ⟨rfl, hF2, T2⟩
      refine G_ic (v := nI 1) (pc := 35) f_73_35 (by decide) ?_
      refine G_rz (pc := 36) f_73_36 (by first | exact Or.inl rfl | exact Or.inr rfl | exact b2i_01 _ | assumption) ?_
      refine ⟨rfl, hF1.tr (hF2.sub (by decide) (by decide)), T2, ?_⟩
      rw [hF2.2.2 12 (by decide)]
      exact (by (try dsimp only); exact up2_s)
    · exfalso; omega
  · exfalso; omega
/-- numbers read -/
def NBq (M : Mm) (t : Nat → Int) (n p2 i : Nat) : Prop := M.2.1 77 0 = (if 1 ≤ i then nI (vN t n p2) else zI (-1)) ∧ M.2.1 77 1 = (if 2 ≤ i then nI (vN t n (tkR t n p2)) else zI (-1))
def RNq (t : Nat → Int) (n g p2 : Nat) (M : Mm) (r : Sum Nat (Nat × (Nat × Nat))) (w : Option Value) (M' : Mm) : Prop := Fp 53 [77] NTk M M' ∧ (match r with
  | .inl e => w = some (.int (b2i (False))) ∧ M'.2.1 53 10 = nI e
  | .inr q => w = some (.int (b2i (True))) ∧ TCk M' t n q.1 ∧ FRd M' q.2 ∧ NBq M' t n p2 (fmN g 1))
theorem nt_f {k q : Nat} : nt f false k q = f := if_neg (fun z => absurd z.2 (by decide))
theorem c_readNums {p2 : Nat} (hC : CK C) (W : KTp M t n) (T : TCk M t n p2) (hf : FRd M f) (hp : p2 ≤ n) (hg : g < 18) : CG C 74 [.ref 53, .int (nI g)] M (RNq t n g p2 M (nmS t n g (fmN g 1) 0 p2 f)) := by
  have h99 : ∀ j, j < 6 → fmN g j ≤ 99 := fun j hj => (fmN_at g hg j hj).2
  have hv := fun j hj => fm_i hg (j := j) hj
  have hc2 := (fmN_c g hg).2
  have loop : ∀ c i, i + c = fmN g 1 → ∀ p f M1, Fp 53 [77] NTk M M1 → TCk M1 t n p → FRd M1 f → p ≤ n → NBq M1 t n p2 i → p = (if i = 0 then p2 else if i = 1 then tkR t n p2 else p) → G C 74 (15, [some (.ref 53), some (.int (nI g)), some (.int (nI (g * 6))), some (.int (nI i))], [], [], M1) (RNq t n g p2 M (nmS t n g c i p f)) := by
    intro c
    induction c with
    | zero =>
      intro i hi p f M1 hF T1 hf1 hp1 hN hpe
      have W1 := W.fp hF (by decide) (by decide)
      have hK := W1.1
      have hM := W1.2.1
      have hv1 := hv 1 (by decide)
      have hl1 := h99 1 (by decide)
      refine G_S (pc := 15) f_74_15 rfl rfl rfl ?_
      refine G_S (pc := 16) f_74_16 rfl rfl rfl ?_
      refine G_S (pc := 19) f_74_19 rfl rfl rfl ?_
      refine G_ic (v := nI 1) (pc := 20) f_74_20 (by decide) ?_
      first | refine G_addN (pc := 21) f_74_21 ?_ | refine G_addZ (pc := 21) f_74_21 (by first | rfl | exact nI_zI _) (by first | rfl | exact nI_zI _) ?_ | refine G_S (pc := 21) f_74_21 rfl rfl rfl ?_
      refine G_iacN (pc := 22) f_74_22 (con_none hM (by decide)) hC.2.1 (by omega) (by decide) hv1 ?_
      refine G_jgeZ (pc := 23) f_74_23 rfl (by first | exact nI_toInt (by omega) | exact zI_toInt (by omega) (by omega) | rfl) (by first | exact nI_toInt (by omega) | exact zI_toInt (by omega) (by omega) | rfl) (fun b1 => ?_) (fun b1 => ?_)
      · refine G_ic (v := nI 1) (pc := 101) f_74_101 (by decide) ?_
        refine G_rz (pc := 102) f_74_102 (by first | exact Or.inl rfl | exact Or.inr rfl | exact b2i_01 _ | assumption) ?_
        refine ⟨hF, rfl, T1, hf1, ?_⟩
        rw [← show i = fmN g 1 by omega]
        exact hN
      · exfalso; omega
    | succ c ih =>
      intro i hi p f M1 hF T1 hf1 hp1 hN hpe
      have W1 := W.fp hF (by decide) (by decide)
      have hK := W1.1
      have hM := W1.2.1
      have hv1 := hv 1 (by decide)
      have hl1 := h99 1 (by decide)
      have hv2 := hv (2 + 2 * i) (by omega)
      have hl2 := h99 (2 + 2 * i) (by omega)
      have hv3 := hv (3 + 2 * i) (by omega)
      have hl3 := h99 (3 + 2 * i) (by omega)
      rw [← Nat.add_assoc] at hv2 hv3
      have hk4 := tkK_le t n p
      have t9 := T1.2.1
      have t10 := T1.2.2.1
      rw [nmS]
      by_cases hk : tkK t n p = 2
      · have hva := vN_at hp1 hk
        have t11 : M1.2.1 53 11 = nI (vN t n p) := (T1.2.2.2 hk).trans hva.1
        have hx := tk_nx hp1 (show tkK t n p ≠ 0 by omega)
        rw [if_pos hk]
        have nxt : ∀ M2, Fp 53 [77] NTk M M2 → TCk M2 t n p → FRd M2 (nt f (badB g i (vN t n p)) 2 (skp t n p)) → NBq M2 t n p2 i → M2.2.1 53 11 = nI (vN t n p) → G C 74 (81, [some (.ref 53), some (.int (nI g)), some (.int (nI (g * 6))), some (.int (nI i))], [], [], M2) (RNq t n g p2 M (nmS t n g c (i + 1) (tkR t n p) (nt f (badB g i (vN t n p)) 2 (skp t n p)))) := by
          intro M2 hF2 T2 hf2 hN2 v11
          have W2 := W.fp hF2 (by decide) (by decide)
          have hK := W2.1
          have hF0 : Fp 53 [77] [] M2 (M2.1, up2 M2.2.1 77 i (nI (vN t n p)), M2.2.2.1, M2.2.2.2) := Fp.up (by decide) (by decide)
          have hF3 : Fp 53 [77] NTk M2 (M2.1, up2 M2.2.1 77 i (nI (vN t n p)), M2.2.2.1, M2.2.2.2) := hF0.sub (fun _ q => q) (by decide)
          refine G_S (pc := 81) f_74_81 rfl rfl rfl ?_
          refine G_gR (pc := 82) f_74_82 (by decide) rfl (by first | assumption | exact hK.1 _ _ rfl) (by first | assumption | exact hK.2 _ _ _ rfl | (try dsimp only) <;> (repeat (first | exact up2_s | refine up2_o (by first | decide | omega) ?_)) <;> first | assumption | exact hK.2 _ _ _ rfl) ?_
          refine G_S (pc := 85) f_74_85 rfl rfl rfl ?_
          refine G_S (pc := 86) f_74_86 rfl rfl rfl ?_
          refine G_gIv (pc := 87) f_74_87 (by decide) rfl (by decide) (by first | assumption | exact hK.1 _ _ rfl) (by first | assumption | exact mI_s | ((refine mI_o (by first | decide | omega) ?_); (repeat (refine mI_o (by first | decide | omega) ?_)); first | exact mI_s | assumption) | rfl) ?_
          refine G_isN (pc := 90) f_74_90 (by first | assumption | exact hK.1 _ _ rfl) (by omega) (by omega) ?_
          refine G_S (pc := 91) f_74_91 rfl rfl rfl ?_
          refine G_CV (pc := 92) f_74_92 rfl rfl (by decide) rfl rfl (by first | assumption | exact hK.1 _ _ rfl) (by decide) ⟨Nat.le_of_ble_eq_true rfl, Nat.le_of_ble_eq_true rfl⟩ ?_
          refine CG.mono (c_step (W2.fp hF3 (by decide) (by decide)) (by (try dsimp only); exact up2_o (by omega) T2.1) hx.2.2) ?_
          rintro _ M3 ⟨rfl, hF4, T3⟩
          first | refine G_inc1 (pc := 95) f_74_95 rfl ?_ | refine G_S (pc := 95) f_74_95 rfl rfl rfl ?_
          refine G_S (pc := 98) f_74_98 rfl rfl rfl ?_
          have hF5 := hF3.tr (hF4.sub (os' := [77]) (fs' := NTk) (by decide) (by decide))
          refine ih (i + 1) (by omega) (tkR t n p) _ M3 (hF2.tr hF5) T3 ((hf2.fp hF0 (by decide) (by decide)).fp hF4 (by decide) (by decide)) hx.2.2 ?_ ?_
          · unfold NBq
            rw [(hF4.2.1 77 (by decide) (by decide)).1]
            rcases (show i = 0 ∨ i = 1 by omega) with rfl | rfl
            · have ep : p = p2 := hpe
              subst ep
              exact ⟨(by (try dsimp only); exact up2_s), (by (try dsimp only); exact up2_o (by omega) hN2.2)⟩
            · have ep : p = tkR t n p2 := hpe
              subst ep
              exact ⟨(by (try dsimp only); exact up2_o (by omega) hN2.1), (by (try dsimp only); exact up2_s)⟩
          · rcases (show i = 0 ∨ i = 1 by omega) with rfl | rfl
            · have ep : p = p2 := hpe
              subst ep
              rfl
            · rfl
        have hok : badB g i (vN t n p) = false → G C 74 (81, [some (.ref 53), some (.int (nI g)), some (.int (nI (g * 6))), some (.int (nI i))], [], [], M1) (RNq t n g p2 M (nmS t n g c (i + 1) (tkR t n p) (nt f (badB g i (vN t n p)) 2 (skp t n p)))) := fun hb => nxt M1 hF T1 (by rw [hb, nt_f]; exact hf1) hN t11
        refine G_S (pc := 15) f_74_15 rfl rfl rfl ?_
        refine G_S (pc := 16) f_74_16 rfl rfl rfl ?_
        refine G_S (pc := 19) f_74_19 rfl rfl rfl ?_
        refine G_ic (v := nI 1) (pc := 20) f_74_20 (by decide) ?_
        first | refine G_addN (pc := 21) f_74_21 ?_ | refine G_addZ (pc := 21) f_74_21 (by first | rfl | exact nI_zI _) (by first | rfl | exact nI_zI _) ?_ | refine G_S (pc := 21) f_74_21 rfl rfl rfl ?_
        refine G_iacN (pc := 22) f_74_22 (con_none hM (by decide)) hC.2.1 (by omega) (by decide) hv1 ?_
        refine G_jgeZ (pc := 23) f_74_23 rfl (by first | exact nI_toInt (by omega) | exact zI_toInt (by omega) (by omega) | rfl) (by first | exact nI_toInt (by omega) | exact zI_toInt (by omega) (by omega) | rfl) (fun b1 => ?_) (fun b1 => ?_)
        · exfalso; omega
        · refine G_S (pc := 26) f_74_26 rfl rfl rfl ?_
          refine G_gIv (pc := 27) f_74_27 (by decide) rfl (by decide) (by first | assumption | exact hK.1 _ _ rfl) (by first | assumption | exact mI_s | ((refine mI_o (by first | decide | omega) ?_); (repeat (refine mI_o (by first | decide | omega) ?_)); first | exact mI_s | assumption) | rfl) ?_
          refine G_ic (v := nI 2) (pc := 30) f_74_30 (by decide) ?_
          refine G_jeqZ (pc := 31) f_74_31 rfl (by first | exact nI_toInt (by omega) | exact zI_toInt (by omega) (by omega) | rfl) (by first | exact nI_toInt (by omega) | exact zI_toInt (by omega) (by omega) | rfl) (fun b2 => ?_) (fun b2 => ?_)
          · refine G_S (pc := 36) f_74_36 rfl rfl rfl ?_
            refine G_gIv (pc := 37) f_74_37 (by decide) rfl (by decide) (by first | assumption | exact hK.1 _ _ rfl) (by first | assumption | exact mI_s | ((refine mI_o (by first | decide | omega) ?_); (repeat (refine mI_o (by first | decide | omega) ?_)); first | exact mI_s | assumption) | rfl) ?_
            refine G_S (pc := 40) f_74_40 rfl rfl rfl ?_
            refine G_S (pc := 43) f_74_43 rfl rfl rfl ?_
            refine G_ic (v := nI 2) (pc := 44) f_74_44 (by decide) ?_
            first | refine G_addN (pc := 45) f_74_45 ?_ | refine G_addZ (pc := 45) f_74_45 (by first | rfl | exact nI_zI _) (by first | rfl | exact nI_zI _) ?_ | refine G_S (pc := 45) f_74_45 rfl rfl rfl ?_
            refine G_ic (v := nI 2) (pc := 46) f_74_46 (by decide) ?_
            refine G_S (pc := 47) f_74_47 rfl rfl rfl ?_
            first | refine G_mulN (pc := 48) f_74_48 ?_ | refine G_mulZ (pc := 48) f_74_48 (by first | rfl | exact nI_zI _) (by first | rfl | exact nI_zI _) ?_ | refine G_S (pc := 48) f_74_48 rfl rfl rfl ?_
            first | refine G_addN (pc := 49) f_74_49 ?_ | refine G_addZ (pc := 49) f_74_49 (by first | rfl | exact nI_zI _) (by first | rfl | exact nI_zI _) ?_ | refine G_S (pc := 49) f_74_49 rfl rfl rfl ?_
            refine G_iacN (pc := 50) f_74_50 (con_none hM (by decide)) hC.2.1 (by omega) (by decide) hv2 ?_
            refine G_jltZ (pc := 51) f_74_51 rfl (by first | exact nI_toInt (by omega) | exact zI_toInt (by omega) (by omega) | rfl) (by first | exact nI_toInt (by omega) | exact zI_toInt (by omega) (by omega) | rfl) (fun b3 => ?_) (fun b3 => ?_)
            · refine G_S (pc := 72) f_74_72 rfl rfl rfl ?_
              refine G_ic (v := nI 2) (pc := 73) f_74_73 (by decide) ?_
              refine G_S (pc := 74) f_74_74 rfl rfl rfl ?_
              refine G_gIv (pc := 75) f_74_75 (by decide) rfl (by decide) (by first | assumption | exact hK.1 _ _ rfl) (by first | assumption | exact mI_s | ((refine mI_o (by first | decide | omega) ?_); (repeat (refine mI_o (by first | decide | omega) ?_)); first | exact mI_s | assumption) | rfl) ?_
              refine G_CV (pc := 78) f_74_78 rfl rfl (by decide) rfl rfl (by first | assumption | exact hK.1 _ _ rfl) (by decide) ⟨Nat.le_of_ble_eq_true rfl, Nat.le_of_ble_eq_true rfl⟩ ?_
              refine CG.mono (c_note hK hf1 (by decide) (by decide)) ?_
              rintro _ M2 ⟨rfl, hF2, hf2⟩
              first
                | (have hb : badB g i (vN t n p) = true := decide_eq_true (by omega)
                   refine nxt M2 (hF.tr (hF2.sub (by decide) (by decide))) (T1.fp hF2 (by decide) (by decide) (by decide) (by decide)) (by rw [hb]; exact hf2) ?_ (by rw [hF2.2.2 11 (by decide)]; exact t11)
                   unfold NBq
                   rw [(hF2.2.1 77 (by decide) (by decide)).1]
                   exact hN)
                | (have hb : badB g i (vN t n p) = false := decide_eq_false (by omega)
                   exact hok hb)
            · refine G_S (pc := 54) f_74_54 rfl rfl rfl ?_
              refine G_gIv (pc := 55) f_74_55 (by decide) rfl (by decide) (by first | assumption | exact hK.1 _ _ rfl) (by first | assumption | exact mI_s | ((refine mI_o (by first | decide | omega) ?_); (repeat (refine mI_o (by first | decide | omega) ?_)); first | exact mI_s | assumption) | rfl) ?_
              refine G_S (pc := 58) f_74_58 rfl rfl rfl ?_
              refine G_S (pc := 61) f_74_61 rfl rfl rfl ?_
              refine G_ic (v := nI 3) (pc := 62) f_74_62 (by decide) ?_
              first | refine G_addN (pc := 63) f_74_63 ?_ | refine G_addZ (pc := 63) f_74_63 (by first | rfl | exact nI_zI _) (by first | rfl | exact nI_zI _) ?_ | refine G_S (pc := 63) f_74_63 rfl rfl rfl ?_
              refine G_ic (v := nI 2) (pc := 64) f_74_64 (by decide) ?_
              refine G_S (pc := 65) f_74_65 rfl rfl rfl ?_
              first | refine G_mulN (pc := 66) f_74_66 ?_ | refine G_mulZ (pc := 66) f_74_66 (by first | rfl | exact nI_zI _) (by first | rfl | exact nI_zI _) ?_ | refine G_S (pc := 66) f_74_66 rfl rfl rfl ?_
              first | refine G_addN (pc := 67) f_74_67 ?_ | refine G_addZ (pc := 67) f_74_67 (by first | rfl | exact nI_zI _) (by first | rfl | exact nI_zI _) ?_ | refine G_S (pc := 67) f_74_67 rfl rfl rfl ?_
              refine G_iacN (pc := 68) f_74_68 (con_none hM (by decide)) hC.2.1 (by omega) (by decide) hv3 ?_
              refine G_jleZ (pc := 69) f_74_69 rfl (by first | exact nI_toInt (by omega) | exact zI_toInt (by omega) (by omega) | rfl) (by first | exact nI_toInt (by omega) | exact zI_toInt (by omega) (by omega) | rfl) (fun b4 => ?_) (fun b4 => ?_)
              · first
                  | (have hb : badB g i (vN t n p) = true := decide_eq_true (by omega)
                     refine nxt M2 (hF.tr (hF2.sub (by decide) (by decide))) (T1.fp hF2 (by decide) (by decide) (by decide) (by decide)) (by rw [hb]; exact hf2) ?_ (by rw [hF2.2.2 11 (by decide)]; exact t11)
                     unfold NBq
                     rw [(hF2.2.1 77 (by decide) (by decide)).1]
                     exact hN)
                  | (have hb : badB g i (vN t n p) = false := decide_eq_false (by omega)
                     exact hok hb)
              · refine G_S (pc := 72) f_74_72 rfl rfl rfl ?_
                refine G_ic (v := nI 2) (pc := 73) f_74_73 (by decide) ?_
                refine G_S (pc := 74) f_74_74 rfl rfl rfl ?_
                refine G_gIv (pc := 75) f_74_75 (by decide) rfl (by decide) (by first | assumption | exact hK.1 _ _ rfl) (by first | assumption | exact mI_s | ((refine mI_o (by first | decide | omega) ?_); (repeat (refine mI_o (by first | decide | omega) ?_)); first | exact mI_s | assumption) | rfl) ?_
                refine G_CV (pc := 78) f_74_78 rfl rfl (by decide) rfl rfl (by first | assumption | exact hK.1 _ _ rfl) (by decide) ⟨Nat.le_of_ble_eq_true rfl, Nat.le_of_ble_eq_true rfl⟩ ?_
                refine CG.mono (c_note hK hf1 (by decide) (by decide)) ?_
                rintro _ M2 ⟨rfl, hF2, hf2⟩
                first
                  | (have hb : badB g i (vN t n p) = true := decide_eq_true (by omega)
                     refine nxt M2 (hF.tr (hF2.sub (by decide) (by decide))) (T1.fp hF2 (by decide) (by decide) (by decide) (by decide)) (by rw [hb]; exact hf2) ?_ (by rw [hF2.2.2 11 (by decide)]; exact t11)
                     unfold NBq
                     rw [(hF2.2.1 77 (by decide) (by decide)).1]
                     exact hN)
                  | (have hb : badB g i (vN t n p) = false := decide_eq_false (by omega)
                     exact hok hb)
          · exfalso; omega
      · rw [if_neg hk]
        refine G_S (pc := 15) f_74_15 rfl rfl rfl ?_
        refine G_S (pc := 16) f_74_16 rfl rfl rfl ?_
        refine G_S (pc := 19) f_74_19 rfl rfl rfl ?_
        refine G_ic (v := nI 1) (pc := 20) f_74_20 (by decide) ?_
        first | refine G_addN (pc := 21) f_74_21 ?_ | refine G_addZ (pc := 21) f_74_21 (by first | rfl | exact nI_zI _) (by first | rfl | exact nI_zI _) ?_ | refine G_S (pc := 21) f_74_21 rfl rfl rfl ?_
        refine G_iacN (pc := 22) f_74_22 (con_none hM (by decide)) hC.2.1 (by omega) (by decide) hv1 ?_
        refine G_jgeZ (pc := 23) f_74_23 rfl (by first | exact nI_toInt (by omega) | exact zI_toInt (by omega) (by omega) | rfl) (by first | exact nI_toInt (by omega) | exact zI_toInt (by omega) (by omega) | rfl) (fun b1 => ?_) (fun b1 => ?_)
        · exfalso; omega
        · refine G_S (pc := 26) f_74_26 rfl rfl rfl ?_
          refine G_gIv (pc := 27) f_74_27 (by decide) rfl (by decide) (by first | assumption | exact hK.1 _ _ rfl) (by first | assumption | exact mI_s | ((refine mI_o (by first | decide | omega) ?_); (repeat (refine mI_o (by first | decide | omega) ?_)); first | exact mI_s | assumption) | rfl) ?_
          refine G_ic (v := nI 2) (pc := 30) f_74_30 (by decide) ?_
          refine G_jeqZ (pc := 31) f_74_31 rfl (by first | exact nI_toInt (by omega) | exact zI_toInt (by omega) (by omega) | rfl) (by first | exact nI_toInt (by omega) | exact zI_toInt (by omega) (by omega) | rfl) (fun b2 => ?_) (fun b2 => ?_)
          · exfalso; omega
          · refine G_ic (v := nI 0) (pc := 34) f_74_34 (by decide) ?_
            refine G_rz (pc := 35) f_74_35 (by first | exact Or.inl rfl | exact Or.inr rfl | exact b2i_01 _ | assumption) ?_
            exact ⟨hF, rfl, t10⟩
  have hK := W.1
  refine CG_in (mL := 4) (hl := false) (lv := [some (.ref 53), some (.int (nI g)), none, none]) (ll := []) rfl rfl rfl ?_
  refine G_S (pc := 0) f_74_0 rfl rfl rfl ?_
  refine G_bi (v := nI 6) (pc := 1) f_74_1 (by decide) ?_
  first | refine G_mulN (pc := 3) f_74_3 ?_ | refine G_mulZ (pc := 3) f_74_3 (by first | rfl | exact nI_zI _) (by first | rfl | exact nI_zI _) ?_ | refine G_S (pc := 3) f_74_3 rfl rfl rfl ?_
  refine G_S (pc := 4) f_74_4 rfl rfl rfl ?_
  refine G_S (pc := 5) f_74_5 rfl rfl rfl ?_
  refine G_gR (pc := 6) f_74_6 (by decide) rfl (by first | assumption | exact hK.1 _ _ rfl) (by first | assumption | exact hK.2 _ _ _ rfl | (try dsimp only) <;> (repeat (first | exact up2_s | refine up2_o (by first | decide | omega) ?_)) <;> first | assumption | exact hK.2 _ _ _ rfl) ?_
  refine G_ic (v := zI (-1)) (pc := 9) f_74_9 (by decide) ?_
  refine G_CS (pc := 10) f_74_10 rfl rfl (by decide) rfl rfl ⟨Nat.le_of_ble_eq_true rfl, Nat.le_of_ble_eq_true rfl⟩ ?_
  refine CG.mono (c_fill (n := 2) (hK.1 77 _ rfl) (by decide)) ?_
  rintro _ M3 ⟨rfl, e1, e2, e3, e4, f1⟩
  refine G_ic (v := nI 0) (pc := 13) f_74_13 (by decide) ?_
  refine G_S (pc := 14) f_74_14 rfl rfl rfl ?_
  have hF3 : Fp 53 [77] NTk M M3 := ⟨⟨e1, e3⟩, fun i h hi => ⟨e4 i (fun q => hi (by rw [q]; decide)), by rw [e2]⟩, fun k _ => by rw [e4 53 (by decide)]⟩
  refine loop (fmN g 1) 0 (by omega) p2 f M3 hF3 ?_ ?_ hp ⟨f1 0 (by decide), f1 1 (by decide)⟩ rfl
  · unfold TCk
    rw [e4 53 (by decide)]
    exact T
  · unfold FRd
    rw [e4 53 (by decide)]
    exact hf
end CRD
