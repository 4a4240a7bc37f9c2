/-! the class's tram: sharing, going, deeds -/
section CEV
variable {C : Ct} {M : Mm} {a i j n : Nat} {b : Nat → Nat}
theorem c_evenOut (hT : M.1[a]? = some (50, 8)) (hn : n ≤ 8) (hi : i < n) (hj : j < n) (hq : ∀ r, r < n → M.2.1 a r = nI (b r)) (hb : ∀ r, r < n → b r ≤ 99) : CG C 187 [.ref a, .int (nI i), .int (nI j)] M (fun w M' => w = none ∧ Fc [a] M M' ∧ M'.2.2.2 = M.2.2.2 ∧ ∀ r, r < n → M'.2.1 a r = nI (evO b i j r)) := by
  have q1 := hq i hi
  have q2 := hq j hj
  have hbi := hb i hi
  have hbj := hb j hj
  have hm : a ∈ [a] := List.mem_singleton.mpr rfl
  refine CG_in (mL := 4) (hl := false) (lv := [some (.ref a), some (.int (nI i)), some (.int (nI j)), none]) (ll := []) rfl rfl rfl ?_
  refine G_S (pc := 0) f_187_0 rfl rfl rfl ?_
  refine G_S (pc := 1) f_187_1 rfl rfl rfl ?_
  refine G_iaN (pc := 2) f_187_2 (by first | assumption | exact hK.1 _ _ rfl) (by omega) (by omega) (by first | assumption | exact q1 _ (by omega) | exact q2 _ (by omega) | exact q3 _ (by omega) | exact q4 _ (by omega) | exact q5 _ (by omega) | exact vh _ (by omega) | exact (vr _ (by omega)).1 | exact (vr _ (by omega)).2 | exact vw _ (by omega) | exact vf _ (by omega) (by omega) | exact mI_s | ((refine mI_o (by first | decide | omega) ?_); (repeat (refine mI_o (by first | decide | omega) ?_)); first | exact mI_s | assumption | exact q1 _ (by omega) | exact q2 _ (by omega) | exact q3 _ (by omega) | exact q4 _ (by omega) | exact q5 _ (by omega) | exact vh _ (by omega) | exact (vr _ (by omega)).1 | exact (vr _ (by omega)).2 | exact vw _ (by omega) | exact vf _ (by omega) (by omega)) | rfl) ?_
  refine G_S (pc := 3) f_187_3 rfl rfl rfl ?_
  refine G_S (pc := 4) f_187_4 rfl rfl rfl ?_
  refine G_iaN (pc := 5) f_187_5 (by first | assumption | exact hK.1 _ _ rfl) (by omega) (by omega) (by first | assumption | exact q1 _ (by omega) | exact q2 _ (by omega) | exact q3 _ (by omega) | exact q4 _ (by omega) | exact q5 _ (by omega) | exact vh _ (by omega) | exact (vr _ (by omega)).1 | exact (vr _ (by omega)).2 | exact vw _ (by omega) | exact vf _ (by omega) (by omega) | exact mI_s | ((refine mI_o (by first | decide | omega) ?_); (repeat (refine mI_o (by first | decide | omega) ?_)); first | exact mI_s | assumption | exact q1 _ (by omega) | exact q2 _ (by omega) | exact q3 _ (by omega) | exact q4 _ (by omega) | exact q5 _ (by omega) | exact vh _ (by omega) | exact (vr _ (by omega)).1 | exact (vr _ (by omega)).2 | exact vw _ (by omega) | exact vf _ (by omega) (by omega)) | rfl) ?_
  refine G_S (pc := 6) f_187_6 rfl rfl rfl ?_
  refine G_S (pc := 7) f_187_7 rfl rfl rfl ?_
  rw [show nI (b i) - nI (b j) = zI ((b i : Int) - (b j : Int)) by rw [nI_zI, nI_zI, zI_sub]]
  refine G_S (pc := 8) f_187_8 rfl rfl rfl ?_
  refine G_ic (v := nI 2) (pc := 9) f_187_9 (by decide) ?_
  refine G_jltZ (pc := 10) f_187_10 rfl (by first | exact nI_toInt (by omega) | exact zI_toInt (by omega) (by omega) | rfl) (by first | exact nI_toInt (by omega) | exact zI_toInt (by omega) (by omega) | rfl) (fun b1 => ?_) (fun b1 => ?_)
  · refine G_S (pc := 30) f_187_30 rfl rfl rfl ?_
    refine G_bi (v := zI (-2)) (pc := 31) f_187_31 (by decide) ?_
    refine G_jgtZ (pc := 33) f_187_33 rfl (by first | exact nI_toInt (by omega) | exact zI_toInt (by omega) (by omega) | rfl) (by first | exact nI_toInt (by omega) | exact zI_toInt (by omega) (by omega) | rfl) (fun b2 => ?_) (fun b2 => ?_)
    · refine G_rv (pc := 50) f_187_50 ?_
      first
        | (refine ⟨rfl, (Fc.up (i := a) (k := i) (x := nI (b i - 1)) hm).tr (Fc.up (i := a) (k := j) (x := nI (b j + 1)) hm), rfl, fun r hr => ?_⟩
           unfold evO
           rw [if_pos (by omega)]
           by_cases e1 : r = j
           · subst e1
             rw [up1_s]
             exact (by (try dsimp only); exact up2_s)
           · rw [up1_o e1 rfl]
             by_cases e2 : r = i
             · subst e2
               rw [up1_s]
               exact (by (try dsimp only); exact up2_o (by omega) (by (try dsimp only); exact up2_s))
             · rw [up1_o e2 rfl]
               exact (by (try dsimp only); exact up2_o (by omega) (by (try dsimp only); exact up2_o (by omega) (hq r hr))))
        | (refine ⟨rfl, (Fc.up (i := a) (k := i) (x := nI (b i + 1)) hm).tr (Fc.up (i := a) (k := j) (x := nI (b j - 1)) hm), rfl, fun r hr => ?_⟩
           unfold evO
           rw [if_neg (by omega), if_pos (by omega)]
           by_cases e1 : r = j
           · subst e1
             rw [up1_s]
             exact (by (try dsimp only); exact up2_s)
           · rw [up1_o e1 rfl]
             by_cases e2 : r = i
             · subst e2
               rw [up1_s]
               exact (by (try dsimp only); exact up2_o (by omega) (by (try dsimp only); exact up2_s))
             · rw [up1_o e2 rfl]
               exact (by (try dsimp only); exact up2_o (by omega) (by (try dsimp only); exact up2_o (by omega) (hq r hr))))
        | (refine ⟨rfl, Fc.rf, rfl, fun r hr => ?_⟩
           unfold evO
           rw [if_neg (by omega), if_neg (by omega)]
           exact hq r hr)
    · have hne : j ≠ i := fun q => by subst q; omega
      refine G_S (pc := 36) f_187_36 rfl rfl rfl ?_
      refine G_S (pc := 37) f_187_37 rfl rfl rfl ?_
      refine G_S (pc := 38) f_187_38 rfl rfl rfl ?_
      refine G_iaN (pc := 39) f_187_39 (by first | assumption | exact hK.1 _ _ rfl) (by omega) (by omega) (by first | assumption | exact q1 _ (by omega) | exact q2 _ (by omega) | exact q3 _ (by omega) | exact q4 _ (by omega) | exact q5 _ (by omega) | exact vh _ (by omega) | exact (vr _ (by omega)).1 | exact (vr _ (by omega)).2 | exact vw _ (by omega) | exact vf _ (by omega) (by omega) | exact mI_s | ((refine mI_o (by first | decide | omega) ?_); (repeat (refine mI_o (by first | decide | omega) ?_)); first | exact mI_s | assumption | exact q1 _ (by omega) | exact q2 _ (by omega) | exact q3 _ (by omega) | exact q4 _ (by omega) | exact q5 _ (by omega) | exact vh _ (by omega) | exact (vr _ (by omega)).1 | exact (vr _ (by omega)).2 | exact vw _ (by omega) | exact vf _ (by omega) (by omega)) | rfl) ?_
      refine G_ic (v := nI 1) (pc := 40) f_187_40 (by decide) ?_
      first | refine G_addN (pc := 41) f_187_41 ?_ | refine G_addZ (pc := 41) f_187_41 (by first | rfl | exact nI_zI _) (by first | rfl | exact nI_zI _) ?_ | refine G_S (pc := 41) f_187_41 rfl rfl rfl ?_
      refine G_isN (pc := 42) f_187_42 (by first | assumption | exact hK.1 _ _ rfl) (by omega) (by omega) ?_
      refine G_S (pc := 43) f_187_43 rfl rfl rfl ?_
      refine G_S (pc := 44) f_187_44 rfl rfl rfl ?_
      refine G_S (pc := 45) f_187_45 rfl rfl rfl ?_
      refine G_iaN (pc := 46) f_187_46 (by first | assumption | exact hK.1 _ _ rfl) (by omega) (by omega) (by first | exact (mI_o (by omega) q2) | rfl) ?_
      refine G_ic (v := nI 1) (pc := 47) f_187_47 (by decide) ?_
      first | refine G_subN (pc := 48) f_187_48 (by omega) ?_ | refine G_subZ (pc := 48) f_187_48 (by first | rfl | exact nI_zI _) (by first | rfl | exact nI_zI _) ?_ | refine G_S (pc := 48) f_187_48 rfl rfl rfl ?_
      refine G_isN (pc := 49) f_187_49 (by first | assumption | exact hK.1 _ _ rfl) (by omega) (by omega) ?_
      refine G_rv (pc := 50) f_187_50 ?_
      first
        | (refine ⟨rfl, (Fc.up (i := a) (k := i) (x := nI (b i - 1)) hm).tr (Fc.up (i := a) (k := j) (x := nI (b j + 1)) hm), rfl, fun r hr => ?_⟩
           unfold evO
           rw [if_pos (by omega)]
           by_cases e1 : r = j
           · subst e1
             rw [up1_s]
             exact (by (try dsimp only); exact up2_s)
           · rw [up1_o e1 rfl]
             by_cases e2 : r = i
             · subst e2
               rw [up1_s]
               exact (by (try dsimp only); exact up2_o (by omega) (by (try dsimp only); exact up2_s))
             · rw [up1_o e2 rfl]
               exact (by (try dsimp only); exact up2_o (by omega) (by (try dsimp only); exact up2_o (by omega) (hq r hr))))
        | (refine ⟨rfl, (Fc.up (i := a) (k := i) (x := nI (b i + 1)) hm).tr (Fc.up (i := a) (k := j) (x := nI (b j - 1)) hm), rfl, fun r hr => ?_⟩
           unfold evO
           rw [if_neg (by omega), if_pos (by omega)]
           by_cases e1 : r = j
           · subst e1
             rw [up1_s]
             exact (by (try dsimp only); exact up2_s)
           · rw [up1_o e1 rfl]
             by_cases e2 : r = i
             · subst e2
               rw [up1_s]
               exact (by (try dsimp only); exact up2_o (by omega) (by (try dsimp only); exact up2_s))
             · rw [up1_o e2 rfl]
               exact (by (try dsimp only); exact up2_o (by omega) (by (try dsimp only); exact up2_o (by omega) (hq r hr))))
        | (refine ⟨rfl, Fc.rf, rfl, fun r hr => ?_⟩
           unfold evO
           rw [if_neg (by omega), if_neg (by omega)]
           exact hq r hr)
  · have hne : j ≠ i := fun q => by subst q; omega
    refine G_S (pc := 13) f_187_13 rfl rfl rfl ?_
    refine G_S (pc := 14) f_187_14 rfl rfl rfl ?_
    refine G_S (pc := 15) f_187_15 rfl rfl rfl ?_
    refine G_iaN (pc := 16) f_187_16 (by first | assumption | exact hK.1 _ _ rfl) (by omega) (by omega) (by first | assumption | exact q1 _ (by omega) | exact q2 _ (by omega) | exact q3 _ (by omega) | exact q4 _ (by omega) | exact q5 _ (by omega) | exact vh _ (by omega) | exact (vr _ (by omega)).1 | exact (vr _ (by omega)).2 | exact vw _ (by omega) | exact vf _ (by omega) (by omega) | exact mI_s | ((refine mI_o (by first | decide | omega) ?_); (repeat (refine mI_o (by first | decide | omega) ?_)); first | exact mI_s | assumption | exact q1 _ (by omega) | exact q2 _ (by omega) | exact q3 _ (by omega) | exact q4 _ (by omega) | exact q5 _ (by omega) | exact vh _ (by omega) | exact (vr _ (by omega)).1 | exact (vr _ (by omega)).2 | exact vw _ (by omega) | exact vf _ (by omega) (by omega)) | rfl) ?_
    refine G_ic (v := nI 1) (pc := 17) f_187_17 (by decide) ?_
    first | refine G_subN (pc := 18) f_187_18 (by omega) ?_ | refine G_subZ (pc := 18) f_187_18 (by first | rfl | exact nI_zI _) (by first | rfl | exact nI_zI _) ?_ | refine G_S (pc := 18) f_187_18 rfl rfl rfl ?_
    refine G_isN (pc := 19) f_187_19 (by first | assumption | exact hK.1 _ _ rfl) (by omega) (by omega) ?_
    refine G_S (pc := 20) f_187_20 rfl rfl rfl ?_
    refine G_S (pc := 21) f_187_21 rfl rfl rfl ?_
    refine G_S (pc := 22) f_187_22 rfl rfl rfl ?_
    refine G_iaN (pc := 23) f_187_23 (by first | assumption | exact hK.1 _ _ rfl) (by omega) (by omega) (by first | exact (mI_o (by omega) q2) | rfl) ?_
    refine G_ic (v := nI 1) (pc := 24) f_187_24 (by decide) ?_
    first | refine G_addN (pc := 25) f_187_25 ?_ | refine G_addZ (pc := 25) f_187_25 (by first | rfl | exact nI_zI _) (by first | rfl | exact nI_zI _) ?_ | refine G_S (pc := 25) f_187_25 rfl rfl rfl ?_
    refine G_isN (pc := 26) f_187_26 (by first | assumption | exact hK.1 _ _ rfl) (by omega) (by omega) ?_
    refine G_S (pc := 27) f_187_27 rfl rfl rfl ?_
    refine G_rv (pc := 50) f_187_50 ?_
    first
      | (refine ⟨rfl, (Fc.up (i := a) (k := i) (x := nI (b i - 1)) hm).tr (Fc.up (i := a) (k := j) (x := nI (b j + 1)) hm), rfl, fun r hr => ?_⟩
         unfold evO
         rw [if_pos (by omega)]
         by_cases e1 : r = j
         · subst e1
           rw [up1_s]
           exact (by (try dsimp only); exact up2_s)
         · rw [up1_o e1 rfl]
           by_cases e2 : r = i
           · subst e2
             rw [up1_s]
             exact (by (try dsimp only); exact up2_o (by omega) (by (try dsimp only); exact up2_s))
           · rw [up1_o e2 rfl]
             exact (by (try dsimp only); exact up2_o (by omega) (by (try dsimp only); exact up2_o (by omega) (hq r hr))))
      | (refine ⟨rfl, (Fc.up (i := a) (k := i) (x := nI (b i + 1)) hm).tr (Fc.up (i := a) (k := j) (x := nI (b j - 1)) hm), rfl, fun r hr => ?_⟩
         unfold evO
         rw [if_neg (by omega), if_pos (by omega)]
         by_cases e1 : r = j
         · subst e1
           rw [up1_s]
           exact (by (try dsimp only); exact up2_s)
         · rw [up1_o e1 rfl]
           by_cases e2 : r = i
           · subst e2
             rw [up1_s]
             exact (by (try dsimp only); exact up2_o (by omega) (by (try dsimp only); exact up2_s))
           · rw [up1_o e2 rfl]
             exact (by (try dsimp only); exact up2_o (by omega) (by (try dsimp only); exact up2_o (by omega) (hq r hr))))
      | (refine ⟨rfl, Fc.rf, rfl, fun r hr => ?_⟩
         unfold evO
         rw [if_neg (by omega), if_neg (by omega)]
         exact hq r hr)
end CEV
section CTS
variable {C : Ct} {M : Mm} {h k : Nat} {D : Nat → Nat} {S : Nat → Int} {b : Nat → Nat} {x y : Int32}
theorem t_isRiderZ {z : Int} (W : TW M h D k S b) (h1 : -1000 ≤ z) (h2 : z ≤ 1000) : CG C 109 [.ref 78, .int (zI z)] M (fun w M' => w = some (.int (b2i (0 ≤ z ∧ z < (D 2 : Int)))) ∧ M' = M) := by
  have e : (zI z).toInt = z := zI_toInt (by omega) (by omega)
  have := t_isRider (C := C) (x := zI z) W
  rw [e] at this
  exact this
theorem shN_le (hn : ∀ r, r < D 2 → b r ≤ 99) (hs : ∀ s, s < 6 → -1 ≤ S (30 + s) ∧ S (30 + s) < (D 2 : Int)) : ∀ n, n ≤ 5 → ∀ r, r < D 2 → shN S b n r ≤ 99
  | 0, _ => hn
  | n + 1, h => by
    have ih := shN_le hn hs n (by omega)
    have h1 := hs n (by omega)
    have h2 := hs (n + 1) (by omega)
    rw [shN]
    split
    · exact evO_le (by omega) (by omega) ih
    · exact ih
theorem t_share (W : TW M h D k S b) : CG C 116 [.ref 78] M (fun w M' => w = none ∧ Fk M M' ∧ TW M' h D k S (shN S b (D 1 - 1))) := by
  have hO := W.2.2.2.2.2.2
  have hsl := shN_le (D := D) (S := S) (b := b) (fun r hr => (hO.2.2.2.2.2.1 r hr).2) hO.2.2.2.2.2.2
  have loop : ∀ i, i ≤ D 1 - 1 → ∀ M1 c d, Fc [79] M M1 → TW M1 h D k S (shN S b i) → G C 116 (2, [some (.ref 78), some (.int (nI i)), c, d], [], [], M1) (fun w M' => w = none ∧ Fk M M' ∧ TW M' h D k S (shN S b (D 1 - 1))) := by
    refine upto (fun i hi ih M1 c d hF W1 => ?_)
    have W_ := W1.1
    have hK := W_.1
    obtain ⟨⟨t0, t1, t2, t3, t4, t5, t6⟩, r0, r3, r4, r6, r7, r8⟩ := W_.2.1
    obtain ⟨hD, ⟨v0, v1, v2⟩, vh, vr, vw, vf⟩ := W_.2.2.1
    have hs := W_.2.2.2.1
    have hh := W_.2.2.2.2
    have hn0 : _ ≤ 8 := hD.1
    have hn1 : _ ≤ 6 := hD.2.1.2
    have hn2 : _ ≤ 8 := hD.2.2.1
    obtain ⟨rl, ⟨s0, s1, s2, s3⟩, q1, q2, q3, hO⟩ := W1.2
    obtain ⟨o0, o1, o2, o3, o4, o5, o6⟩ := hO
    have hd1 := hD.2.1.1
    have ha1 : i + 1 < D 1 → -1 ≤ S (30 + i) ∧ S (30 + i) < (D 2 : Int) := fun q => o6 i (by omega)
    have ha2 : i + 1 < D 1 → -1 ≤ S (30 + (i + 1)) ∧ S (30 + (i + 1)) < (D 2 : Int) := fun q => o6 (i + 1) (by omega)
    refine G_S (pc := 2) f_116_2 rfl rfl rfl ?_
    refine G_ic (v := nI 1) (pc := 3) f_116_3 (by decide) ?_
    first | refine G_addN (pc := 4) f_116_4 ?_ | refine G_addZ (pc := 4) f_116_4 (by first | rfl | exact nI_zI _) (by first | rfl | exact nI_zI _) ?_ | refine G_S (pc := 4) f_116_4 rfl rfl rfl ?_
    refine G_S (pc := 5) f_116_5 rfl rfl rfl ?_
    refine G_gR (pc := 6) f_116_6 (by decide) rfl (by first | assumption | exact hK.1 _ _ rfl) (by first | assumption | exact hK.2 _ _ _ rfl | (try dsimp only) <;> (repeat (first | exact up2_s | refine up2_o (by first | decide | omega) ?_)) <;> first | assumption | exact hK.2 _ _ _ rfl) ?_
    refine G_gIv (pc := 9) f_116_9 (by decide) rfl (by decide) (by first | assumption | exact hK.1 _ _ rfl) (by first | assumption | exact mI_s | ((refine mI_o (by first | decide | omega) ?_); (repeat (refine mI_o (by first | decide | omega) ?_)); first | exact mI_s | assumption) | rfl) ?_
    refine G_jgeZ (pc := 12) f_116_12 rfl (by first | exact nI_toInt (by omega) | exact zI_toInt (by omega) (by omega) | rfl) (by first | exact nI_toInt (by omega) | exact zI_toInt (by omega) (by omega) | rfl) (fun b1 => ?_) (fun b1 => ?_)
    · refine G_rv (pc := 62) f_116_62 ?_
      rw [show D 1 - 1 = i by omega]
      exact ⟨rfl, Fk.of hF, W1⟩
    · have ha1 := ha1 (by omega)
      have ha2 := ha2 (by omega)
      refine G_S (pc := 15) f_116_15 rfl rfl rfl ?_
      refine G_gR (pc := 16) f_116_16 (by decide) rfl (by first | assumption | exact hK.1 _ _ rfl) (by first | assumption | exact hK.2 _ _ _ rfl | (try dsimp only) <;> (repeat (first | exact up2_s | refine up2_o (by first | decide | omega) ?_)) <;> first | assumption | exact hK.2 _ _ _ rfl) ?_
      refine G_S (pc := 19) f_116_19 rfl rfl rfl ?_
      refine G_iaN (pc := 20) f_116_20 (by first | assumption | exact hK.1 _ _ rfl) (by omega) (by omega) (by first | assumption | exact q1 _ (by omega) | exact q2 _ (by omega) | exact q3 _ (by omega) | exact q4 _ (by omega) | exact q5 _ (by omega) | exact vh _ (by omega) | exact (vr _ (by omega)).1 | exact (vr _ (by omega)).2 | exact vw _ (by omega) | exact vf _ (by omega) (by omega) | exact mI_s | ((refine mI_o (by first | decide | omega) ?_); (repeat (refine mI_o (by first | decide | omega) ?_)); first | exact mI_s | assumption | exact q1 _ (by omega) | exact q2 _ (by omega) | exact q3 _ (by omega) | exact q4 _ (by omega) | exact q5 _ (by omega) | exact vh _ (by omega) | exact (vr _ (by omega)).1 | exact (vr _ (by omega)).2 | exact vw _ (by omega) | exact vf _ (by omega) (by omega)) | rfl) ?_
      refine G_S (pc := 21) f_116_21 rfl rfl rfl ?_
      refine G_S (pc := 22) f_116_22 rfl rfl rfl ?_
      refine G_gR (pc := 23) f_116_23 (by decide) rfl (by first | assumption | exact hK.1 _ _ rfl) (by first | assumption | exact hK.2 _ _ _ rfl | (try dsimp only) <;> (repeat (first | exact up2_s | refine up2_o (by first | decide | omega) ?_)) <;> first | assumption | exact hK.2 _ _ _ rfl) ?_
      refine G_S (pc := 26) f_116_26 rfl rfl rfl ?_
      refine G_ic (v := nI 1) (pc := 27) f_116_27 (by decide) ?_
      first | refine G_addN (pc := 28) f_116_28 ?_ | refine G_addZ (pc := 28) f_116_28 (by first | rfl | exact nI_zI _) (by first | rfl | exact nI_zI _) ?_ | refine G_S (pc := 28) f_116_28 rfl rfl rfl ?_
      refine G_iaN (pc := 29) f_116_29 (by first | assumption | exact hK.1 _ _ rfl) (by omega) (by omega) (by first | assumption | exact q1 _ (by omega) | exact q2 _ (by omega) | exact q3 _ (by omega) | exact q4 _ (by omega) | exact q5 _ (by omega) | exact vh _ (by omega) | exact (vr _ (by omega)).1 | exact (vr _ (by omega)).2 | exact vw _ (by omega) | exact vf _ (by omega) (by omega) | exact mI_s | ((refine mI_o (by first | decide | omega) ?_); (repeat (refine mI_o (by first | decide | omega) ?_)); first | exact mI_s | assumption | exact q1 _ (by omega) | exact q2 _ (by omega) | exact q3 _ (by omega) | exact q4 _ (by omega) | exact q5 _ (by omega) | exact vh _ (by omega) | exact (vr _ (by omega)).1 | exact (vr _ (by omega)).2 | exact vw _ (by omega) | exact vf _ (by omega) (by omega)) | rfl) ?_
      refine G_S (pc := 30) f_116_30 rfl rfl rfl ?_
      refine G_S (pc := 31) f_116_31 rfl rfl rfl ?_
      refine G_S (pc := 32) f_116_32 rfl rfl rfl ?_
      refine G_CV (pc := 33) f_116_33 rfl rfl (by decide) rfl rfl (by first | assumption | exact hK.1 _ _ rfl) (by decide) ⟨Nat.le_of_ble_eq_true rfl, Nat.le_of_ble_eq_true rfl⟩ ?_
      refine CG.go (t_isRiderZ W1 (by omega) (by omega)) ?_
      first | refine G_bEq (pc := 36) f_116_36 rfl (fun b2 => ?_) (fun b2 => ?_) | refine G_zeqZ (pc := 36) f_116_36 rfl (by first | exact nI_toInt (by omega) | exact zI_toInt (by omega) (by omega) | rfl) (fun b2 => ?_) (fun b2 => ?_)
      · first | refine G_inc1 (pc := 56) f_116_56 rfl ?_ | refine G_S (pc := 56) f_116_56 rfl rfl rfl ?_
        refine G_S (pc := 59) f_116_59 rfl rfl rfl ?_
        first
          | (refine ih (by omega) M1 _ _ hF ?_
             rw [shN, if_neg (by omega)]
             exact W1)
          | (have es : shN S b (i + 1) = evO (shN S b i) u v := by
               rw [shN, if_pos (by omega), hu, hv, Int.toNat_natCast, Int.toNat_natCast]
             refine ih (by omega) M2 _ _ (hF.tr hF2) (W1.oz hF2 (fun r hr => ?_) (hsl (i + 1) (by omega)))
             rw [es]
             exact e4 r hr)
      · refine G_S (pc := 39) f_116_39 rfl rfl rfl ?_
        refine G_S (pc := 40) f_116_40 rfl rfl rfl ?_
        refine G_CV (pc := 41) f_116_41 rfl rfl (by decide) rfl rfl (by first | assumption | exact hK.1 _ _ rfl) (by decide) ⟨Nat.le_of_ble_eq_true rfl, Nat.le_of_ble_eq_true rfl⟩ ?_
        refine CG.go (t_isRiderZ W1 (by omega) (by omega)) ?_
        first | refine G_bEq (pc := 44) f_116_44 rfl (fun b3 => ?_) (fun b3 => ?_) | refine G_zeqZ (pc := 44) f_116_44 rfl (by first | exact nI_toInt (by omega) | exact zI_toInt (by omega) (by omega) | rfl) (fun b3 => ?_) (fun b3 => ?_)
        · first | refine G_inc1 (pc := 56) f_116_56 rfl ?_ | refine G_S (pc := 56) f_116_56 rfl rfl rfl ?_
          refine G_S (pc := 59) f_116_59 rfl rfl rfl ?_
          first
            | (refine ih (by omega) M1 _ _ hF ?_
               rw [shN, if_neg (by omega)]
               exact W1)
            | (have es : shN S b (i + 1) = evO (shN S b i) u v := by
                 rw [shN, if_pos (by omega), hu, hv, Int.toNat_natCast, Int.toNat_natCast]
               refine ih (by omega) M2 _ _ (hF.tr hF2) (W1.oz hF2 (fun r hr => ?_) (hsl (i + 1) (by omega)))
               rw [es]
               exact e4 r hr)
        · obtain ⟨u, hu⟩ : ∃ u : Nat, S (30 + i) = (u : Int) := ⟨(S (30 + i)).toNat, by omega⟩
          obtain ⟨v, hv⟩ : ∃ v : Nat, S (30 + (i + 1)) = (v : Int) := ⟨(S (30 + (i + 1))).toNat, by omega⟩
          rw [show zI (S (30 + i)) = nI u by rw [hu, nI_zI], show zI (S (30 + (i + 1))) = nI v by rw [hv, nI_zI]]
          refine G_S (pc := 47) f_116_47 rfl rfl rfl ?_
          refine G_gR (pc := 48) f_116_48 (by decide) rfl (by first | assumption | exact hK.1 _ _ rfl) (by first | assumption | exact hK.2 _ _ _ rfl | (try dsimp only) <;> (repeat (first | exact up2_s | refine up2_o (by first | decide | omega) ?_)) <;> first | assumption | exact hK.2 _ _ _ rfl) ?_
          refine G_S (pc := 51) f_116_51 rfl rfl rfl ?_
          refine G_S (pc := 52) f_116_52 rfl rfl rfl ?_
          refine G_CS (pc := 53) f_116_53 rfl rfl (by decide) rfl rfl ⟨Nat.le_of_ble_eq_true rfl, Nat.le_of_ble_eq_true rfl⟩ ?_
          refine CG.mono (c_evenOut (n := D 2) (hK.1 79 _ rfl) hn2 (by omega) (by omega) q1 (hsl i (by omega))) ?_
          rintro _ M2 ⟨rfl, hF2, e3, e4⟩
          first | refine G_inc1 (pc := 56) f_116_56 rfl ?_ | refine G_S (pc := 56) f_116_56 rfl rfl rfl ?_
          refine G_S (pc := 59) f_116_59 rfl rfl rfl ?_
          first
            | (refine ih (by omega) M1 _ _ hF ?_
               rw [shN, if_neg (by omega)]
               exact W1)
            | (have es : shN S b (i + 1) = evO (shN S b i) u v := by
                 rw [shN, if_pos (by omega), hu, hv, Int.toNat_natCast, Int.toNat_natCast]
               refine ih (by omega) M2 _ _ (hF.tr hF2) (W1.oz hF2 (fun r hr => ?_) (hsl (i + 1) (by omega)))
               rw [es]
               exact e4 r hr)
  have W_ := W.1
  have hK := W_.1
  obtain ⟨⟨t0, t1, t2, t3, t4, t5, t6⟩, r0, r3, r4, r6, r7, r8⟩ := W_.2.1
  obtain ⟨hD, ⟨v0, v1, v2⟩, vh, vr, vw, vf⟩ := W_.2.2.1
  have hs := W_.2.2.2.1
  have hh := W_.2.2.2.2
  have hn0 : _ ≤ 8 := hD.1
  have hn1 : _ ≤ 6 := hD.2.1.2
  have hn2 : _ ≤ 8 := hD.2.2.1
  obtain ⟨rl, ⟨s0, s1, s2, s3⟩, q1, q2, q3, hO⟩ := W.2
  obtain ⟨o0, o1, o2, o3, o4, o5, o6⟩ := hO
  refine CG_in (mL := 4) (hl := false) (lv := [some (.ref 78), none, none, none]) (ll := []) rfl rfl rfl ?_
  refine G_ic (v := nI 0) (pc := 0) f_116_0 (by decide) ?_
  refine G_S (pc := 1) f_116_1 rfl rfl rfl ?_
  exact loop 0 (Nat.zero_le _) M _ _ Fc.rf W
/-- fields changed alone -/
theorem TW.fd {M1 : Mm} {k' : Nat} {S' : Nat → Int} (W : TW M h D k S b) (hF : Fc [78] M M1) (hr : M1.2.2.2 = M.2.2.2) (hs : M1.2.1 78 1 = zI (S' 0) ∧ M1.2.1 78 2 = zI (S' 1) ∧ M1.2.1 78 3 = zI (S' 2) ∧ M1.2.1 78 4 = zI (S' 3)) (e : ∀ j, 20 ≤ j → S' j = S j) (hO : TOK D k' S' b) : TW M1 h D k' S' b := by
  obtain ⟨W_, rl, _, q1, q2, q3, _⟩ := W
  refine ⟨W_.fc hF (by decide), by rw [hr]; exact rl, hs, ?_, fun r hr => ?_, fun s hs => ?_, hO⟩
  · rw [(hF.2.2 79 (by decide)).1]
    exact q1
  · rw [(hF.2.2 80 (by decide)).1, e _ (by omega)]
    exact q2 r hr
  · rw [(hF.2.2 81 (by decide)).1, e _ (by omega)]
    exact q3 s hs
def clS (S : Nat → Int) : Nat → Int := up1 (up1 S 0 (S 0 + 1)) 3 (S 3 + 1)
def slS (S : Nat → Int) : Nat → Int := if S 2 = -1 then up1 (up1 S 1 (S 1 + 1)) 2 (S 0) else up1 S 1 (S 1 + 1)
def bkS (S : Nat → Int) : Nat → Int := up1 S 0 0
theorem wrT_le (hb : ∀ r, r < D 2 → b r ≤ 99) : ∀ r, r < D 2 → wrT D S b r ≤ 99 := by
  intro r hr
  have := hb r hr
  unfold wrT
  split <;> omega
theorem TOK.cl (h : TOK D k S b) (hlt : S 0 < (D 0 : Int)) : TOK D (k + 1) (clS S) b := by
  obtain ⟨o0, o1, o2, o3, o4, o5, o6⟩ := h
  have e0 : clS S 0 = S 0 + 1 := up1_o (by decide) up1_s
  have e1 : clS S 1 = S 1 := up1_o (by decide) (up1_o (by decide) rfl)
  have e2 : clS S 2 = S 2 := up1_o (by decide) (up1_o (by decide) rfl)
  have e3 : clS S 3 = S 3 + 1 := up1_s
  have e : ∀ j, 20 ≤ j → clS S j = S j := fun j hj => up1_o (by omega) (up1_o (by omega) rfl)
  refine ⟨by rw [e0]; omega, by rw [e1]; omega, by rw [e2]; exact o2, by rw [e3]; omega, by rw [e1, e2]; exact o4, fun r hr => by rw [e _ (by omega)]; exact o5 r hr, fun s hs => by rw [e _ (by omega)]; exact o6 s hs⟩
theorem TOK.sl (h : TOK D k S b) (h8 : D 0 ≤ 8) : TOK D (k + 1) (slS S) b := by
  obtain ⟨o0, o1, o2, o3, o4, o5, o6⟩ := h
  unfold slS
  split
  · rename_i hz
    have e0 : up1 (up1 S 1 (S 1 + 1)) 2 (S 0) 0 = S 0 := up1_o (by decide) (up1_o (by decide) rfl)
    have e1 : up1 (up1 S 1 (S 1 + 1)) 2 (S 0) 1 = S 1 + 1 := up1_o (by decide) up1_s
    have e2 : up1 (up1 S 1 (S 1 + 1)) 2 (S 0) 2 = S 0 := up1_s
    have e3 : up1 (up1 S 1 (S 1 + 1)) 2 (S 0) 3 = S 3 := up1_o (by decide) (up1_o (by decide) rfl)
    have e : ∀ j, 20 ≤ j → up1 (up1 S 1 (S 1 + 1)) 2 (S 0) j = S j := fun j hj => up1_o (by omega) (up1_o (by omega) rfl)
    refine ⟨by rw [e0]; exact o0, by rw [e1]; omega, by rw [e2]; omega, by rw [e3]; omega, by rw [e1, e2]; omega, fun r hr => by rw [e _ (by omega)]; exact o5 r hr, fun s hs => by rw [e _ (by omega)]; exact o6 s hs⟩
  · rename_i hz
    have e0 : up1 S 1 (S 1 + 1) 0 = S 0 := up1_o (by decide) rfl
    have e1 : up1 S 1 (S 1 + 1) 1 = S 1 + 1 := up1_s
    have e2 : up1 S 1 (S 1 + 1) 2 = S 2 := up1_o (by decide) rfl
    have e3 : up1 S 1 (S 1 + 1) 3 = S 3 := up1_o (by decide) rfl
    have e : ∀ j, 20 ≤ j → up1 S 1 (S 1 + 1) j = S j := fun j hj => up1_o (by omega) rfl
    refine ⟨by rw [e0]; exact o0, by rw [e1]; omega, by rw [e2]; omega, by rw [e3]; omega, by rw [e1, e2]; omega, fun r hr => by rw [e _ (by omega)]; exact o5 r hr, fun s hs => by rw [e _ (by omega)]; exact o6 s hs⟩
theorem TOK.bk (h : TOK D k S b) : TOK D k (bkS S) b := by
  obtain ⟨o0, o1, o2, o3, o4, o5, o6⟩ := h
  have e0 : bkS S 0 = 0 := up1_s
  have e : ∀ j, 1 ≤ j → bkS S j = S j := fun j hj => up1_o (by omega) rfl
  refine ⟨by rw [e0]; omega, by rw [e 1 (by omega)]; exact o1, by rw [e 2 (by omega)]; exact o2, by rw [e 3 (by omega)]; exact o3, by rw [e 1 (by omega), e 2 (by omega)]; exact o4, fun r hr => by rw [e _ (by omega)]; exact o5 r hr, fun s hs => by rw [e _ (by omega)]; exact o6 s hs⟩
theorem TOK.up (h : TOK D k S b) {k' : Nat} (hk : k ≤ k') : TOK D k' S b := by
  obtain ⟨o0, o1, o2, o3, o4, o5, o6⟩ := h
  exact ⟨o0, by omega, o2, by omega, o4, o5, o6⟩
theorem TOK.ob {b' : Nat → Nat} (h : TOK D k S b) (hb : ∀ r, r < D 2 → b' r ≤ 99) : TOK D k S b' := by
  obtain ⟨o0, o1, o2, o3, o4, o5, o6⟩ := h
  exact ⟨o0, o1, o2, o3, o4, fun r hr => ⟨(o5 r hr).1, hb r hr⟩, o6⟩
theorem t_climb (W : TW M h D k S b) (hlt : S 0 < (D 0 : Int)) : CG C 118 [.ref 78] M (fun w M' => w = none ∧ Fk M M' ∧ TW M' h D (k + 1) (clS S) (wrT D S b)) := by
  have hO := W.2.2.2.2.2.2
  have hbb := hO.2.2.2.2.2.1
  have ab : ∀ r, abd (clS S) r = abd S r := fun r => by
    unfold abd
    rw [show clS S (20 + r) = S (20 + r) from up1_o (by omega) (up1_o (by omega) rfl)]
  have loop : ∀ i, i ≤ D 2 → ∀ M1, Fk M M1 → TW M1 h D (k + 1) (clS S) (mx i (wrT D S b) b) → G C 118 (22, [some (.ref 78), some (.int (nI i))], [], [], M1) (fun w M' => w = none ∧ Fk M M' ∧ TW M' h D (k + 1) (clS S) (wrT D S b)) := by
    refine upto (fun i hi ih M1 hF W1 => ?_)
    have W_ := W1.1
    have hK := W_.1
    obtain ⟨⟨t0, t1, t2, t3, t4, t5, t6⟩, r0, r3, r4, r6, r7, r8⟩ := W_.2.1
    obtain ⟨hD, ⟨v0, v1, v2⟩, vh, vr, vw, vf⟩ := W_.2.2.1
    have hs := W_.2.2.2.1
    have hh := W_.2.2.2.2
    have hn0 : _ ≤ 8 := hD.1
    have hn1 : _ ≤ 6 := hD.2.1.2
    have hn2 : _ ≤ 8 := hD.2.2.1
    obtain ⟨rl, ⟨s0, s1, s2, s3⟩, q1, q2, q3, hO⟩ := W1.2
    obtain ⟨o0, o1, o2, o3, o4, o5, o6⟩ := hO
    have hbi : i < D 2 → b i ≤ 99 := fun q => (hbb i q).2
    have q4 : i < D 2 → M1.2.1 79 i = nI (b i) := fun q => by rw [q1 i q, mx, if_neg (by omega)]
    have nxt : ∀ M2, i < D 2 → Fc [79] M1 M2 → (∀ r, r < D 2 → r ≠ i → M2.2.1 79 r = M1.2.1 79 r) → M2.2.1 79 i = nI (wrT D S b i) → TW M2 h D (k + 1) (clS S) (mx (i + 1) (wrT D S b) b) := by
      intro M2 hi2 hF2 e1 e2
      refine W1.oz hF2 (fun r hr => ?_) (fun r hr => ?_)
      · by_cases q : r = i
        · subst q
          rw [e2, mx, if_pos (by omega)]
        · rw [e1 r hr q, q1 r hr]
          unfold mx
          by_cases q2 : r < i
          · rw [if_pos q2, if_pos (by omega)]
          · rw [if_neg q2, if_neg (by omega)]
      · have := (hbb r hr).2
        unfold mx wrT
        split
        · split <;> omega
        · omega
    refine G_S (pc := 22) f_118_22 rfl rfl rfl ?_
    refine G_S (pc := 23) f_118_23 rfl rfl rfl ?_
    refine G_gR (pc := 24) f_118_24 (by decide) rfl (by first | assumption | exact hK.1 _ _ rfl) (by first | assumption | exact hK.2 _ _ _ rfl | (try dsimp only) <;> (repeat (first | exact up2_s | refine up2_o (by first | decide | omega) ?_)) <;> first | assumption | exact hK.2 _ _ _ rfl) ?_
    refine G_gIv (pc := 27) f_118_27 (by decide) rfl (by decide) (by first | assumption | exact hK.1 _ _ rfl) (by first | assumption | exact mI_s | ((refine mI_o (by first | decide | omega) ?_); (repeat (refine mI_o (by first | decide | omega) ?_)); first | exact mI_s | assumption) | rfl) ?_
    refine G_jgeZ (pc := 30) f_118_30 rfl (by first | exact nI_toInt (by omega) | exact zI_toInt (by omega) (by omega) | rfl) (by first | exact nI_toInt (by omega) | exact zI_toInt (by omega) (by omega) | rfl) (fun b1 => ?_) (fun b1 => ?_)
    · refine G_rv (pc := 67) f_118_67 ?_
      refine ⟨rfl, hF, W1.oz Fc.rf (fun r hr => ?_) (wrT_le (fun r hr => (hbb r hr).2))⟩
      rw [q1 r hr, mx, if_pos (by omega)]
    · have hbi := hbi (by omega)
      have q4 := q4 (by omega)
      refine G_S (pc := 33) f_118_33 rfl rfl rfl ?_
      refine G_S (pc := 34) f_118_34 rfl rfl rfl ?_
      refine G_CV (pc := 35) f_118_35 rfl rfl (by decide) rfl rfl (by first | assumption | exact hK.1 _ _ rfl) (by decide) ⟨Nat.le_of_ble_eq_true rfl, Nat.le_of_ble_eq_true rfl⟩ ?_
      refine CG.go (t_isAboard W1 (by omega)) ?_
      first | refine G_bEq (pc := 38) f_118_38 rfl (fun b2 => ?_) (fun b2 => ?_) | refine G_zeqZ (pc := 38) f_118_38 rfl (by first | exact nI_toInt (by omega) | exact zI_toInt (by omega) (by omega) | rfl) (fun b2 => ?_) (fun b2 => ?_)
      · first | refine G_inc1 (pc := 61) f_118_61 rfl ?_ | refine G_S (pc := 61) f_118_61 rfl rfl rfl ?_
        refine G_S (pc := 64) f_118_64 rfl rfl rfl ?_
        first
          | (refine ih (by omega) M1 hF (nxt M1 (by omega) Fc.rf (fun _ _ _ => rfl) ?_)
             rw [ab] at b2
             rw [q4, wrT, if_neg b2])
          | (have hF3 : Fc [79] M1 _ := Fc.up (i := 79) (k := i) (x := nI (b i - D (27 + D (11 + i)))) (by decide)
             refine ih (by omega) _ (hF.tr (Fk.of hF3)) (nxt _ (by omega) hF3 (fun r hr hne => (by (try dsimp only); exact up2_o (by omega) rfl)) ?_)
             rw [ab] at b2
             rw [wrT, if_pos b2]
             exact (by (try dsimp only); exact up2_s))
      · refine G_S (pc := 41) f_118_41 rfl rfl rfl ?_
        refine G_gR (pc := 42) f_118_42 (by decide) rfl (by first | assumption | exact hK.1 _ _ rfl) (by first | assumption | exact hK.2 _ _ _ rfl | (try dsimp only) <;> (repeat (first | exact up2_s | refine up2_o (by first | decide | omega) ?_)) <;> first | assumption | exact hK.2 _ _ _ rfl) ?_
        refine G_S (pc := 45) f_118_45 rfl rfl rfl ?_
        refine G_S (pc := 46) f_118_46 rfl rfl rfl ?_
        refine G_gR (pc := 47) f_118_47 (by decide) rfl (by first | assumption | exact hK.1 _ _ rfl) (by first | assumption | exact hK.2 _ _ _ rfl | (try dsimp only) <;> (repeat (first | exact up2_s | refine up2_o (by first | decide | omega) ?_)) <;> first | assumption | exact hK.2 _ _ _ rfl) ?_
        refine G_S (pc := 50) f_118_50 rfl rfl rfl ?_
        refine G_S (pc := 51) f_118_51 rfl rfl rfl ?_
        refine G_gR (pc := 52) f_118_52 (by decide) rfl (by first | assumption | exact hK.1 _ _ rfl) (by first | assumption | exact hK.2 _ _ _ rfl | (try dsimp only) <;> (repeat (first | exact up2_s | refine up2_o (by first | decide | omega) ?_)) <;> first | assumption | exact hK.2 _ _ _ rfl) ?_
        refine G_S (pc := 55) f_118_55 rfl rfl rfl ?_
        refine G_iaN (pc := 56) f_118_56 (by first | assumption | exact hK.1 _ _ rfl) (by omega) (by omega) (by first | exact q4 | rfl) ?_
        refine G_CV (pc := 57) f_118_57 rfl rfl (by decide) rfl rfl (by first | assumption | exact hK.1 _ _ rfl) (by decide) ⟨Nat.le_of_ble_eq_true rfl, Nat.le_of_ble_eq_true rfl⟩ ?_
        refine CG.go (c_wornOf W_.2.1 W_.2.2.1 (by omega) (by omega)) ?_
        refine G_isN (pc := 60) f_118_60 (by first | assumption | exact hK.1 _ _ rfl) (by omega) (by omega) ?_
        first | refine G_inc1 (pc := 61) f_118_61 rfl ?_ | refine G_S (pc := 61) f_118_61 rfl rfl rfl ?_
        refine G_S (pc := 64) f_118_64 rfl rfl rfl ?_
        first
          | (refine ih (by omega) M1 hF (nxt M1 (by omega) Fc.rf (fun _ _ _ => rfl) ?_)
             rw [ab] at b2
             rw [q4, wrT, if_neg b2])
          | (have hF3 : Fc [79] M1 _ := Fc.up (i := 79) (k := i) (x := nI (b i - D (27 + D (11 + i)))) (by decide)
             refine ih (by omega) _ (hF.tr (Fk.of hF3)) (nxt _ (by omega) hF3 (fun r hr hne => (by (try dsimp only); exact up2_o (by omega) rfl)) ?_)
             rw [ab] at b2
             rw [wrT, if_pos b2]
             exact (by (try dsimp only); exact up2_s))
  have W_ := W.1
  have hK := W_.1
  obtain ⟨⟨t0, t1, t2, t3, t4, t5, t6⟩, r0, r3, r4, r6, r7, r8⟩ := W_.2.1
  obtain ⟨hD, ⟨v0, v1, v2⟩, vh, vr, vw, vf⟩ := W_.2.2.1
  have hs := W_.2.2.2.1
  have hh := W_.2.2.2.2
  have hn0 : _ ≤ 8 := hD.1
  have hn1 : _ ≤ 6 := hD.2.1.2
  have hn2 : _ ≤ 8 := hD.2.2.1
  obtain ⟨rl, ⟨s0, s1, s2, s3⟩, q1, q2, q3, hO⟩ := W.2
  obtain ⟨o0, o1, o2, o3, o4, o5, o6⟩ := hO
  refine CG_in (mL := 2) (hl := false) (lv := [some (.ref 78), none]) (ll := []) rfl rfl rfl ?_
  refine G_S (pc := 0) f_118_0 rfl rfl rfl ?_
  refine G_S (pc := 1) f_118_1 rfl rfl rfl ?_
  refine G_gIv (pc := 2) f_118_2 (by decide) rfl (by decide) (by first | assumption | exact hK.1 _ _ rfl) (s0) ?_
  refine G_ic (v := nI 1) (pc := 5) f_118_5 (by decide) ?_
  first | refine G_addN (pc := 6) f_118_6 ?_ | refine G_addZ (pc := 6) f_118_6 (by first | rfl | exact nI_zI _) (by first | rfl | exact nI_zI _) ?_ | refine G_S (pc := 6) f_118_6 rfl rfl rfl ?_
  refine G_pI (pc := 7) f_118_7 rfl (by first | assumption | exact hK.1 _ _ rfl) ?_
  refine G_S (pc := 10) f_118_10 rfl rfl rfl ?_
  refine G_S (pc := 11) f_118_11 rfl rfl rfl ?_
  refine G_gIv (pc := 12) f_118_12 (by decide) rfl (by decide) (by first | assumption | exact hK.1 _ _ rfl) ((mI_o (by omega) s3)) ?_
  refine G_ic (v := nI 1) (pc := 15) f_118_15 (by decide) ?_
  first | refine G_addN (pc := 16) f_118_16 ?_ | refine G_addZ (pc := 16) f_118_16 (by first | rfl | exact nI_zI _) (by first | rfl | exact nI_zI _) ?_ | refine G_S (pc := 16) f_118_16 rfl rfl rfl ?_
  refine G_pI (pc := 17) f_118_17 rfl (by first | assumption | exact hK.1 _ _ rfl) ?_
  refine G_ic (v := nI 0) (pc := 20) f_118_20 (by decide) ?_
  refine G_S (pc := 21) f_118_21 rfl rfl rfl ?_
  have hF3 : Fc [78] M _ := (Fc.up (i := 78) (k := 1) (x := zI (S 0 + 1)) (by decide)).tr (Fc.up (i := 78) (k := 4) (x := zI (S 3 + 1)) (by decide))
  refine loop 0 (Nat.zero_le _) _ ⟨hF3.sub (by decide), (by (try dsimp only); exact up2_o (by omega) (by (try dsimp only); exact up2_o (by omega) rfl))⟩ (W.fd hF3 rfl ⟨(by (try dsimp only); exact up2_o (by omega) (by (try dsimp only); exact up2_s)), (by (try dsimp only); exact up2_o (by omega) (by (try dsimp only); exact up2_o (by omega) s1)), (by (try dsimp only); exact up2_o (by omega) (by (try dsimp only); exact up2_o (by omega) s2)), (by (try dsimp only); exact up2_s)⟩ (fun j hj => up1_o (by omega) (up1_o (by omega) rfl)) (hO.cl hlt))
theorem t_stall (W : TW M h D k S b) : CG C 119 [.ref 78] M (fun w M' => w = none ∧ Fk M M' ∧ TW M' h D (k + 1) (slS S) b) := by
  have hO := W.2.2.2.2.2.2
  have W_ := W.1
  have hK := W_.1
  obtain ⟨⟨t0, t1, t2, t3, t4, t5, t6⟩, r0, r3, r4, r6, r7, r8⟩ := W_.2.1
  obtain ⟨hD, ⟨v0, v1, v2⟩, vh, vr, vw, vf⟩ := W_.2.2.1
  have hs := W_.2.2.2.1
  have hh := W_.2.2.2.2
  have hn0 : _ ≤ 8 := hD.1
  have hn1 : _ ≤ 6 := hD.2.1.2
  have hn2 : _ ≤ 8 := hD.2.2.1
  obtain ⟨rl, ⟨s0, s1, s2, s3⟩, q1, q2, q3, hO⟩ := W.2
  obtain ⟨o0, o1, o2, o3, o4, o5, o6⟩ := hO
  refine CG_in (mL := 1) (hl := false) (lv := [some (.ref 78)]) (ll := []) rfl rfl rfl ?_
  refine G_S (pc := 0) f_119_0 rfl rfl rfl ?_
  refine G_S (pc := 1) f_119_1 rfl rfl rfl ?_
  refine G_gIv (pc := 2) f_119_2 (by decide) rfl (by decide) (by first | assumption | exact hK.1 _ _ rfl) (s1) ?_
  refine G_ic (v := nI 1) (pc := 5) f_119_5 (by decide) ?_
  first | refine G_addN (pc := 6) f_119_6 ?_ | refine G_addZ (pc := 6) f_119_6 (by first | rfl | exact nI_zI _) (by first | rfl | exact nI_zI _) ?_ | refine G_S (pc := 6) f_119_6 rfl rfl rfl ?_
  refine G_pI (pc := 7) f_119_7 rfl (by first | assumption | exact hK.1 _ _ rfl) ?_
  refine G_S (pc := 10) f_119_10 rfl rfl rfl ?_
  refine G_gIv (pc := 11) f_119_11 (by decide) rfl (by decide) (by first | assumption | exact hK.1 _ _ rfl) ((mI_o (by omega) s2)) ?_
  refine G_ic (v := zI (-1)) (pc := 14) f_119_14 (by decide) ?_
  refine G_jneZ (pc := 15) f_119_15 rfl (by first | exact nI_toInt (by omega) | exact zI_toInt (by omega) (by omega) | rfl) (by first | exact nI_toInt (by omega) | exact zI_toInt (by omega) (by omega) | rfl) (fun b1 => ?_) (fun b1 => ?_)
  · refine G_rv (pc := 26) f_119_26 ?_
    first
      | (have hz : S 2 = -1 := by omega
         have e : slS S = up1 (up1 S 1 (S 1 + 1)) 2 (S 0) := if_pos hz
         have hF3 : Fc [78] M _ := (Fc.up (i := 78) (k := 2) (x := zI (S 1 + 1)) (by decide)).tr (Fc.up (i := 78) (k := 3) (x := zI (S 0)) (by decide))
         have hO2 := hO.sl hn0
         rw [e] at hO2 ⊢
         exact ⟨rfl, ⟨hF3.sub (by decide), (by (try dsimp only); exact up2_o (by omega) (by (try dsimp only); exact up2_o (by omega) rfl))⟩, W.fd hF3 rfl ⟨(by (try dsimp only); exact up2_o (by omega) (by (try dsimp only); exact up2_o (by omega) s0)), (by (try dsimp only); exact up2_o (by omega) (by (try dsimp only); exact up2_s)), (by (try dsimp only); exact up2_s), (by (try dsimp only); exact up2_o (by omega) (by (try dsimp only); exact up2_o (by omega) s3))⟩ (fun j hj => up1_o (by omega) (up1_o (by omega) rfl)) hO2⟩)
      | (have hz : ¬ S 2 = -1 := by omega
         have e : slS S = up1 S 1 (S 1 + 1) := if_neg hz
         have hF3 : Fc [78] M _ := Fc.up (i := 78) (k := 2) (x := zI (S 1 + 1)) (by decide)
         have hO2 := hO.sl hn0
         rw [e] at hO2 ⊢
         exact ⟨rfl, ⟨hF3.sub (by decide), (by (try dsimp only); exact up2_o (by omega) rfl)⟩, W.fd hF3 rfl ⟨(by (try dsimp only); exact up2_o (by omega) s0), (by (try dsimp only); exact up2_s), (by (try dsimp only); exact up2_o (by omega) s2), (by (try dsimp only); exact up2_o (by omega) s3)⟩ (fun j hj => up1_o (by omega) rfl) hO2⟩)
  · refine G_S (pc := 18) f_119_18 rfl rfl rfl ?_
    refine G_S (pc := 19) f_119_19 rfl rfl rfl ?_
    refine G_gIv (pc := 20) f_119_20 (by decide) rfl (by decide) (by first | assumption | exact hK.1 _ _ rfl) ((mI_o (by omega) s0)) ?_
    refine G_pI (pc := 23) f_119_23 rfl (by first | assumption | exact hK.1 _ _ rfl) ?_
    refine G_rv (pc := 26) f_119_26 ?_
    first
      | (have hz : S 2 = -1 := by omega
         have e : slS S = up1 (up1 S 1 (S 1 + 1)) 2 (S 0) := if_pos hz
         have hF3 : Fc [78] M _ := (Fc.up (i := 78) (k := 2) (x := zI (S 1 + 1)) (by decide)).tr (Fc.up (i := 78) (k := 3) (x := zI (S 0)) (by decide))
         have hO2 := hO.sl hn0
         rw [e] at hO2 ⊢
         exact ⟨rfl, ⟨hF3.sub (by decide), (by (try dsimp only); exact up2_o (by omega) (by (try dsimp only); exact up2_o (by omega) rfl))⟩, W.fd hF3 rfl ⟨(by (try dsimp only); exact up2_o (by omega) (by (try dsimp only); exact up2_o (by omega) s0)), (by (try dsimp only); exact up2_o (by omega) (by (try dsimp only); exact up2_s)), (by (try dsimp only); exact up2_s), (by (try dsimp only); exact up2_o (by omega) (by (try dsimp only); exact up2_o (by omega) s3))⟩ (fun j hj => up1_o (by omega) (up1_o (by omega) rfl)) hO2⟩)
      | (have hz : ¬ S 2 = -1 := by omega
         have e : slS S = up1 S 1 (S 1 + 1) := if_neg hz
         have hF3 : Fc [78] M _ := Fc.up (i := 78) (k := 2) (x := zI (S 1 + 1)) (by decide)
         have hO2 := hO.sl hn0
         rw [e] at hO2 ⊢
         exact ⟨rfl, ⟨hF3.sub (by decide), (by (try dsimp only); exact up2_o (by omega) rfl)⟩, W.fd hF3 rfl ⟨(by (try dsimp only); exact up2_o (by omega) s0), (by (try dsimp only); exact up2_s), (by (try dsimp only); exact up2_o (by omega) s2), (by (try dsimp only); exact up2_o (by omega) s3)⟩ (fun j hj => up1_o (by omega) rfl) hO2⟩)
/-- going on -/
def goF (D : Nat → Nat) (S : Nat → Int) (b : Nat → Nat) : (Nat → Int) × (Nat → Nat) := if S 0 < (D 0 : Int) then (if D (3 + (S 0).toNat) ≤ ptN D S b (D 2) then (clS S, wrT D S b) else (slS S, b)) else (S, b)
theorem t_go (W : TW M h D k S b) : CG C 117 [.ref 78] M (fun w M' => w = some (.int (b2i (S 0 < (D 0 : Int)))) ∧ Fk M M' ∧ TW M' h D (k + 1) (goF D S b).1 (goF D S b).2) := by
  have hO := W.2.2.2.2.2.2
  have W_ := W.1
  have hK := W_.1
  obtain ⟨⟨t0, t1, t2, t3, t4, t5, t6⟩, r0, r3, r4, r6, r7, r8⟩ := W_.2.1
  obtain ⟨hD, ⟨v0, v1, v2⟩, vh, vr, vw, vf⟩ := W_.2.2.1
  have hs := W_.2.2.2.1
  have hh := W_.2.2.2.2
  have hn0 : _ ≤ 8 := hD.1
  have hn1 : _ ≤ 6 := hD.2.1.2
  have hn2 : _ ≤ 8 := hD.2.2.1
  obtain ⟨rl, ⟨s0, s1, s2, s3⟩, q1, q2, q3, hO⟩ := W.2
  obtain ⟨o0, o1, o2, o3, o4, o5, o6⟩ := hO
  have hpt := ptN_le (D := D) (S := S) (b := b) (D 2) (fun r hr => (o5 r hr).2)
  obtain ⟨c, hc⟩ : ∃ c : Nat, S 0 = (c : Int) := ⟨(S 0).toNat, by omega⟩
  have s0' : M.2.1 78 1 = nI c := by rw [s0, hc, nI_zI]
  have hh9 : c < D 0 → D (3 + c) ≤ 99 := fun q => hD.2.2.2.1 c (by omega)
  have hcx : (S 0).toNat = c := by omega
  refine CG_in (mL := 1) (hl := false) (lv := [some (.ref 78)]) (ll := []) rfl rfl rfl ?_
  refine G_S (pc := 0) f_117_0 rfl rfl rfl ?_
  refine G_gIv (pc := 1) f_117_1 (by decide) rfl (by decide) (by first | assumption | exact hK.1 _ _ rfl) (s0') ?_
  refine G_zltZ (pc := 4) f_117_4 rfl (by first | exact nI_toInt (by omega) | exact zI_toInt (by omega) (by omega) | rfl) (fun b1 => ?_) (fun b1 => ?_)
  · exfalso; omega
  · refine G_S (pc := 7) f_117_7 rfl rfl rfl ?_
    refine G_gIv (pc := 8) f_117_8 (by decide) rfl (by decide) (by first | assumption | exact hK.1 _ _ rfl) (s0') ?_
    refine G_S (pc := 11) f_117_11 rfl rfl rfl ?_
    refine G_gR (pc := 12) f_117_12 (by decide) rfl (by first | assumption | exact hK.1 _ _ rfl) (by first | assumption | exact hK.2 _ _ _ rfl | (try dsimp only) <;> (repeat (first | exact up2_s | refine up2_o (by first | decide | omega) ?_)) <;> first | assumption | exact hK.2 _ _ _ rfl) ?_
    refine G_gIv (pc := 15) f_117_15 (by decide) rfl (by decide) (by first | assumption | exact hK.1 _ _ rfl) (by first | assumption | exact mI_s | ((refine mI_o (by first | decide | omega) ?_); (repeat (refine mI_o (by first | decide | omega) ?_)); first | exact mI_s | assumption) | rfl) ?_
    refine G_jltZ (pc := 18) f_117_18 rfl (by first | exact nI_toInt (by omega) | exact zI_toInt (by omega) (by omega) | rfl) (by first | exact nI_toInt (by omega) | exact zI_toInt (by omega) (by omega) | rfl) (fun b2 => ?_) (fun b2 => ?_)
    · have hh9 := hh9 (by omega)
      refine G_S (pc := 23) f_117_23 rfl rfl rfl ?_
      refine G_CV (pc := 24) f_117_24 rfl rfl (by decide) rfl rfl (by first | assumption | exact hK.1 _ _ rfl) (by decide) ⟨Nat.le_of_ble_eq_true rfl, Nat.le_of_ble_eq_true rfl⟩ ?_
      refine CG.go (t_pulls W) ?_
      refine G_S (pc := 27) f_117_27 rfl rfl rfl ?_
      refine G_gR (pc := 28) f_117_28 (by decide) rfl (by first | assumption | exact hK.1 _ _ rfl) (by first | assumption | exact hK.2 _ _ _ rfl | (try dsimp only) <;> (repeat (first | exact up2_s | refine up2_o (by first | decide | omega) ?_)) <;> first | assumption | exact hK.2 _ _ _ rfl) ?_
      refine G_gR (pc := 31) f_117_31 (by decide) rfl (by first | assumption | exact hK.1 _ _ rfl) (by first | assumption | exact hK.2 _ _ _ rfl | (try dsimp only) <;> (repeat (first | exact up2_s | refine up2_o (by first | decide | omega) ?_)) <;> first | assumption | exact hK.2 _ _ _ rfl) ?_
      refine G_S (pc := 34) f_117_34 rfl rfl rfl ?_
      refine G_gIv (pc := 35) f_117_35 (by decide) rfl (by decide) (by first | assumption | exact hK.1 _ _ rfl) (s0') ?_
      refine G_iaN (pc := 38) f_117_38 (by first | assumption | exact hK.1 _ _ rfl) (by omega) (by omega) (by first | assumption | exact q1 _ (by omega) | exact q2 _ (by omega) | exact q3 _ (by omega) | exact q4 _ (by omega) | exact q5 _ (by omega) | exact vh _ (by omega) | exact (vr _ (by omega)).1 | exact (vr _ (by omega)).2 | exact vw _ (by omega) | exact vf _ (by omega) (by omega) | exact mI_s | ((refine mI_o (by first | decide | omega) ?_); (repeat (refine mI_o (by first | decide | omega) ?_)); first | exact mI_s | assumption | exact q1 _ (by omega) | exact q2 _ (by omega) | exact q3 _ (by omega) | exact q4 _ (by omega) | exact q5 _ (by omega) | exact vh _ (by omega) | exact (vr _ (by omega)).1 | exact (vr _ (by omega)).2 | exact vw _ (by omega) | exact vf _ (by omega) (by omega)) | rfl) ?_
      refine G_jltZ (pc := 39) f_117_39 rfl (by first | exact nI_toInt (by omega) | exact zI_toInt (by omega) (by omega) | rfl) (by first | exact nI_toInt (by omega) | exact zI_toInt (by omega) (by omega) | rfl) (fun b3 => ?_) (fun b3 => ?_)
      · refine G_S (pc := 49) f_117_49 rfl rfl rfl ?_
        refine G_CV (pc := 50) f_117_50 rfl rfl (by decide) rfl rfl (by first | assumption | exact hK.1 _ _ rfl) (by decide) ⟨Nat.le_of_ble_eq_true rfl, Nat.le_of_ble_eq_true rfl⟩ ?_
        refine CG.mono (t_stall W) ?_
        rintro _ M2 ⟨rfl, hF, W2⟩
        refine G_ic (v := nI 1) (pc := 53) f_117_53 (by decide) ?_
        refine G_rz (pc := 54) f_117_54 (by first | exact Or.inl rfl | exact Or.inr rfl | exact b2i_01 _ | assumption) ?_
        first
          | (have e : goF D S b = (S, b) := if_neg (by omega)
             rw [e, b2i_0 (by omega)]
             exact ⟨rfl, Fk.rf, W_, rl, ⟨s0, s1, s2, s3⟩, q1, q2, q3, hO.up (by omega)⟩)
          | (have e : goF D S b = (clS S, wrT D S b) := by
               unfold goF
               rw [if_pos (by omega), hcx, if_pos (by omega)]
             rw [e, b2i_1 (by omega)]
             exact ⟨rfl, hF, W2⟩)
          | (have e : goF D S b = (slS S, b) := by
               unfold goF
               rw [if_pos (by omega), hcx, if_neg (by omega)]
             rw [e, b2i_1 (by omega)]
             exact ⟨rfl, hF, W2⟩)
      · refine G_S (pc := 42) f_117_42 rfl rfl rfl ?_
        refine G_CV (pc := 43) f_117_43 rfl rfl (by decide) rfl rfl (by first | assumption | exact hK.1 _ _ rfl) (by decide) ⟨Nat.le_of_ble_eq_true rfl, Nat.le_of_ble_eq_true rfl⟩ ?_
        refine CG.mono (t_climb W (by omega)) ?_
        rintro _ M2 ⟨rfl, hF, W2⟩
        refine G_S (pc := 46) f_117_46 rfl rfl rfl ?_
        refine G_ic (v := nI 1) (pc := 53) f_117_53 (by decide) ?_
        refine G_rz (pc := 54) f_117_54 (by first | exact Or.inl rfl | exact Or.inr rfl | exact b2i_01 _ | assumption) ?_
        first
          | (have e : goF D S b = (S, b) := if_neg (by omega)
             rw [e, b2i_0 (by omega)]
             exact ⟨rfl, Fk.rf, W_, rl, ⟨s0, s1, s2, s3⟩, q1, q2, q3, hO.up (by omega)⟩)
          | (have e : goF D S b = (clS S, wrT D S b) := by
               unfold goF
               rw [if_pos (by omega), hcx, if_pos (by omega)]
             rw [e, b2i_1 (by omega)]
             exact ⟨rfl, hF, W2⟩)
          | (have e : goF D S b = (slS S, b) := by
               unfold goF
               rw [if_pos (by omega), hcx, if_neg (by omega)]
             rw [e, b2i_1 (by omega)]
             exact ⟨rfl, hF, W2⟩)
    · refine G_ic (v := nI 0) (pc := 21) f_117_21 (by decide) ?_
      refine G_rz (pc := 22) f_117_22 (by first | exact Or.inl rfl | exact Or.inr rfl | exact b2i_01 _ | assumption) ?_
      first
        | (have e : goF D S b = (S, b) := if_neg (by omega)
           rw [e, b2i_0 (by omega)]
           exact ⟨rfl, Fk.rf, W_, rl, ⟨s0, s1, s2, s3⟩, q1, q2, q3, hO.up (by omega)⟩)
        | (have e : goF D S b = (clS S, wrT D S b) := by
             unfold goF
             rw [if_pos (by omega), hcx, if_pos (by omega)]
           rw [e, b2i_1 (by omega)]
           exact ⟨rfl, hF, W2⟩)
        | (have e : goF D S b = (slS S, b) := by
             unfold goF
             rw [if_pos (by omega), hcx, if_neg (by omega)]
           rw [e, b2i_1 (by omega)]
           exact ⟨rfl, hF, W2⟩)
theorem t_back (W : TW M h D k S b) : CG C 120 [.ref 78] M (fun w M' => w = some (.int (b2i (S 0 ≠ 0))) ∧ Fk M M' ∧ TW M' h D k (if S 0 = 0 then S else bkS S) b) := by
  have hO := W.2.2.2.2.2.2
  have W_ := W.1
  have hK := W_.1
  obtain ⟨⟨t0, t1, t2, t3, t4, t5, t6⟩, r0, r3, r4, r6, r7, r8⟩ := W_.2.1
  obtain ⟨hD, ⟨v0, v1, v2⟩, vh, vr, vw, vf⟩ := W_.2.2.1
  have hs := W_.2.2.2.1
  have hh := W_.2.2.2.2
  have hn0 : _ ≤ 8 := hD.1
  have hn1 : _ ≤ 6 := hD.2.1.2
  have hn2 : _ ≤ 8 := hD.2.2.1
  obtain ⟨rl, ⟨s0, s1, s2, s3⟩, q1, q2, q3, hO⟩ := W.2
  obtain ⟨o0, o1, o2, o3, o4, o5, o6⟩ := hO
  refine CG_in (mL := 1) (hl := false) (lv := [some (.ref 78)]) (ll := []) rfl rfl rfl ?_
  refine G_S (pc := 0) f_120_0 rfl rfl rfl ?_
  refine G_gIv (pc := 1) f_120_1 (by decide) rfl (by decide) (by first | assumption | exact hK.1 _ _ rfl) (s0) ?_
  first | refine G_bNe (pc := 4) f_120_4 rfl (fun b1 => ?_) (fun b1 => ?_) | refine G_zneZ (pc := 4) f_120_4 rfl (by first | exact nI_toInt (by omega) | exact zI_toInt (by omega) (by omega) | rfl) (fun b1 => ?_) (fun b1 => ?_)
  · refine G_S (pc := 9) f_120_9 rfl rfl rfl ?_
    refine G_ic (v := nI 0) (pc := 10) f_120_10 (by decide) ?_
    refine G_pI (pc := 11) f_120_11 rfl (by first | assumption | exact hK.1 _ _ rfl) ?_
    refine G_ic (v := nI 1) (pc := 14) f_120_14 (by decide) ?_
    refine G_rz (pc := 15) f_120_15 (by first | exact Or.inl rfl | exact Or.inr rfl | exact b2i_01 _ | assumption) ?_
    first
      | (have hz : S 0 = 0 := by omega
         rw [if_pos hz, b2i_0 (by omega)]
         exact ⟨rfl, Fk.rf, W⟩)
      | (have hz : ¬ S 0 = 0 := by omega
         have hF3 : Fc [78] M _ := Fc.up (i := 78) (k := 1) (x := nI 0) (by decide)
         rw [if_neg hz, b2i_1 hz]
         exact ⟨rfl, ⟨hF3.sub (by decide), (by (try dsimp only); exact up2_o (by omega) rfl)⟩, W.fd hF3 rfl ⟨(by (try dsimp only); exact up2_s), (by (try dsimp only); exact up2_o (by omega) s1), (by (try dsimp only); exact up2_o (by omega) s2), (by (try dsimp only); exact up2_o (by omega) s3)⟩ (fun j hj => up1_o (by omega) rfl) hO.bk⟩)
  · refine G_ic (v := nI 0) (pc := 7) f_120_7 (by decide) ?_
    refine G_rz (pc := 8) f_120_8 (by first | exact Or.inl rfl | exact Or.inr rfl | exact b2i_01 _ | assumption) ?_
    first
      | (have hz : S 0 = 0 := by omega
         rw [if_pos hz, b2i_0 (by omega)]
         exact ⟨rfl, Fk.rf, W⟩)
      | (have hz : ¬ S 0 = 0 := by omega
         have hF3 : Fc [78] M _ := Fc.up (i := 78) (k := 1) (x := nI 0) (by decide)
         rw [if_neg hz, b2i_1 hz]
         exact ⟨rfl, ⟨hF3.sub (by decide), (by (try dsimp only); exact up2_o (by omega) rfl)⟩, W.fd hF3 rfl ⟨(by (try dsimp only); exact up2_s), (by (try dsimp only); exact up2_o (by omega) s1), (by (try dsimp only); exact up2_o (by omega) s2), (by (try dsimp only); exact up2_o (by omega) s3)⟩ (fun j hj => up1_o (by omega) rfl) hO.bk⟩)
end CTS
