/-! the reference's tram: the start -/
section MTS
variable {C : Ct} {M : Mm} {l k : Nat} {D : Nat → Nat} {S : Nat → Int} {b : Nat → Nat} {x y : Int32}
theorem n_begin (W : mH M l D) : CG C 234 [.ref 98] M (fun w M' => w = none ∧ Fm TO TFs M M' ∧ TM M' l D 0 S0 (fun r => D (19 + r))) := by
  have loop2 : ∀ i, i ≤ 6 → ∀ M1, Fm TO TFs M M1 → (∀ r, r < 8 → M1.2.1 110 r = nI (D (19 + r))) → (∀ r, r < 8 → M1.2.1 111 r = zI (-1)) → (∀ s, s < i → M1.2.1 112 s = zI (-1)) → G C 234 (37, [some (.ref 98), some (.int (nI i))], [], [], M1) (fun w M' => w = none ∧ Fm TO TFs M M' ∧ TM M' l D 0 S0 (fun r => D (19 + r))) := by
    refine upto (fun i hi ih M1 hF h1 h2 h3 => ?_)
    have W1 : mH M1 l D := W.fm hF (by decide) TFs_ok
    obtain ⟨hK, hH⟩ := W1
    refine G_S (pc := 37) f_234_37 rfl rfl rfl ?_
    refine G_bi (v := nI 6) (pc := 38) f_234_38 (by decide) ?_
    refine G_jgeZ (pc := 40) f_234_40 rfl (by first | exact nI_toInt (by omega) | exact zI_toInt (by omega) (by omega) | rfl) (by first | exact nI_toInt (by omega) | exact zI_toInt (by omega) (by omega) | rfl) (fun b2 => ?_) (fun b2 => ?_)
    · refine G_S (pc := 56) f_234_56 rfl rfl rfl ?_
      refine G_ic (v := nI 0) (pc := 57) f_234_57 (by decide) ?_
      refine G_pI (pc := 58) f_234_58 rfl (by first | assumption | exact hK.1 _ _ rfl) ?_
      refine G_S (pc := 61) f_234_61 rfl rfl rfl ?_
      refine G_ic (v := nI 0) (pc := 62) f_234_62 (by decide) ?_
      refine G_pI (pc := 63) f_234_63 rfl (by first | assumption | exact hK.1 _ _ rfl) ?_
      refine G_S (pc := 66) f_234_66 rfl rfl rfl ?_
      refine G_ic (v := zI (-1)) (pc := 67) f_234_67 (by decide) ?_
      refine G_pI (pc := 68) f_234_68 rfl (by first | assumption | exact hK.1 _ _ rfl) ?_
      refine G_S (pc := 71) f_234_71 rfl rfl rfl ?_
      refine G_ic (v := nI 0) (pc := 72) f_234_72 (by decide) ?_
      refine G_pI (pc := 73) f_234_73 rfl (by first | assumption | exact hK.1 _ _ rfl) ?_
      refine G_rv (pc := 76) f_234_76 ?_
      have hF4 : Fm [] TFs M1 _ := (((Fm.upf (k := 31) (x := nI 0) (by decide)).tr (Fm.upf (k := 32) (x := nI 0) (by decide))).tr (Fm.upf (k := 33) (x := zI (-1)) (by decide))).tr (Fm.upf (k := 34) (x := nI 0) (by decide))
      have hD : DOK D := by
        unfold HA at hH
        first
          | exact hH.1
          | exact hH.2.1
          | exact hH.2.2.1
          | exact hH.2.2
          | exact hH.2.2.2.1
      have h8 := hD.2.2.1
      have e : ∀ j, 20 ≤ j → S0 j = -1 := fun j hj => if_pos (Or.inr hj)
      refine ⟨rfl, hF.tr (hF4.sub (by decide) (fun _ q => q)), W.fm (hF.tr (hF4.sub (by decide) (fun _ q => q))) (by decide) TFs_ok, ⟨(by (try dsimp only); exact up2_o (by omega) (by (try dsimp only); exact up2_o (by omega) (by (try dsimp only); exact up2_o (by omega) (by (try dsimp only); exact up2_s)))), (by (try dsimp only); exact up2_o (by omega) (by (try dsimp only); exact up2_o (by omega) (by (try dsimp only); exact up2_s))), (by (try dsimp only); exact up2_o (by omega) (by (try dsimp only); exact up2_s)), (by (try dsimp only); exact up2_s)⟩, fun r hr => ?_, fun r hr => ?_, fun s hs => ?_, TOK.s0 hD⟩
      · rw [(hF4.2.1 110 (by decide) (by decide)).1]
        exact h1 r (by omega)
      · rw [(hF4.2.1 111 (by decide) (by decide)).1, e _ (by omega)]
        exact h2 r (by omega)
      · rw [(hF4.2.1 112 (by decide) (by decide)).1, e _ (by omega)]
        exact h3 s (by omega)
    · refine G_S (pc := 43) f_234_43 rfl rfl rfl ?_
      refine G_gR (pc := 44) f_234_44 (by decide) rfl (by first | assumption | exact hK.1 _ _ rfl) (by first | assumption | exact hK.2 _ _ _ rfl | (try dsimp only) <;> (repeat (first | exact up2_s | refine up2_o (by first | decide | omega) ?_)) <;> first | assumption | exact hK.2 _ _ _ rfl) ?_
      refine G_S (pc := 47) f_234_47 rfl rfl rfl ?_
      refine G_ic (v := zI (-1)) (pc := 48) f_234_48 (by decide) ?_
      refine G_isN (pc := 49) f_234_49 (by first | assumption | exact hK.1 _ _ rfl) (by omega) (by omega) ?_
      first | refine G_inc1 (pc := 50) f_234_50 rfl ?_ | refine G_S (pc := 50) f_234_50 rfl rfl rfl ?_
      refine G_S (pc := 53) f_234_53 rfl rfl rfl ?_
      refine ih (by omega) _ (hF.tr (Fm.up (i := 112) (k := i) (x := zI (-1)) (by decide) (by decide))) (fun r hr => (by (try dsimp only); exact up2_o (by omega) (h1 r hr))) (fun r hr => (by (try dsimp only); exact up2_o (by omega) (h2 r hr))) (fun s hs => ?_)
      by_cases q : s = i
      · subst q
        exact (by (try dsimp only); exact up2_s)
      · exact (by (try dsimp only); exact up2_o (by omega) (h3 s (by omega)))
  have loop1 : ∀ i, i ≤ 8 → ∀ M1, Fm TO TFs M M1 → (∀ r, r < i → M1.2.1 110 r = nI (D (19 + r))) → (∀ r, r < i → M1.2.1 111 r = zI (-1)) → G C 234 (2, [some (.ref 98), some (.int (nI i))], [], [], M1) (fun w M' => w = none ∧ Fm TO TFs M M' ∧ TM M' l D 0 S0 (fun r => D (19 + r))) := by
    refine upto (fun i hi ih M1 hF h1 h2 => ?_)
    have W1 : mH M1 l D := W.fm hF (by decide) TFs_ok
    obtain ⟨hK, hH⟩ := W1
    refine G_S (pc := 2) f_234_2 rfl rfl rfl ?_
    refine G_bi (v := nI 8) (pc := 3) f_234_3 (by decide) ?_
    refine G_jgeZ (pc := 5) f_234_5 rfl (by first | exact nI_toInt (by omega) | exact zI_toInt (by omega) (by omega) | rfl) (by first | exact nI_toInt (by omega) | exact zI_toInt (by omega) (by omega) | rfl) (fun b1 => ?_) (fun b1 => ?_)
    · refine G_ic (v := nI 0) (pc := 35) f_234_35 (by decide) ?_
      refine G_S (pc := 36) f_234_36 rfl rfl rfl ?_
      exact loop2 0 (Nat.zero_le _) _ hF (fun r hr => h1 r (by omega)) (fun r hr => h2 r (by omega)) (fun s hs => absurd hs (by omega))
    · refine G_S (pc := 8) f_234_8 rfl rfl rfl ?_
      refine G_gR (pc := 9) f_234_9 (by decide) rfl (by first | assumption | exact hK.1 _ _ rfl) (by first | assumption | exact hK.2 _ _ _ rfl | (try dsimp only) <;> (repeat (first | exact up2_s | refine up2_o (by first | decide | omega) ?_)) <;> first | assumption | exact hK.2 _ _ _ rfl) ?_
      refine G_S (pc := 12) f_234_12 rfl rfl rfl ?_
      refine G_S (pc := 13) f_234_13 rfl rfl rfl ?_
      refine G_bi (v := nI 19) (pc := 14) f_234_14 (by decide) ?_
      refine G_S (pc := 16) f_234_16 rfl rfl rfl ?_
      first | refine G_addN (pc := 17) f_234_17 ?_ | refine G_addZ (pc := 17) f_234_17 (by first | rfl | exact nI_zI _) (by first | rfl | exact nI_zI _) ?_ | refine G_S (pc := 17) f_234_17 rfl rfl rfl ?_
      refine G_CV (pc := 18) f_234_18 rfl rfl (by decide) rfl rfl (by first | assumption | exact hK.1 _ _ rfl) (by decide) ⟨Nat.le_of_ble_eq_true rfl, Nat.le_of_ble_eq_true rfl⟩ ?_
      refine CG.go (m_ofD hK hH (by omega)) ?_
      refine G_isN (pc := 21) f_234_21 (by first | assumption | exact hK.1 _ _ rfl) (by omega) (by omega) ?_
      refine G_S (pc := 22) f_234_22 rfl rfl rfl ?_
      refine G_gR (pc := 23) f_234_23 (by decide) rfl (by first | assumption | exact hK.1 _ _ rfl) (by first | assumption | exact hK.2 _ _ _ rfl | (try dsimp only) <;> (repeat (first | exact up2_s | refine up2_o (by first | decide | omega) ?_)) <;> first | assumption | exact hK.2 _ _ _ rfl) ?_
      refine G_S (pc := 26) f_234_26 rfl rfl rfl ?_
      refine G_ic (v := zI (-1)) (pc := 27) f_234_27 (by decide) ?_
      refine G_isN (pc := 28) f_234_28 (by first | assumption | exact hK.1 _ _ rfl) (by omega) (by omega) ?_
      first | refine G_inc1 (pc := 29) f_234_29 rfl ?_ | refine G_S (pc := 29) f_234_29 rfl rfl rfl ?_
      refine G_S (pc := 32) f_234_32 rfl rfl rfl ?_
      refine ih (by omega) _ (hF.tr ((Fm.up (i := 110) (k := i) (x := nI (D (19 + i))) (by decide) (by decide)).tr (Fm.up (i := 111) (k := i) (x := zI (-1)) (by decide) (by decide)))) (fun r hr => ?_) (fun r hr => ?_)
      · by_cases q : r = i
        · subst q
          exact (by (try dsimp only); exact up2_o (by omega) (by (try dsimp only); exact up2_s))
        · exact (by (try dsimp only); exact up2_o (by omega) (by (try dsimp only); exact up2_o (by omega) (h1 r (by omega))))
      · by_cases q : r = i
        · subst q
          exact (by (try dsimp only); exact up2_s)
        · exact (by (try dsimp only); exact up2_o (by omega) (by (try dsimp only); exact up2_o (by omega) (h2 r (by omega))))
  obtain ⟨hK, hH⟩ := W
  refine CG_in (mL := 2) (hl := false) (lv := [some (.ref 98), none]) (ll := []) rfl rfl rfl ?_
  refine G_ic (v := nI 0) (pc := 0) f_234_0 (by decide) ?_
  refine G_S (pc := 1) f_234_1 rfl rfl rfl ?_
  exact loop1 0 (Nat.zero_le _) M Fm.rf (fun r hr => absurd hr (by omega)) (fun r hr => absurd hr (by omega))
end MTS
