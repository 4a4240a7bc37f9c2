/-! the reference's fares -/
section MFA
variable {C : Ct} {M : Mm} {n l : Nat} {L : Nat → Nat → Nat} {k x f t : Int32} {D : Nat → Nat}
theorem mkI_le0 (D t : Nat → Nat) (e : Nat) : ∀ m, mkI D t e m ≤ 16000000
  | 0 => Nat.le_refl _
  | m + 1 => by
    have := mkI_le0 D t e m
    rw [mkI]
    omega
/-- what is cheap from a stop on, so far -/
def CHs (M : Mm) (D : Nat → Nat) (a m : Nat) : Prop := ∀ i, i < m → M.2.1 125 (a + i) = nI (tk D i / 16) ∧ M.2.1 126 (a + i) = nI (tk D i % 16)
theorem g_findCheap {a : Nat} (W : mH M l D) (ha : a ≤ D 0) : CG C 301 [.ref 98, .int (nI a)] M (fun w M' => w = none ∧ Fo [125, 126] M M' ∧ CHs M' D a (D 0 + 1 - a)) := by
  have inner : ∀ {Q} e, 1 ≤ e → a + e ≤ D 0 → (∀ M1 x, mH M1 l D → Fo [125, 126] M M1 → CHs M1 D a (e + 1) → G C 301 (125, [some (.ref 98), some (.int (nI a)), some (.int (nI (a + e))), some (.int (nI (a + e))), x], [], [], M1) Q) → ∀ i, i ≤ e → ∀ M1 x, mH M1 l D → Fo [125, 126] M M1 → CHs M1 D a e → M1.2.1 125 (a + e) = nI (mkI D (tk D) e i / 16) → M1.2.1 126 (a + e) = nI (mkI D (tk D) e i % 16) → G C 301 (37, [some (.ref 98), some (.int (nI a)), some (.int (nI (a + e))), some (.int (nI (a + i))), x], [], [], M1) Q := by
    intro Q e h1 he K
    refine upto (fun i hi ih M1 x W1 hF hc e1 e2 => ?_)
    have hK := W1.1
    have hH := W1.2
    obtain ⟨⟨a0, a1, a2, a3⟩, hl8, hD, ao⟩ := W1.2
    have hn0 : _ ≤ 8 := hD.1
    have hn1 : _ ≤ 6 := hD.2.1.2
    have hn2 : _ ≤ 8 := hD.2.2.1
    have hm := mkI_le0 D (tk D) e i
    have ht := tk_le hD (e := i) (by omega)
    have hmo := tk_mod hD i (by omega)
    have hf : i < e → D (30 + (e - i)) ≤ 99 := fun q => by
      have := hD.2.2.2.2.2.2.2 (e - i - 1) (by omega)
      rwa [show 31 + (e - i - 1) = 30 + (e - i) by omega] at this
    have q1 : i < e → M1.2.1 125 (a + i) = nI (tk D i / 16) := fun q => (hc i q).1
    have q2 : i < e → M1.2.1 126 (a + i) = nI (tk D i % 16) := fun q => (hc i q).2
    have q3 : M1.2.1 125 (a + e) = nI (mkI D (tk D) e i / 16) := e1
    have q4 : M1.2.1 126 (a + e) = nI (mkI D (tk D) e i % 16) := e2
    have es : a + e - (a + i) = e - i := by omega
    refine G_S (pc := 37) f_301_37 rfl rfl rfl ?_
    refine G_S (pc := 38) f_301_38 rfl rfl rfl ?_
    refine G_jgeZ (pc := 39) f_301_39 rfl (by first | exact nI_toInt (by omega) | exact zI_toInt (by omega) (by omega) | rfl) (by first | exact nI_toInt (by omega) | exact zI_toInt (by omega) (by omega) | rfl) (fun b3 => ?_) (fun b3 => ?_)
    · have e5 : i = e := by omega
      subst e5
      refine K M1 x W1 hF (fun j hj => ?_)
      by_cases q : j = i
      · subst q
        rw [← tk_mk hD h1 (by omega)]
        exact ⟨e1, e2⟩
      · exact hc j (by omega)
    · have hf := hf (by omega)
      have q1 := q1 (by omega)
      have q2 := q2 (by omega)
      refine G_S (pc := 42) f_301_42 rfl rfl rfl ?_
      refine G_gR (pc := 43) f_301_43 (by decide) rfl (by first | assumption | exact hK.1 _ _ rfl) (by first | assumption | exact hK.2 _ _ _ rfl | (try dsimp only) <;> (repeat (first | exact up2_s | refine up2_o (by first | decide | omega) ?_)) <;> first | assumption | exact hK.2 _ _ _ rfl) ?_
      refine G_S (pc := 46) f_301_46 rfl rfl rfl ?_
      refine G_iaN (pc := 47) f_301_47 (by first | assumption | exact hK.1 _ _ rfl) (by omega) (by omega) (by first | assumption | exact q1 _ (by omega) | exact q2 _ (by omega) | exact q3 _ (by omega) | exact q4 _ (by omega) | exact q5 _ (by omega) | exact vh _ (by omega) | exact (vr _ (by omega)).1 | exact (vr _ (by omega)).2 | exact vw _ (by omega) | exact vf _ (by omega) (by omega) | rfl) ?_
      refine G_S (pc := 48) f_301_48 rfl rfl rfl ?_
      refine G_S (pc := 49) f_301_49 rfl rfl rfl ?_
      refine G_S (pc := 50) f_301_50 rfl rfl rfl ?_
      first | refine G_subN (pc := 51) f_301_51 (by omega) ?_ | refine G_subZ (pc := 51) f_301_51 (by first | rfl | exact nI_zI _) (by first | rfl | exact nI_zI _) ?_ | refine G_S (pc := 51) f_301_51 rfl rfl rfl ?_
      refine G_CV (pc := 52) f_301_52 rfl rfl (by decide) rfl rfl (by first | assumption | exact hK.1 _ _ rfl) (by decide) ⟨Nat.le_of_ble_eq_true rfl, Nat.le_of_ble_eq_true rfl⟩ ?_
      refine CG.go ((by rw [es]; exact g_fareOf W1 (by omega) (by omega))) ?_
      first | refine G_addN (pc := 55) f_301_55 ?_ | refine G_addZ (pc := 55) f_301_55 (by first | rfl | exact nI_zI _) (by first | rfl | exact nI_zI _) ?_ | refine G_S (pc := 55) f_301_55 rfl rfl rfl ?_
      refine G_S (pc := 56) f_301_56 rfl rfl rfl ?_
      refine G_S (pc := 58) f_301_58 rfl rfl rfl ?_
      refine G_S (pc := 60) f_301_60 rfl rfl rfl ?_
      refine G_gR (pc := 61) f_301_61 (by decide) rfl (by first | assumption | exact hK.1 _ _ rfl) (by first | assumption | exact hK.2 _ _ _ rfl | (try dsimp only) <;> (repeat (first | exact up2_s | refine up2_o (by first | decide | omega) ?_)) <;> first | assumption | exact hK.2 _ _ _ rfl) ?_
      refine G_S (pc := 64) f_301_64 rfl rfl rfl ?_
      refine G_iaN (pc := 65) f_301_65 (by first | assumption | exact hK.1 _ _ rfl) (by omega) (by omega) (by first | assumption | exact q1 _ (by omega) | exact q2 _ (by omega) | exact q3 _ (by omega) | exact q4 _ (by omega) | exact q5 _ (by omega) | exact vh _ (by omega) | exact (vr _ (by omega)).1 | exact (vr _ (by omega)).2 | exact vw _ (by omega) | exact vf _ (by omega) (by omega) | rfl) ?_
      refine G_jltZ (pc := 66) f_301_66 rfl (by first | exact nI_toInt (by omega) | exact zI_toInt (by omega) (by omega) | rfl) (by first | exact nI_toInt (by omega) | exact zI_toInt (by omega) (by omega) | rfl) (fun b4 => ?_) (fun b4 => ?_)
      · refine G_S (pc := 97) f_301_97 rfl rfl rfl ?_
        refine G_gR (pc := 98) f_301_98 (by decide) rfl (by first | assumption | exact hK.1 _ _ rfl) (by first | assumption | exact hK.2 _ _ _ rfl | (try dsimp only) <;> (repeat (first | exact up2_s | refine up2_o (by first | decide | omega) ?_)) <;> first | assumption | exact hK.2 _ _ _ rfl) ?_
        refine G_S (pc := 101) f_301_101 rfl rfl rfl ?_
        refine G_S (pc := 102) f_301_102 rfl rfl rfl ?_
        refine G_isN (pc := 104) f_301_104 (by first | assumption | exact hK.1 _ _ rfl) (by omega) (by omega) ?_
        refine G_S (pc := 105) f_301_105 rfl rfl rfl ?_
        refine G_gR (pc := 106) f_301_106 (by decide) rfl (by first | assumption | exact hK.1 _ _ rfl) (by first | assumption | exact hK.2 _ _ _ rfl | (try dsimp only) <;> (repeat (first | exact up2_s | refine up2_o (by first | decide | omega) ?_)) <;> first | assumption | exact hK.2 _ _ _ rfl) ?_
        refine G_S (pc := 109) f_301_109 rfl rfl rfl ?_
        refine G_S (pc := 110) f_301_110 rfl rfl rfl ?_
        refine G_gR (pc := 111) f_301_111 (by decide) rfl (by first | assumption | exact hK.1 _ _ rfl) (by first | assumption | exact hK.2 _ _ _ rfl | (try dsimp only) <;> (repeat (first | exact up2_s | refine up2_o (by first | decide | omega) ?_)) <;> first | assumption | exact hK.2 _ _ _ rfl) ?_
        refine G_S (pc := 114) f_301_114 rfl rfl rfl ?_
        refine G_iaN (pc := 115) f_301_115 (by first | assumption | exact hK.1 _ _ rfl) (by omega) (by omega) (by first | assumption | exact q1 _ (by omega) | exact q2 _ (by omega) | exact q3 _ (by omega) | exact q4 _ (by omega) | exact q5 _ (by omega) | exact vh _ (by omega) | exact (vr _ (by omega)).1 | exact (vr _ (by omega)).2 | exact vw _ (by omega) | exact vf _ (by omega) (by omega) | rfl) ?_
        refine G_ic (v := nI 1) (pc := 116) f_301_116 (by decide) ?_
        first | refine G_addN (pc := 117) f_301_117 ?_ | refine G_addZ (pc := 117) f_301_117 (by first | rfl | exact nI_zI _) (by first | rfl | exact nI_zI _) ?_ | refine G_S (pc := 117) f_301_117 rfl rfl rfl ?_
        refine G_isN (pc := 118) f_301_118 (by first | assumption | exact hK.1 _ _ rfl) (by omega) (by omega) ?_
        first | refine G_inc1 (pc := 119) f_301_119 rfl ?_ | refine G_S (pc := 119) f_301_119 rfl rfl rfl ?_
        refine G_S (pc := 122) f_301_122 rfl rfl rfl ?_
        first
          | (have e3 := ih (by omega) M1 (some (.int (nI (tk D i / 16 + D (30 + (e - i)))))) W1 hF hc
             rw [mkI, Nat.min_eq_left (by omega)] at e3
             exact e3 e1 e2)
          | (have hF3 : Fo [125, 126] M1 _ := (Fo.up (i := 125) (k := a + e) (x := nI (tk D i / 16 + D (30 + (e - i)))) (by decide)).tr (Fo.up (i := 126) (k := a + e) (x := nI (tk D i % 16 + 1)) (by decide))
             have e3 := ih (by omega) _ (some (.int (nI (tk D i / 16 + D (30 + (e - i)))))) (W1.fo hF3 (by decide) (by decide)) (hF.tr hF3) (fun j hj => ⟨(by (try dsimp only); exact up2_o (by omega) ((by (try dsimp only); exact up2_o (by omega) (hc j hj).1))), (by (try dsimp only); exact up2_o (by omega) ((by (try dsimp only); exact up2_o (by omega) (hc j hj).2)))⟩)
             rw [mkI, Nat.min_eq_right (by omega)] at e3
             exact e3 (by
               have e5 : (tk D i + 16 * D (30 + (e - i)) + 1) / 16 = tk D i / 16 + D (30 + (e - i)) := by omega
               rw [e5]
               exact (by (try dsimp only); exact up2_o (by omega) (by (try dsimp only); exact up2_s))) (by
               have e5 : (tk D i + 16 * D (30 + (e - i)) + 1) % 16 = tk D i % 16 + 1 := by omega
               rw [e5]
               exact (by (try dsimp only); exact up2_s)))
      · refine G_S (pc := 69) f_301_69 rfl rfl rfl ?_
        refine G_S (pc := 71) f_301_71 rfl rfl rfl ?_
        refine G_gR (pc := 72) f_301_72 (by decide) rfl (by first | assumption | exact hK.1 _ _ rfl) (by first | assumption | exact hK.2 _ _ _ rfl | (try dsimp only) <;> (repeat (first | exact up2_s | refine up2_o (by first | decide | omega) ?_)) <;> first | assumption | exact hK.2 _ _ _ rfl) ?_
        refine G_S (pc := 75) f_301_75 rfl rfl rfl ?_
        refine G_iaN (pc := 76) f_301_76 (by first | assumption | exact hK.1 _ _ rfl) (by omega) (by omega) (by first | assumption | exact q1 _ (by omega) | exact q2 _ (by omega) | exact q3 _ (by omega) | exact q4 _ (by omega) | exact q5 _ (by omega) | exact vh _ (by omega) | exact (vr _ (by omega)).1 | exact (vr _ (by omega)).2 | exact vw _ (by omega) | exact vf _ (by omega) (by omega) | rfl) ?_
        refine G_jneZ (pc := 77) f_301_77 rfl (by first | exact nI_toInt (by omega) | exact zI_toInt (by omega) (by omega) | rfl) (by first | exact nI_toInt (by omega) | exact zI_toInt (by omega) (by omega) | rfl) (fun b5 => ?_) (fun b5 => ?_)
        · first | refine G_inc1 (pc := 119) f_301_119 rfl ?_ | refine G_S (pc := 119) f_301_119 rfl rfl rfl ?_
          refine G_S (pc := 122) f_301_122 rfl rfl rfl ?_
          first
            | (have e3 := ih (by omega) M1 (some (.int (nI (tk D i / 16 + D (30 + (e - i)))))) W1 hF hc
               rw [mkI, Nat.min_eq_left (by omega)] at e3
               exact e3 e1 e2)
            | (have hF3 : Fo [125, 126] M1 _ := (Fo.up (i := 125) (k := a + e) (x := nI (tk D i / 16 + D (30 + (e - i)))) (by decide)).tr (Fo.up (i := 126) (k := a + e) (x := nI (tk D i % 16 + 1)) (by decide))
               have e3 := ih (by omega) _ (some (.int (nI (tk D i / 16 + D (30 + (e - i)))))) (W1.fo hF3 (by decide) (by decide)) (hF.tr hF3) (fun j hj => ⟨(by (try dsimp only); exact up2_o (by omega) ((by (try dsimp only); exact up2_o (by omega) (hc j hj).1))), (by (try dsimp only); exact up2_o (by omega) ((by (try dsimp only); exact up2_o (by omega) (hc j hj).2)))⟩)
               rw [mkI, Nat.min_eq_right (by omega)] at e3
               exact e3 (by
                 have e5 : (tk D i + 16 * D (30 + (e - i)) + 1) / 16 = tk D i / 16 + D (30 + (e - i)) := by omega
                 rw [e5]
                 exact (by (try dsimp only); exact up2_o (by omega) (by (try dsimp only); exact up2_s))) (by
                 have e5 : (tk D i + 16 * D (30 + (e - i)) + 1) % 16 = tk D i % 16 + 1 := by omega
                 rw [e5]
                 exact (by (try dsimp only); exact up2_s)))
        · refine G_S (pc := 80) f_301_80 rfl rfl rfl ?_
          refine G_gR (pc := 81) f_301_81 (by decide) rfl (by first | assumption | exact hK.1 _ _ rfl) (by first | assumption | exact hK.2 _ _ _ rfl | (try dsimp only) <;> (repeat (first | exact up2_s | refine up2_o (by first | decide | omega) ?_)) <;> first | assumption | exact hK.2 _ _ _ rfl) ?_
          refine G_S (pc := 84) f_301_84 rfl rfl rfl ?_
          refine G_iaN (pc := 85) f_301_85 (by first | assumption | exact hK.1 _ _ rfl) (by omega) (by omega) (by first | assumption | exact q1 _ (by omega) | exact q2 _ (by omega) | exact q3 _ (by omega) | exact q4 _ (by omega) | exact q5 _ (by omega) | exact vh _ (by omega) | exact (vr _ (by omega)).1 | exact (vr _ (by omega)).2 | exact vw _ (by omega) | exact vf _ (by omega) (by omega) | rfl) ?_
          refine G_ic (v := nI 1) (pc := 86) f_301_86 (by decide) ?_
          first | refine G_addN (pc := 87) f_301_87 ?_ | refine G_addZ (pc := 87) f_301_87 (by first | rfl | exact nI_zI _) (by first | rfl | exact nI_zI _) ?_ | refine G_S (pc := 87) f_301_87 rfl rfl rfl ?_
          refine G_S (pc := 88) f_301_88 rfl rfl rfl ?_
          refine G_gR (pc := 89) f_301_89 (by decide) rfl (by first | assumption | exact hK.1 _ _ rfl) (by first | assumption | exact hK.2 _ _ _ rfl | (try dsimp only) <;> (repeat (first | exact up2_s | refine up2_o (by first | decide | omega) ?_)) <;> first | assumption | exact hK.2 _ _ _ rfl) ?_
          refine G_S (pc := 92) f_301_92 rfl rfl rfl ?_
          refine G_iaN (pc := 93) f_301_93 (by first | assumption | exact hK.1 _ _ rfl) (by omega) (by omega) (by first | assumption | exact q1 _ (by omega) | exact q2 _ (by omega) | exact q3 _ (by omega) | exact q4 _ (by omega) | exact q5 _ (by omega) | exact vh _ (by omega) | exact (vr _ (by omega)).1 | exact (vr _ (by omega)).2 | exact vw _ (by omega) | exact vf _ (by omega) (by omega) | rfl) ?_
          refine G_jgeZ (pc := 94) f_301_94 rfl (by first | exact nI_toInt (by omega) | exact zI_toInt (by omega) (by omega) | rfl) (by first | exact nI_toInt (by omega) | exact zI_toInt (by omega) (by omega) | rfl) (fun b6 => ?_) (fun b6 => ?_)
          · first | refine G_inc1 (pc := 119) f_301_119 rfl ?_ | refine G_S (pc := 119) f_301_119 rfl rfl rfl ?_
            refine G_S (pc := 122) f_301_122 rfl rfl rfl ?_
            first
              | (have e3 := ih (by omega) M1 (some (.int (nI (tk D i / 16 + D (30 + (e - i)))))) W1 hF hc
                 rw [mkI, Nat.min_eq_left (by omega)] at e3
                 exact e3 e1 e2)
              | (have hF3 : Fo [125, 126] M1 _ := (Fo.up (i := 125) (k := a + e) (x := nI (tk D i / 16 + D (30 + (e - i)))) (by decide)).tr (Fo.up (i := 126) (k := a + e) (x := nI (tk D i % 16 + 1)) (by decide))
                 have e3 := ih (by omega) _ (some (.int (nI (tk D i / 16 + D (30 + (e - i)))))) (W1.fo hF3 (by decide) (by decide)) (hF.tr hF3) (fun j hj => ⟨(by (try dsimp only); exact up2_o (by omega) ((by (try dsimp only); exact up2_o (by omega) (hc j hj).1))), (by (try dsimp only); exact up2_o (by omega) ((by (try dsimp only); exact up2_o (by omega) (hc j hj).2)))⟩)
                 rw [mkI, Nat.min_eq_right (by omega)] at e3
                 exact e3 (by
                   have e5 : (tk D i + 16 * D (30 + (e - i)) + 1) / 16 = tk D i / 16 + D (30 + (e - i)) := by omega
                   rw [e5]
                   exact (by (try dsimp only); exact up2_o (by omega) (by (try dsimp only); exact up2_s))) (by
                   have e5 : (tk D i + 16 * D (30 + (e - i)) + 1) % 16 = tk D i % 16 + 1 := by omega
                   rw [e5]
                   exact (by (try dsimp only); exact up2_s)))
          · refine G_S (pc := 97) f_301_97 rfl rfl rfl ?_
            refine G_gR (pc := 98) f_301_98 (by decide) rfl (by first | assumption | exact hK.1 _ _ rfl) (by first | assumption | exact hK.2 _ _ _ rfl | (try dsimp only) <;> (repeat (first | exact up2_s | refine up2_o (by first | decide | omega) ?_)) <;> first | assumption | exact hK.2 _ _ _ rfl) ?_
            refine G_S (pc := 101) f_301_101 rfl rfl rfl ?_
            refine G_S (pc := 102) f_301_102 rfl rfl rfl ?_
            refine G_isN (pc := 104) f_301_104 (by first | assumption | exact hK.1 _ _ rfl) (by omega) (by omega) ?_
            refine G_S (pc := 105) f_301_105 rfl rfl rfl ?_
            refine G_gR (pc := 106) f_301_106 (by decide) rfl (by first | assumption | exact hK.1 _ _ rfl) (by first | assumption | exact hK.2 _ _ _ rfl | (try dsimp only) <;> (repeat (first | exact up2_s | refine up2_o (by first | decide | omega) ?_)) <;> first | assumption | exact hK.2 _ _ _ rfl) ?_
            refine G_S (pc := 109) f_301_109 rfl rfl rfl ?_
            refine G_S (pc := 110) f_301_110 rfl rfl rfl ?_
            refine G_gR (pc := 111) f_301_111 (by decide) rfl (by first | assumption | exact hK.1 _ _ rfl) (by first | assumption | exact hK.2 _ _ _ rfl | (try dsimp only) <;> (repeat (first | exact up2_s | refine up2_o (by first | decide | omega) ?_)) <;> first | assumption | exact hK.2 _ _ _ rfl) ?_
            refine G_S (pc := 114) f_301_114 rfl rfl rfl ?_
            refine G_iaN (pc := 115) f_301_115 (by first | assumption | exact hK.1 _ _ rfl) (by omega) (by omega) (by first | assumption | exact q1 _ (by omega) | exact q2 _ (by omega) | exact q3 _ (by omega) | exact q4 _ (by omega) | exact q5 _ (by omega) | exact vh _ (by omega) | exact (vr _ (by omega)).1 | exact (vr _ (by omega)).2 | exact vw _ (by omega) | exact vf _ (by omega) (by omega) | rfl) ?_
            refine G_ic (v := nI 1) (pc := 116) f_301_116 (by decide) ?_
            first | refine G_addN (pc := 117) f_301_117 ?_ | refine G_addZ (pc := 117) f_301_117 (by first | rfl | exact nI_zI _) (by first | rfl | exact nI_zI _) ?_ | refine G_S (pc := 117) f_301_117 rfl rfl rfl ?_
            refine G_isN (pc := 118) f_301_118 (by first | assumption | exact hK.1 _ _ rfl) (by omega) (by omega) ?_
            first | refine G_inc1 (pc := 119) f_301_119 rfl ?_ | refine G_S (pc := 119) f_301_119 rfl rfl rfl ?_
            refine G_S (pc := 122) f_301_122 rfl rfl rfl ?_
            first
              | (have e3 := ih (by omega) M1 (some (.int (nI (tk D i / 16 + D (30 + (e - i)))))) W1 hF hc
                 rw [mkI, Nat.min_eq_left (by omega)] at e3
                 exact e3 e1 e2)
              | (have hF3 : Fo [125, 126] M1 _ := (Fo.up (i := 125) (k := a + e) (x := nI (tk D i / 16 + D (30 + (e - i)))) (by decide)).tr (Fo.up (i := 126) (k := a + e) (x := nI (tk D i % 16 + 1)) (by decide))
                 have e3 := ih (by omega) _ (some (.int (nI (tk D i / 16 + D (30 + (e - i)))))) (W1.fo hF3 (by decide) (by decide)) (hF.tr hF3) (fun j hj => ⟨(by (try dsimp only); exact up2_o (by omega) ((by (try dsimp only); exact up2_o (by omega) (hc j hj).1))), (by (try dsimp only); exact up2_o (by omega) ((by (try dsimp only); exact up2_o (by omega) (hc j hj).2)))⟩)
                 rw [mkI, Nat.min_eq_right (by omega)] at e3
                 exact e3 (by
                   have e5 : (tk D i + 16 * D (30 + (e - i)) + 1) / 16 = tk D i / 16 + D (30 + (e - i)) := by omega
                   rw [e5]
                   exact (by (try dsimp only); exact up2_o (by omega) (by (try dsimp only); exact up2_s))) (by
                   have e5 : (tk D i + 16 * D (30 + (e - i)) + 1) % 16 = tk D i % 16 + 1 := by omega
                   rw [e5]
                   exact (by (try dsimp only); exact up2_s)))
  have loop : ∀ e, e ≤ D 0 + 1 - a → ∀ M1 x y, mH M1 l D → Fo [125, 126] M M1 → CHs M1 D a e → G C 301 (2, [some (.ref 98), some (.int (nI a)), some (.int (nI (a + e))), x, y], [], [], M1) (fun w M' => w = none ∧ Fo [125, 126] M M' ∧ CHs M' D a (D 0 + 1 - a)) := by
    refine upto (fun e he ih M1 x y W1 hF hc => ?_)
    have hK := W1.1
    have hH := W1.2
    obtain ⟨⟨a0, a1, a2, a3⟩, hl8, hD, ao⟩ := W1.2
    have hn0 : _ ≤ 8 := hD.1
    have hn1 : _ ≤ 6 := hD.2.1.2
    have hn2 : _ ≤ 8 := hD.2.2.1
    by_cases h0 : e = 0
    · subst h0
      refine G_S (pc := 2) f_301_2 rfl rfl rfl ?_
      refine G_S (pc := 3) f_301_3 rfl rfl rfl ?_
      refine G_gIv (pc := 4) f_301_4 (by decide) rfl (by decide) (by first | assumption | exact hK.1 _ _ rfl) (by first | assumption | (try dsimp only) <;> (repeat (first | exact up2_s | refine up2_o (by first | decide | omega) ?_)) <;> first | assumption | rfl) ?_
      refine G_jgtZ (pc := 7) f_301_7 rfl (by first | exact nI_toInt (by omega) | exact zI_toInt (by omega) (by omega) | rfl) (by first | exact nI_toInt (by omega) | exact zI_toInt (by omega) (by omega) | rfl) (fun b1 => ?_) (fun b1 => ?_)
      · exfalso; omega
      · refine G_S (pc := 10) f_301_10 rfl rfl rfl ?_
        refine G_gR (pc := 11) f_301_11 (by decide) rfl (by first | assumption | exact hK.1 _ _ rfl) (by first | assumption | exact hK.2 _ _ _ rfl | (try dsimp only) <;> (repeat (first | exact up2_s | refine up2_o (by first | decide | omega) ?_)) <;> first | assumption | exact hK.2 _ _ _ rfl) ?_
        refine G_S (pc := 14) f_301_14 rfl rfl rfl ?_
        refine G_S (pc := 15) f_301_15 rfl rfl rfl ?_
        refine G_S (pc := 16) f_301_16 rfl rfl rfl ?_
        refine G_jneZ (pc := 17) f_301_17 rfl (by first | exact nI_toInt (by omega) | exact zI_toInt (by omega) (by omega) | rfl) (by first | exact nI_toInt (by omega) | exact zI_toInt (by omega) (by omega) | rfl) (fun b2 => ?_) (fun b2 => ?_)
        · exfalso; omega
        · refine G_ic (v := nI 0) (pc := 20) f_301_20 (by decide) ?_
          refine G_S (pc := 21) f_301_21 rfl rfl rfl ?_
          refine G_isN (pc := 27) f_301_27 (by first | assumption | exact hK.1 _ _ rfl) (by omega) (by omega) ?_
          refine G_S (pc := 28) f_301_28 rfl rfl rfl ?_
          refine G_gR (pc := 29) f_301_29 (by decide) rfl (by first | assumption | exact hK.1 _ _ rfl) (by first | assumption | exact hK.2 _ _ _ rfl | (try dsimp only) <;> (repeat (first | exact up2_s | refine up2_o (by first | decide | omega) ?_)) <;> first | assumption | exact hK.2 _ _ _ rfl) ?_
          refine G_S (pc := 32) f_301_32 rfl rfl rfl ?_
          refine G_ic (v := nI 0) (pc := 33) f_301_33 (by decide) ?_
          refine G_isN (pc := 34) f_301_34 (by first | assumption | exact hK.1 _ _ rfl) (by omega) (by omega) ?_
          refine G_S (pc := 35) f_301_35 rfl rfl rfl ?_
          refine G_S (pc := 36) f_301_36 rfl rfl rfl ?_
          have hF3 : Fo [125, 126] M1 _ := (Fo.up (i := 125) (k := a + 0) (x := nI 0) (by decide)).tr (Fo.up (i := 126) (k := a + 0) (x := nI 0) (by decide))
          have W2 := W1.fo hF3 (by decide) (by decide)
          have hK := W2.1
          refine G_S (pc := 37) f_301_37 rfl rfl rfl ?_
          refine G_S (pc := 38) f_301_38 rfl rfl rfl ?_
          refine G_jgeZ (pc := 39) f_301_39 rfl (by first | exact nI_toInt (by omega) | exact zI_toInt (by omega) (by omega) | rfl) (by first | exact nI_toInt (by omega) | exact zI_toInt (by omega) (by omega) | rfl) (fun b3 => ?_) (fun b3 => ?_)
          · first | refine G_inc1 (pc := 125) f_301_125 rfl ?_ | refine G_S (pc := 125) f_301_125 rfl rfl rfl ?_
            refine G_S (pc := 128) f_301_128 rfl rfl rfl ?_
            refine ih (by omega) _ _ _ W2 (hF.tr hF3) (fun j hj => ?_)
            rw [show j = 0 by omega]
            have z0 : tk D 0 = 0 := rfl
            have z1 : tk D 0 / 16 = 0 := by rw [z0]
            have z2 : tk D 0 % 16 = 0 := by rw [z0]
            rw [z1, z2]
            exact ⟨(by (try dsimp only); exact up2_o (by omega) (by (try dsimp only); exact up2_s)), (by (try dsimp only); exact up2_s)⟩
          · exfalso; omega
    · refine G_S (pc := 2) f_301_2 rfl rfl rfl ?_
      refine G_S (pc := 3) f_301_3 rfl rfl rfl ?_
      refine G_gIv (pc := 4) f_301_4 (by decide) rfl (by decide) (by first | assumption | exact hK.1 _ _ rfl) (by first | assumption | (try dsimp only) <;> (repeat (first | exact up2_s | refine up2_o (by first | decide | omega) ?_)) <;> first | assumption | rfl) ?_
      refine G_jgtZ (pc := 7) f_301_7 rfl (by first | exact nI_toInt (by omega) | exact zI_toInt (by omega) (by omega) | rfl) (by first | exact nI_toInt (by omega) | exact zI_toInt (by omega) (by omega) | rfl) (fun b1 => ?_) (fun b1 => ?_)
      · refine G_rv (pc := 131) f_301_131 ?_
        exact ⟨rfl, hF, by rw [show D 0 + 1 - a = e by omega]; exact hc⟩
      · refine G_S (pc := 10) f_301_10 rfl rfl rfl ?_
        refine G_gR (pc := 11) f_301_11 (by decide) rfl (by first | assumption | exact hK.1 _ _ rfl) (by first | assumption | exact hK.2 _ _ _ rfl | (try dsimp only) <;> (repeat (first | exact up2_s | refine up2_o (by first | decide | omega) ?_)) <;> first | assumption | exact hK.2 _ _ _ rfl) ?_
        refine G_S (pc := 14) f_301_14 rfl rfl rfl ?_
        refine G_S (pc := 15) f_301_15 rfl rfl rfl ?_
        refine G_S (pc := 16) f_301_16 rfl rfl rfl ?_
        refine G_jneZ (pc := 17) f_301_17 rfl (by first | exact nI_toInt (by omega) | exact zI_toInt (by omega) (by omega) | rfl) (by first | exact nI_toInt (by omega) | exact zI_toInt (by omega) (by omega) | rfl) (fun b2 => ?_) (fun b2 => ?_)
        · refine G_lc (v := zI 1000000) (pc := 24) f_301_24 rfl (by decide) ?_
          refine G_isN (pc := 27) f_301_27 (by first | assumption | exact hK.1 _ _ rfl) (by omega) (by omega) ?_
          refine G_S (pc := 28) f_301_28 rfl rfl rfl ?_
          refine G_gR (pc := 29) f_301_29 (by decide) rfl (by first | assumption | exact hK.1 _ _ rfl) (by first | assumption | exact hK.2 _ _ _ rfl | (try dsimp only) <;> (repeat (first | exact up2_s | refine up2_o (by first | decide | omega) ?_)) <;> first | assumption | exact hK.2 _ _ _ rfl) ?_
          refine G_S (pc := 32) f_301_32 rfl rfl rfl ?_
          refine G_ic (v := nI 0) (pc := 33) f_301_33 (by decide) ?_
          refine G_isN (pc := 34) f_301_34 (by first | assumption | exact hK.1 _ _ rfl) (by omega) (by omega) ?_
          refine G_S (pc := 35) f_301_35 rfl rfl rfl ?_
          refine G_S (pc := 36) f_301_36 rfl rfl rfl ?_
          have hF3 : Fo [125, 126] M1 _ := (Fo.up (i := 125) (k := a + e) (x := zI 1000000) (by decide)).tr (Fo.up (i := 126) (k := a + e) (x := nI 0) (by decide))
          have z1 : nI (mkI D (tk D) e 0 / 16) = zI 1000000 := by rw [mkI]; exact nI_zI 1000000
          have z2 : nI (mkI D (tk D) e 0 % 16) = nI 0 := by rw [mkI]
          refine inner e (by omega) (by omega) ?_ 0 (Nat.zero_le _) _ _ (W1.fo hF3 (by decide) (by decide)) (hF.tr hF3) (fun j hj => ⟨(by (try dsimp only); exact up2_o (by omega) ((by (try dsimp only); exact up2_o (by omega) (hc j hj).1))), (by (try dsimp only); exact up2_o (by omega) ((by (try dsimp only); exact up2_o (by omega) (hc j hj).2)))⟩) (by rw [z1]; exact (by (try dsimp only); exact up2_o (by omega) (by (try dsimp only); exact up2_s))) (by rw [z2]; exact (by (try dsimp only); exact up2_s))
          intro M2 x2 W2 hF2 hc2
          have hK := W2.1
          first | refine G_inc1 (pc := 125) f_301_125 rfl ?_ | refine G_S (pc := 125) f_301_125 rfl rfl rfl ?_
          refine G_S (pc := 128) f_301_128 rfl rfl rfl ?_
          exact ih (by omega) M2 _ _ W2 hF2 hc2
        · exfalso; omega
  refine CG_in (mL := 5) (hl := false) (lv := [some (.ref 98), some (.int (nI a)), none, none, none]) (ll := []) rfl rfl rfl ?_
  refine G_S (pc := 0) f_301_0 rfl rfl rfl ?_
  refine G_S (pc := 1) f_301_1 rfl rfl rfl ?_
  exact loop 0 (Nat.zero_le _) M _ _ W Fo.rf (fun i hi => absurd hi (by omega))
theorem g_fare (W : MLs M n L) : CG C 303 [.ref 98, .int k, .int f, .int t, .int x] M (fun w M' => w = some (.int (aLin (lin n L k) (zI (-1)) (fun D => fareF D f t x))) ∧ mQ M M') := by
  have hK := W.1
  cases hl : lin n L k with
  | none =>
    refine CG_in (mL := 5) (hl := false) (lv := [some (.ref 98), some (.int k), some (.int f), some (.int t), some (.int x)]) (ll := []) rfl rfl rfl ?_
    refine G_S (pc := 0) f_303_0 rfl rfl rfl ?_
    refine G_ic (v := nI 0) (pc := 1) f_303_1 (by decide) ?_
    refine G_pI (pc := 2) f_303_2 rfl (by first | assumption | exact hK.1 _ _ rfl) ?_
    refine G_S (pc := 5) f_303_5 rfl rfl rfl ?_
    refine G_S (pc := 6) f_303_6 rfl rfl rfl ?_
    refine G_CV (pc := 7) f_303_7 rfl rfl (by decide) rfl rfl (by first | assumption | exact hK.1 _ _ rfl) (by decide) ⟨Nat.le_of_ble_eq_true rfl, Nat.le_of_ble_eq_true rfl⟩ ?_
    refine CG.go (g_handN (W.q mQ.cod) hl) ?_
    first | refine G_bEq (pc := 10) f_303_10 rfl (fun b1 => ?_) (fun b1 => ?_) | refine G_zeqZ (pc := 10) f_303_10 rfl (by first | exact nI_toInt (by omega) | exact zI_toInt (by omega) (by omega) | rfl) (fun b1 => ?_) (fun b1 => ?_)
    · refine G_ic (v := zI (-1)) (pc := 49) f_303_49 (by decide) ?_
      refine G_ri (pc := 50) f_303_50 ?_
      exact ⟨rfl, mQ.cod⟩
    · exact absurd b1 id
  | some D =>
    show CG C 303 [.ref 98, .int k, .int f, .int t, .int x] M (fun w M' => w = some (.int (fareF D f t x)) ∧ mQ M M')
    by_cases hc : (0 ≤ f.toInt ∧ f.toInt < t.toInt) ∧ t.toInt ≤ (D 0 : Int)
    · obtain ⟨b, hb, rfl⟩ := i_nat (x := t) (n := D 0 + 1) (by omega) (by omega)
      obtain ⟨a, ha, rfl⟩ := i_nat (x := f) (n := D 0 + 1) (by omega) (by omega)
      refine CG_in (mL := 5) (hl := false) (lv := [some (.ref 98), some (.int k), some (.int (nI a)), some (.int (nI b)), some (.int x)]) (ll := []) rfl rfl rfl ?_
      refine G_S (pc := 0) f_303_0 rfl rfl rfl ?_
      refine G_ic (v := nI 0) (pc := 1) f_303_1 (by decide) ?_
      refine G_pI (pc := 2) f_303_2 rfl (by first | assumption | exact hK.1 _ _ rfl) ?_
      refine G_S (pc := 5) f_303_5 rfl rfl rfl ?_
      refine G_S (pc := 6) f_303_6 rfl rfl rfl ?_
      refine G_CV (pc := 7) f_303_7 rfl rfl (by decide) rfl rfl (by first | assumption | exact hK.1 _ _ rfl) (by decide) ⟨Nat.le_of_ble_eq_true rfl, Nat.le_of_ble_eq_true rfl⟩ ?_
      refine CG.mono (g_handS (W.q mQ.cod) hl) ?_
      rintro _ M1 ⟨rfl, hQ, l, W1⟩
      have hK := W1.1
      have hH := W1.2
      obtain ⟨⟨a0, a1, a2, a3⟩, hl8, hD, ao⟩ := W1.2
      have hn0 : _ ≤ 8 := hD.1
      have hn1 : _ ≤ 6 := hD.2.1.2
      have hn2 : _ ≤ 8 := hD.2.2.1
      rw [nI_toInt (by omega), nI_toInt (by omega)] at hc
      have hQ := mQ.cod.tr hQ
      first | refine G_bEq (pc := 10) f_303_10 rfl (fun b1 => ?_) (fun b1 => ?_) | refine G_zeqZ (pc := 10) f_303_10 rfl (by first | exact nI_toInt (by omega) | exact zI_toInt (by omega) (by omega) | rfl) (fun b1 => ?_) (fun b1 => ?_)
      · exact absurd trivial b1
      · refine G_S (pc := 13) f_303_13 rfl rfl rfl ?_
        refine G_ic (v := nI 0) (pc := 14) f_303_14 (by decide) ?_
        refine G_S (pc := 15) f_303_15 rfl rfl rfl ?_
        refine G_gIv (pc := 16) f_303_16 (by decide) rfl (by decide) (by first | assumption | exact hK.1 _ _ rfl) (by first | assumption | (try dsimp only) <;> (repeat (first | exact up2_s | refine up2_o (by first | decide | omega) ?_)) <;> first | assumption | rfl) ?_
        refine G_CS (pc := 19) f_303_19 rfl rfl (by decide) rfl rfl ⟨Nat.le_of_ble_eq_true rfl, Nat.le_of_ble_eq_true rfl⟩ ?_
        refine CG.go (m_inZ (by first | exact nI_toInt (by omega) | exact zI_toInt (by omega) (by omega) | rfl) (by first | exact nI_toInt (by omega) | exact zI_toInt (by omega) (by omega) | rfl) (by first | exact nI_toInt (by omega) | exact zI_toInt (by omega) (by omega) | rfl)) ?_
        first | refine G_bEq (pc := 22) f_303_22 rfl (fun b2 => ?_) (fun b2 => ?_) | refine G_zeqZ (pc := 22) f_303_22 rfl (by first | exact nI_toInt (by omega) | exact zI_toInt (by omega) (by omega) | rfl) (fun b2 => ?_) (fun b2 => ?_)
        · exact absurd (by omega) b2
        · refine G_S (pc := 25) f_303_25 rfl rfl rfl ?_
          refine G_S (pc := 26) f_303_26 rfl rfl rfl ?_
          refine G_ic (v := nI 1) (pc := 27) f_303_27 (by decide) ?_
          first | refine G_addN (pc := 28) f_303_28 ?_ | refine G_addZ (pc := 28) f_303_28 (by first | rfl | exact nI_zI _) (by first | rfl | exact nI_zI _) ?_ | refine G_S (pc := 28) f_303_28 rfl rfl rfl ?_
          refine G_S (pc := 29) f_303_29 rfl rfl rfl ?_
          refine G_gIv (pc := 30) f_303_30 (by decide) rfl (by decide) (by first | assumption | exact hK.1 _ _ rfl) (by first | assumption | (try dsimp only) <;> (repeat (first | exact up2_s | refine up2_o (by first | decide | omega) ?_)) <;> first | assumption | rfl) ?_
          refine G_CS (pc := 33) f_303_33 rfl rfl (by decide) rfl rfl ⟨Nat.le_of_ble_eq_true rfl, Nat.le_of_ble_eq_true rfl⟩ ?_
          refine CG.go (m_inZ (by first | exact nI_toInt (by omega) | exact zI_toInt (by omega) (by omega) | rfl) (by first | exact nI_toInt (by omega) | exact zI_toInt (by omega) (by omega) | rfl) (by first | exact nI_toInt (by omega) | exact zI_toInt (by omega) (by omega) | rfl)) ?_
          first | refine G_bEq (pc := 36) f_303_36 rfl (fun b3 => ?_) (fun b3 => ?_) | refine G_zeqZ (pc := 36) f_303_36 rfl (by first | exact nI_toInt (by omega) | exact zI_toInt (by omega) (by omega) | rfl) (fun b3 => ?_) (fun b3 => ?_)
          · exact absurd (by omega) b3
          · refine G_S (pc := 39) f_303_39 rfl rfl rfl ?_
            refine G_ic (v := nI 0) (pc := 41) f_303_41 (by decide) ?_
            refine G_ic (v := nI 2) (pc := 42) f_303_42 (by decide) ?_
            refine G_CS (pc := 43) f_303_43 rfl rfl (by decide) rfl rfl ⟨Nat.le_of_ble_eq_true rfl, Nat.le_of_ble_eq_true rfl⟩ ?_
            refine CG.go (m_inZ (by first | exact nI_toInt (by omega) | exact zI_toInt (by omega) (by omega) | rfl) (by first | exact nI_toInt (by omega) | exact zI_toInt (by omega) (by omega) | rfl) (by first | exact nI_toInt (by omega) | exact zI_toInt (by omega) (by omega) | rfl)) ?_
            first | refine G_bNe (pc := 46) f_303_46 rfl (fun b4 => ?_) (fun b4 => ?_) | refine G_zneZ (pc := 46) f_303_46 rfl (by first | exact nI_toInt (by omega) | exact zI_toInt (by omega) (by omega) | rfl) (fun b4 => ?_) (fun b4 => ?_)
            · refine G_S (pc := 51) f_303_51 rfl rfl rfl ?_
              refine G_S (pc := 52) f_303_52 rfl rfl rfl ?_
              refine G_CV (pc := 53) f_303_53 rfl rfl (by decide) rfl rfl (by first | assumption | exact hK.1 _ _ rfl) (by decide) ⟨Nat.le_of_ble_eq_true rfl, Nat.le_of_ble_eq_true rfl⟩ ?_
              refine CG.mono (g_findCheap W1 (by omega)) ?_
              rintro _ M2 ⟨rfl, hF, hch⟩
              have hK := hF.K hK
              obtain ⟨q1, q2⟩ := hch (b - a) (by omega)
              rw [show a + (b - a) = b by omega] at q1 q2
              have hQ2 := hQ.tr (hF.q (by decide))
              have W2 := W1.fo hF (by decide) (by decide)
              refine G_S (pc := 56) f_303_56 rfl rfl rfl ?_
              first | refine G_bNe (pc := 58) f_303_58 rfl (fun b5 => ?_) (fun b5 => ?_) | refine G_zneZ (pc := 58) f_303_58 rfl (by first | exact nI_toInt (by omega) | exact zI_toInt (by omega) (by omega) | rfl) (fun b5 => ?_) (fun b5 => ?_)
              · refine G_S (pc := 70) f_303_70 rfl rfl rfl ?_
                refine G_ic (v := nI 1) (pc := 72) f_303_72 (by decide) ?_
                refine G_jneZ (pc := 73) f_303_73 rfl (by first | exact nI_toInt (by omega) | exact zI_toInt (by omega) (by omega) | rfl) (by first | exact nI_toInt (by omega) | exact zI_toInt (by omega) (by omega) | rfl) (fun b6 => ?_) (fun b6 => ?_)
                · refine G_S (pc := 85) f_303_85 rfl rfl rfl ?_
                  refine G_S (pc := 86) f_303_86 rfl rfl rfl ?_
                  refine G_S (pc := 87) f_303_87 rfl rfl rfl ?_
                  refine G_CV (pc := 88) f_303_88 rfl rfl (by decide) rfl rfl (by first | assumption | exact hK.1 _ _ rfl) (by decide) ⟨Nat.le_of_ble_eq_true rfl, Nat.le_of_ble_eq_true rfl⟩ ?_
                  refine CG.go (g_loop W2 (by omega) (by omega)) ?_
                  refine G_ri (pc := 91) f_303_91 ?_
                  first
                    | exact ⟨by rw [fareF_o (Or.inr (by omega))], hQ⟩
                    | (rw [fareF_i (by omega) (by omega) (by omega)]
                       refine ⟨?_, hQ2⟩
                       first
                         | rw [if_pos (by omega)]
                         | rw [if_neg (by omega), if_pos (by omega)]
                         | rw [if_neg (by omega), if_neg (by omega), if_pos (by omega)])
                · refine G_S (pc := 76) f_303_76 rfl rfl rfl ?_
                  refine G_gR (pc := 77) f_303_77 (by decide) rfl (by first | assumption | exact hK.1 _ _ rfl) (by first | assumption | exact hK.2 _ _ _ rfl | (try dsimp only) <;> (repeat (first | exact up2_s | refine up2_o (by first | decide | omega) ?_)) <;> first | assumption | exact hK.2 _ _ _ rfl) ?_
                  refine G_S (pc := 80) f_303_80 rfl rfl rfl ?_
                  refine G_iaN (pc := 81) f_303_81 (by first | assumption | exact hK.1 _ _ rfl) (by omega) (by omega) (by first | assumption | exact q1 _ (by omega) | exact q2 _ (by omega) | exact q3 _ (by omega) | exact q4 _ (by omega) | exact q5 _ (by omega) | exact vh _ (by omega) | exact (vr _ (by omega)).1 | exact (vr _ (by omega)).2 | exact vw _ (by omega) | exact vf _ (by omega) (by omega) | rfl) ?_
                  refine G_S (pc := 82) f_303_82 rfl rfl rfl ?_
                  refine G_ri (pc := 91) f_303_91 ?_
                  first
                    | exact ⟨by rw [fareF_o (Or.inr (by omega))], hQ⟩
                    | (rw [fareF_i (by omega) (by omega) (by omega)]
                       refine ⟨?_, hQ2⟩
                       first
                         | rw [if_pos (by omega)]
                         | rw [if_neg (by omega), if_pos (by omega)]
                         | rw [if_neg (by omega), if_neg (by omega), if_pos (by omega)])
              · refine G_S (pc := 61) f_303_61 rfl rfl rfl ?_
                refine G_gR (pc := 62) f_303_62 (by decide) rfl (by first | assumption | exact hK.1 _ _ rfl) (by first | assumption | exact hK.2 _ _ _ rfl | (try dsimp only) <;> (repeat (first | exact up2_s | refine up2_o (by first | decide | omega) ?_)) <;> first | assumption | exact hK.2 _ _ _ rfl) ?_
                refine G_S (pc := 65) f_303_65 rfl rfl rfl ?_
                refine G_iaN (pc := 66) f_303_66 (by first | assumption | exact hK.1 _ _ rfl) (by omega) (by omega) (by first | assumption | exact q1 _ (by omega) | exact q2 _ (by omega) | exact q3 _ (by omega) | exact q4 _ (by omega) | exact q5 _ (by omega) | exact vh _ (by omega) | exact (vr _ (by omega)).1 | exact (vr _ (by omega)).2 | exact vw _ (by omega) | exact vf _ (by omega) (by omega) | rfl) ?_
                refine G_S (pc := 67) f_303_67 rfl rfl rfl ?_
                refine G_ri (pc := 91) f_303_91 ?_
                first
                  | exact ⟨by rw [fareF_o (Or.inr (by omega))], hQ⟩
                  | (rw [fareF_i (by omega) (by omega) (by omega)]
                     refine ⟨?_, hQ2⟩
                     first
                       | rw [if_pos (by omega)]
                       | rw [if_neg (by omega), if_pos (by omega)]
                       | rw [if_neg (by omega), if_neg (by omega), if_pos (by omega)])
            · refine G_ic (v := zI (-1)) (pc := 49) f_303_49 (by decide) ?_
              refine G_ri (pc := 50) f_303_50 ?_
              first
                | exact ⟨by rw [fareF_o (Or.inr (by omega))], hQ⟩
                | (rw [fareF_i (by omega) (by omega) (by omega)]
                   refine ⟨?_, hQ2⟩
                   first
                     | rw [if_pos (by omega)]
                     | rw [if_neg (by omega), if_pos (by omega)]
                     | rw [if_neg (by omega), if_neg (by omega), if_pos (by omega)])
    · refine CG_in (mL := 5) (hl := false) (lv := [some (.ref 98), some (.int k), some (.int f), some (.int t), some (.int x)]) (ll := []) rfl rfl rfl ?_
      by_cases hf : 0 ≤ f.toInt ∧ f.toInt ≤ (D 0 : Int)
      · have hD8 : D 0 ≤ 8 := by
          obtain ⟨l, h1, h2, h3⟩ := lin_some hl
          rw [h3]
          exact (W.2.2.2 l h1).2.1.1
        obtain ⟨a, ha, rfl⟩ := i_nat (x := f) (n := D 0 + 1) (by omega) (by omega)
        rw [nI_toInt (by omega)] at hc
        refine G_S (pc := 0) f_303_0 rfl rfl rfl ?_
        refine G_ic (v := nI 0) (pc := 1) f_303_1 (by decide) ?_
        refine G_pI (pc := 2) f_303_2 rfl (by first | assumption | exact hK.1 _ _ rfl) ?_
        refine G_S (pc := 5) f_303_5 rfl rfl rfl ?_
        refine G_S (pc := 6) f_303_6 rfl rfl rfl ?_
        refine G_CV (pc := 7) f_303_7 rfl rfl (by decide) rfl rfl (by first | assumption | exact hK.1 _ _ rfl) (by decide) ⟨Nat.le_of_ble_eq_true rfl, Nat.le_of_ble_eq_true rfl⟩ ?_
        refine CG.mono (g_handS (W.q mQ.cod) hl) ?_
        rintro _ M1 ⟨rfl, hQ, l, W1⟩
        have hK := W1.1
        have hH := W1.2
        obtain ⟨⟨a0, a1, a2, a3⟩, hl8, hD, ao⟩ := W1.2
        have hn0 : _ ≤ 8 := hD.1
        have hn1 : _ ≤ 6 := hD.2.1.2
        have hn2 : _ ≤ 8 := hD.2.2.1
        first | refine G_bEq (pc := 10) f_303_10 rfl (fun b1 => ?_) (fun b1 => ?_) | refine G_zeqZ (pc := 10) f_303_10 rfl (by first | exact nI_toInt (by omega) | exact zI_toInt (by omega) (by omega) | rfl) (fun b1 => ?_) (fun b1 => ?_)
        · exact absurd trivial b1
        · refine G_S (pc := 13) f_303_13 rfl rfl rfl ?_
          refine G_ic (v := nI 0) (pc := 14) f_303_14 (by decide) ?_
          refine G_S (pc := 15) f_303_15 rfl rfl rfl ?_
          refine G_gIv (pc := 16) f_303_16 (by decide) rfl (by decide) (by first | assumption | exact hK.1 _ _ rfl) (by first | assumption | (try dsimp only) <;> (repeat (first | exact up2_s | refine up2_o (by first | decide | omega) ?_)) <;> first | assumption | rfl) ?_
          refine G_CS (pc := 19) f_303_19 rfl rfl (by decide) rfl rfl ⟨Nat.le_of_ble_eq_true rfl, Nat.le_of_ble_eq_true rfl⟩ ?_
          refine CG.go (m_inZ (by first | exact nI_toInt (by omega) | exact zI_toInt (by omega) (by omega) | rfl) (by first | exact nI_toInt (by omega) | exact zI_toInt (by omega) (by omega) | rfl) (by first | exact nI_toInt (by omega) | exact zI_toInt (by omega) (by omega) | rfl)) ?_
          first | refine G_bEq (pc := 22) f_303_22 rfl (fun b2 => ?_) (fun b2 => ?_) | refine G_zeqZ (pc := 22) f_303_22 rfl (by first | exact nI_toInt (by omega) | exact zI_toInt (by omega) (by omega) | rfl) (fun b2 => ?_) (fun b2 => ?_)
          · refine G_ic (v := zI (-1)) (pc := 49) f_303_49 (by decide) ?_
            refine G_ri (pc := 50) f_303_50 ?_
            exact ⟨by rw [fareF_o (Or.inl (by rw [nI_toInt (by omega)]; exact hc))], mQ.cod.tr hQ⟩
          · refine G_S (pc := 25) f_303_25 rfl rfl rfl ?_
            refine G_S (pc := 26) f_303_26 rfl rfl rfl ?_
            refine G_ic (v := nI 1) (pc := 27) f_303_27 (by decide) ?_
            first | refine G_addN (pc := 28) f_303_28 ?_ | refine G_addZ (pc := 28) f_303_28 (by first | rfl | exact nI_zI _) (by first | rfl | exact nI_zI _) ?_ | refine G_S (pc := 28) f_303_28 rfl rfl rfl ?_
            refine G_S (pc := 29) f_303_29 rfl rfl rfl ?_
            refine G_gIv (pc := 30) f_303_30 (by decide) rfl (by decide) (by first | assumption | exact hK.1 _ _ rfl) (by first | assumption | (try dsimp only) <;> (repeat (first | exact up2_s | refine up2_o (by first | decide | omega) ?_)) <;> first | assumption | rfl) ?_
            refine G_CS (pc := 33) f_303_33 rfl rfl (by decide) rfl rfl ⟨Nat.le_of_ble_eq_true rfl, Nat.le_of_ble_eq_true rfl⟩ ?_
            refine CG.go (m_inZ (by first | exact nI_toInt (by omega) | exact zI_toInt (by omega) (by omega) | rfl) (by first | exact nI_toInt (by omega) | exact zI_toInt (by omega) (by omega) | rfl) (by first | exact nI_toInt (by omega) | exact zI_toInt (by omega) (by omega) | rfl)) ?_
            first | refine G_bEq (pc := 36) f_303_36 rfl (fun b3 => ?_) (fun b3 => ?_) | refine G_zeqZ (pc := 36) f_303_36 rfl (by first | exact nI_toInt (by omega) | exact zI_toInt (by omega) (by omega) | rfl) (fun b3 => ?_) (fun b3 => ?_)
            · refine G_ic (v := zI (-1)) (pc := 49) f_303_49 (by decide) ?_
              refine G_ri (pc := 50) f_303_50 ?_
              exact ⟨by rw [fareF_o (Or.inl (by rw [nI_toInt (by omega)]; exact hc))], mQ.cod.tr hQ⟩
            · exfalso; omega
      · refine G_S (pc := 0) f_303_0 rfl rfl rfl ?_
        refine G_ic (v := nI 0) (pc := 1) f_303_1 (by decide) ?_
        refine G_pI (pc := 2) f_303_2 rfl (by first | assumption | exact hK.1 _ _ rfl) ?_
        refine G_S (pc := 5) f_303_5 rfl rfl rfl ?_
        refine G_S (pc := 6) f_303_6 rfl rfl rfl ?_
        refine G_CV (pc := 7) f_303_7 rfl rfl (by decide) rfl rfl (by first | assumption | exact hK.1 _ _ rfl) (by decide) ⟨Nat.le_of_ble_eq_true rfl, Nat.le_of_ble_eq_true rfl⟩ ?_
        refine CG.mono (g_handS (W.q mQ.cod) hl) ?_
        rintro _ M1 ⟨rfl, hQ, l, W1⟩
        have hK := W1.1
        have hH := W1.2
        obtain ⟨⟨a0, a1, a2, a3⟩, hl8, hD, ao⟩ := W1.2
        have hn0 : _ ≤ 8 := hD.1
        have hn1 : _ ≤ 6 := hD.2.1.2
        have hn2 : _ ≤ 8 := hD.2.2.1
        first | refine G_bEq (pc := 10) f_303_10 rfl (fun b1 => ?_) (fun b1 => ?_) | refine G_zeqZ (pc := 10) f_303_10 rfl (by first | exact nI_toInt (by omega) | exact zI_toInt (by omega) (by omega) | rfl) (fun b1 => ?_) (fun b1 => ?_)
        · exact absurd trivial b1
        · refine G_S (pc := 13) f_303_13 rfl rfl rfl ?_
          refine G_ic (v := nI 0) (pc := 14) f_303_14 (by decide) ?_
          refine G_S (pc := 15) f_303_15 rfl rfl rfl ?_
          refine G_gIv (pc := 16) f_303_16 (by decide) rfl (by decide) (by first | assumption | exact hK.1 _ _ rfl) (by first | assumption | (try dsimp only) <;> (repeat (first | exact up2_s | refine up2_o (by first | decide | omega) ?_)) <;> first | assumption | rfl) ?_
          refine G_CS (pc := 19) f_303_19 rfl rfl (by decide) rfl rfl ⟨Nat.le_of_ble_eq_true rfl, Nat.le_of_ble_eq_true rfl⟩ ?_
          refine CG.go (m_inZ (by first | exact nI_toInt (by omega) | exact zI_toInt (by omega) (by omega) | rfl) (by first | exact nI_toInt (by omega) | exact zI_toInt (by omega) (by omega) | rfl) (by first | exact nI_toInt (by omega) | exact zI_toInt (by omega) (by omega) | rfl)) ?_
          first | refine G_bEq (pc := 22) f_303_22 rfl (fun b2 => ?_) (fun b2 => ?_) | refine G_zeqZ (pc := 22) f_303_22 rfl (by first | exact nI_toInt (by omega) | exact zI_toInt (by omega) (by omega) | rfl) (fun b2 => ?_) (fun b2 => ?_)
          · refine G_ic (v := zI (-1)) (pc := 49) f_303_49 (by decide) ?_
            refine G_ri (pc := 50) f_303_50 ?_
            exact ⟨by rw [fareF_o (Or.inl hc)], mQ.cod.tr hQ⟩
          · exfalso; omega
end MFA
