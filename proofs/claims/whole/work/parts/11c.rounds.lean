/-! rounds: how often by turns -/
def tnF (D : Nat → Nat) (S1 S2 : Nat) : Nat → Nat → (Nat → Nat) → Nat
  | 0, n, _ => n
  | f + 1, n, b => if (cmF D (if n % 2 = 0 then S1 else S2) (D 0) 0 b).1 = D 0 then tnF D S1 S2 f (n + 1) (cmF D (if n % 2 = 0 then S1 else S2) (D 0) 0 b).2 else n
section OR
variable {C : Ct} {S l : Nat} {D : Nat → Nat}
theorem m_rounds_loop (hS : S < 256) {f0 : Int32} (hnh : D 0 ≤ 8) : ∀ (d n : Nat), n + d = 100 → ∀ (M : Mm) (b : Nat → Nat), KM M.1 M.2.2.2 → HA M l D → (∀ r, r < D 2 → M.2.1 110 r = nI (b r) ∧ b r < 256) → G C 267 (23, [some (.ref 98), some (.int f0), some (.int (nI S)), some (.int (nI n))], [], [], M) (fun w M' => w = some (.int (nI (tnF D S S d n b))) ∧ Fo [110] M M') := by
  intro d
  induction d with
  | zero =>
    intro n hn M b hK hH hb
    have hn : n = 100 := by omega
    subst hn
    refine G_S (pc := 23) f_267_23 rfl rfl rfl ?_
    refine G_bi (v := 100) (pc := 24) f_267_24 (by decide) ?_
    refine G_jge (pc := 26) f_267_26 rfl (fun h26 => ?_) (fun h26 => ?_)
    · refine G_S (pc := 48) f_267_48 rfl rfl rfl ?_
      exact G_ri (pc := 49) f_267_49 ⟨rfl, Fo.rf⟩
    · exact absurd (show (100 : Int32) ≤ nI 100 from by decide) h26
  | succ d ih =>
    intro n hn M b hK hH hb
    have hle := (cmF_le D S (D 0) 0 b).2.1
    have hbb := (cmF_le D S (D 0) 0 b).2.2
    have hif : (if n % 2 = 0 then S else S) = S := by split <;> rfl
    refine G_S (pc := 23) f_267_23 rfl rfl rfl ?_
    refine G_bi (v := 100) (pc := 24) f_267_24 (by decide) ?_
    refine G_jge (pc := 26) f_267_26 rfl (fun h26 => ?_) (fun h26 => ?_)
    · first
        | exact absurd h26 (nI_ge (b := 100) (by omega) (by decide))
        | exact G_S (pc := 48) f_267_48 rfl rfl rfl (G_ri (pc := 49) f_267_49 (by rw [tnF, hif, if_neg (fun q => h39 (congrArg nI q))]; exact ⟨rfl, hF⟩))
    · refine G_S (pc := 29) f_267_29 rfl rfl rfl ?_
      refine G_S (pc := 30) f_267_30 rfl rfl rfl ?_
      refine G_ic (v := 0) (pc := 31) f_267_31 rfl ?_
      refine G_CV (pc := 32) f_267_32 rfl rfl (by decide) rfl rfl (by first | assumption | exact hK.1 _ _ rfl) (by decide) ⟨Nat.le_of_ble_eq_true rfl, Nat.le_of_ble_eq_true rfl⟩ ?_
      refine CG.mono (m_comes (k := 0) hK hH hS hb (Nat.zero_le _)) ?_
      rintro _ M32 ⟨rfl, hF, hw⟩
      rw [Nat.sub_zero] at hw ⊢
      have hK := hF.K hK
      have hH := hH.fo hF (by decide) (by decide)
      refine G_S (pc := 35) f_267_35 rfl rfl rfl ?_
      refine G_gI (pc := 36) f_267_36 (by decide) rfl (by decide) (by first | assumption | exact hK.1 _ _ rfl) ?_
      rw [hH.1.2.1]
      refine G_jne (pc := 39) f_267_39 rfl (fun h39 => ?_) (fun h39 => ?_)
      · first
          | exact absurd h26 (nI_ge (b := 100) (by omega) (by decide))
          | exact G_S (pc := 48) f_267_48 rfl rfl rfl (G_ri (pc := 49) f_267_49 (by rw [tnF, hif, if_neg (fun q => h39 (congrArg nI q))]; exact ⟨rfl, hF⟩))
      · first | refine G_inc1 (pc := 42) f_267_42 rfl ?_ | refine G_S (pc := 42) f_267_42 rfl rfl rfl ?_
        refine G_S (pc := 45) f_267_45 rfl rfl rfl ?_
        have he : (cmF D S (D 0) 0 b).1 = D 0 := g_inj (by omega) (by omega) h39
        refine G.mono (ih (n + 1) (by omega) _ (cmF D S (D 0) 0 b).2 hK hH (fun r hr => ⟨hw r hr, by have := hbb r; have := (hb r hr).2; omega⟩)) ?_
        rintro w M9 ⟨h1, h2⟩
        rw [tnF, hif, if_pos he]
        exact ⟨h1, hF.tr h2⟩
end OR
