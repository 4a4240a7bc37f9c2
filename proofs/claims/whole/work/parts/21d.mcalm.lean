/-! calm: the reference -/
def stS (a : Nat → Nat) : Nat → Nat → Int
  | 0 => S0
  | s + 1 => bdS (stS a s) (a s : Int) (s : Int)
section CAM
variable {C : Ct} {M : Mm} {n m l S : Nat} {L : Nat → Nat → Nat} {k x y z : Int32} {D a b : Nat → Nat}
theorem stS_seat {r : Nat} (hr : r < 8) : ∀ s, (∀ j, j < s → a j ≠ r) → stS a s (20 + r) = -1
  | 0, _ => if_pos (Or.inr (by omega))
  | s + 1, h => by
    have ih := stS_seat hr s (fun j hj => h j (by omega))
    have h1 := h s (by omega)
    rw [stS]
    unfold bdS
    rw [Int.toNat_natCast, Int.toNat_natCast, up1_o (by omega) rfl, up1_o (by omega) rfl, ih]
theorem stS_sit {j : Nat} (ha : ∀ i, i < m → a i < 8) : ∀ s, s ≤ m → stS a s (30 + j) = if j < s then (a j : Int) else -1
  | 0, _ => by
    rw [if_neg (by omega)]
    exact if_pos (Or.inr (by omega))
  | s + 1, h => by
    have ih := stS_sit (j := j) ha s (by omega)
    have h1 := ha s (by omega)
    rw [stS]
    unfold bdS
    rw [Int.toNat_natCast, Int.toNat_natCast]
    by_cases e : j = s
    · subst e
      rw [up1_s, if_pos (by omega)]
    · rw [up1_o (by omega) rfl, up1_o (by omega) rfl, ih]
      by_cases q : j < s
      · rw [if_pos q, if_pos (by omega)]
      · rw [if_neg q, if_neg (by omega)]
theorem shN_st (ha : ∀ i, i < m → a i < 8) : ∀ n, shN (stS a m) b n = shM a b (min n (m - 1))
  | 0 => by
    rw [Nat.zero_min]
    rfl
  | n + 1 => by
    have ih := shN_st ha n
    have e1 := stS_sit (j := n) ha m (Nat.le_refl _)
    have e2 := stS_sit (j := n + 1) ha m (Nat.le_refl _)
    rw [shN, ih, e1, e2]
    by_cases q : n + 1 < m
    · rw [if_pos (show n < m by omega), if_pos q, if_pos (by omega), Int.toNat_natCast, Int.toNat_natCast, show min (n + 1) (m - 1) = n + 1 by omega, show min n (m - 1) = n by omega]
      rfl
    · rw [if_neg q, if_neg (fun z => z.2 rfl), show min (n + 1) (m - 1) = min n (m - 1) by omega]
theorem n_great {c : Nat} (W : mH M l D) (hm : 1 ≤ m ∧ m ≤ 6) (hmd : m ≤ D 1) (hs : M.2.1 98 39 = nI m) (hq : ∀ i, i < m → M.2.1 115 i = nI (a i)) (ha : ∀ i, i < m → a i < D 2) (hj : ∀ i j, i < j → j < m → a i ≠ a j) (hc : c ≤ 9) : CG C 270 [.ref 98, .int (nI c)] M (fun w M' => w = some (.int (nI (mxA a (itN (fun b => shM a b (m - 1)) c (fun r => D (19 + r))) m))) ∧ Fm TO TFs M M') := by
  have hn2 : D 2 ≤ 8 := W.2.2.2.1.2.2.1
  have ha8 : ∀ i, i < m → a i < 8 := fun i hi => by have := ha i hi; omega
  have keep : ∀ {N}, Fm TO TFs M N → KM N.1 N.2.2.2 ∧ N.2.1 98 39 = nI m ∧ ∀ i, i < m → N.2.1 115 i = nI (a i) := fun hF => ⟨hF.K W.1, by rw [hF.2.2 39 (by decide)]; exact hs, by rw [(hF.2.1 115 (by decide) (by decide)).1]; exact hq⟩
  have loop3 : ∀ b M1, Fm TO TFs M M1 → TM M1 l D 0 (stS a m) b → ∀ i, i ≤ m → G C 270 (52, [some (.ref 98), some (.int (nI c)), some (.int (nI (mxA a b i))), some (.int (nI i))], [], [], M1) (fun w M' => w = some (.int (nI (mxA a b m))) ∧ Fm TO TFs M M') := by
    intro b M1 hF W1
    obtain ⟨hK, hs1, hq1⟩ := keep hF
    have hb := W1.2.2.1
    have hb9 : ∀ r, r < D 2 → b r ≤ 99 := fun r hr => (W1.2.2.2.2.2.2.2.2.2.2.1 r hr).2
    refine upto (fun i hi ih => ?_)
    have hmi := mxA_le ha hb9 i hi
    have h1 : i < m → M1.2.1 115 i = nI (a i) := fun z => hq1 i z
    have h2 : i < m → M1.2.1 110 (a i) = nI (b (a i)) ∧ b (a i) ≤ 99 ∧ a i < 8 := fun z => ⟨hb _ (ha i z), hb9 _ (ha i z), by have := ha i z; omega⟩
    refine G_S (pc := 52) f_270_52 rfl rfl rfl ?_
    refine G_S (pc := 53) f_270_53 rfl rfl rfl ?_
    refine G_gIv (pc := 54) f_270_54 (by decide) rfl (by decide) (by first | assumption | exact hK.1 _ _ rfl) (by first | assumption | exact mI_s | ((refine mI_o (by first | decide | omega) ?_); (repeat (refine mI_o (by first | decide | omega) ?_)); first | exact mI_s | assumption) | rfl) ?_
    refine G_jgeZ (pc := 57) f_270_57 rfl (by first | exact nI_toInt (by omega) | exact zI_toInt (by omega) (by omega) | rfl) (by first | exact nI_toInt (by omega) | exact zI_toInt (by omega) (by omega) | rfl) (fun b3 => ?_) (fun b3 => ?_)
    · refine G_S (pc := 82) f_270_82 rfl rfl rfl ?_
      refine G_ri (pc := 83) f_270_83 ?_
      rw [show i = m by omega]
      exact ⟨rfl, hF⟩
    · have h1 := h1 (by omega)
      obtain ⟨h2, h3, h4⟩ := h2 (by omega)
      refine G_S (pc := 60) f_270_60 rfl rfl rfl ?_
      refine G_S (pc := 61) f_270_61 rfl rfl rfl ?_
      refine G_gR (pc := 62) f_270_62 (by decide) rfl (by first | assumption | exact hK.1 _ _ rfl) (by first | assumption | exact hK.2 _ _ _ rfl | (try dsimp only) <;> (repeat (first | exact up2_s | refine up2_o (by first | decide | omega) ?_)) <;> first | assumption | exact hK.2 _ _ _ rfl) ?_
      refine G_S (pc := 65) f_270_65 rfl rfl rfl ?_
      refine G_gR (pc := 66) f_270_66 (by decide) rfl (by first | assumption | exact hK.1 _ _ rfl) (by first | assumption | exact hK.2 _ _ _ rfl | (try dsimp only) <;> (repeat (first | exact up2_s | refine up2_o (by first | decide | omega) ?_)) <;> first | assumption | exact hK.2 _ _ _ rfl) ?_
      refine G_S (pc := 69) f_270_69 rfl rfl rfl ?_
      refine G_iaN (pc := 70) f_270_70 (by first | assumption | exact hK.1 _ _ rfl) (by omega) (by omega) (by first | exact h1 | rfl) ?_
      refine G_iaN (pc := 71) f_270_71 (by first | assumption | exact hK.1 _ _ rfl) (by omega) (by omega) (by first | exact h2 | rfl) ?_
      refine G_CS (pc := 72) f_270_72 rfl rfl (by decide) rfl rfl ⟨Nat.le_of_ble_eq_true rfl, Nat.le_of_ble_eq_true rfl⟩ ?_
      refine CG.go (by first | exact m_greaterN (by omega) (by omega) | exact m_greaterZ (by first | exact nI_toInt (by omega) | exact zI_toInt (by omega) (by omega) | rfl) (by first | exact nI_toInt (by omega) | exact zI_toInt (by omega) (by omega) | rfl)) ?_
      refine G_S (pc := 75) f_270_75 rfl rfl rfl ?_
      first | refine G_inc1 (pc := 76) f_270_76 rfl ?_ | refine G_S (pc := 76) f_270_76 rfl rfl rfl ?_
      refine G_S (pc := 79) f_270_79 rfl rfl rfl ?_
      exact ih (by omega)
  have loop2 : ∀ d i, i + d = c → ∀ b M1 v, Fm TO TFs M M1 → TM M1 l D 0 (stS a m) b → itN (fun b => shM a b (m - 1)) d b = itN (fun b => shM a b (m - 1)) c (fun r => D (19 + r)) → G C 270 (33, [some (.ref 98), some (.int (nI c)), some (.int (nI i)), v], [], [], M1) (fun w M' => w = some (.int (nI (mxA a (itN (fun b => shM a b (m - 1)) c (fun r => D (19 + r))) m))) ∧ Fm TO TFs M M') := by
    intro d
    induction d with
    | zero =>
      intro i hi b M1 v hF W1 he
      have hK := (keep hF).1
      rw [itN] at he
      rw [← he]
      refine G_S (pc := 33) f_270_33 rfl rfl rfl ?_
      refine G_S (pc := 34) f_270_34 rfl rfl rfl ?_
      refine G_jgeZ (pc := 35) f_270_35 rfl (by first | exact nI_toInt (by omega) | exact zI_toInt (by omega) (by omega) | rfl) (by first | exact nI_toInt (by omega) | exact zI_toInt (by omega) (by omega) | rfl) (fun b2 => ?_) (fun b2 => ?_)
      · refine G_ic (v := nI 0) (pc := 48) f_270_48 (by decide) ?_
        refine G_S (pc := 49) f_270_49 rfl rfl rfl ?_
        refine G_ic (v := nI 0) (pc := 50) f_270_50 (by decide) ?_
        refine G_S (pc := 51) f_270_51 rfl rfl rfl ?_
        exact loop3 b M1 hF W1 0 (Nat.zero_le _)
      · exfalso; omega
    | succ d ih =>
      intro i hi b M1 v hF W1 he
      have hK := (keep hF).1
      refine G_S (pc := 33) f_270_33 rfl rfl rfl ?_
      refine G_S (pc := 34) f_270_34 rfl rfl rfl ?_
      refine G_jgeZ (pc := 35) f_270_35 rfl (by first | exact nI_toInt (by omega) | exact zI_toInt (by omega) (by omega) | rfl) (by first | exact nI_toInt (by omega) | exact zI_toInt (by omega) (by omega) | rfl) (fun b2 => ?_) (fun b2 => ?_)
      · exfalso; omega
      · refine G_S (pc := 38) f_270_38 rfl rfl rfl ?_
        refine G_CV (pc := 39) f_270_39 rfl rfl (by decide) rfl rfl (by first | assumption | exact hK.1 _ _ rfl) (by decide) ⟨Nat.le_of_ble_eq_true rfl, Nat.le_of_ble_eq_true rfl⟩ ?_
        refine CG.mono (n_shares W1) ?_
        rintro _ M2 ⟨rfl, hF2, W2⟩
        rw [shN_st ha8, show min (D 1 - 1) (m - 1) = m - 1 by omega] at W2
        first | refine G_inc1 (pc := 42) f_270_42 rfl ?_ | refine G_S (pc := 42) f_270_42 rfl rfl rfl ?_
        refine G_S (pc := 45) f_270_45 rfl rfl rfl ?_
        exact ih (i + 1) (by omega) _ M2 _ (hF.tr hF2) W2 he
  have loop1 : ∀ s, s ≤ m → ∀ M1 v, Fm TO TFs M M1 → TM M1 l D 0 (stS a s) (fun r => D (19 + r)) → G C 270 (6, [some (.ref 98), some (.int (nI c)), some (.int (nI s)), v], [], [], M1) (fun w M' => w = some (.int (nI (mxA a (itN (fun b => shM a b (m - 1)) c (fun r => D (19 + r))) m))) ∧ Fm TO TFs M M') := by
    refine upto (fun s hs' ih M1 v hF W1 => ?_)
    obtain ⟨hK, hs1, hq1⟩ := keep hF
    have hO := W1.2.2.2.2.2
    have h1 : s < m → M1.2.1 115 s = nI (a s) := fun z => hq1 s z
    have h2 : s < m → stS a s (20 + a s) = -1 := fun z => stS_seat (ha8 s z) s (fun j hj' => hj j s hj' z)
    refine G_S (pc := 6) f_270_6 rfl rfl rfl ?_
    refine G_S (pc := 7) f_270_7 rfl rfl rfl ?_
    refine G_gIv (pc := 8) f_270_8 (by decide) rfl (by decide) (by first | assumption | exact hK.1 _ _ rfl) (by first | assumption | exact mI_s | ((refine mI_o (by first | decide | omega) ?_); (repeat (refine mI_o (by first | decide | omega) ?_)); first | exact mI_s | assumption) | rfl) ?_
    refine G_jgeZ (pc := 11) f_270_11 rfl (by first | exact nI_toInt (by omega) | exact zI_toInt (by omega) (by omega) | rfl) (by first | exact nI_toInt (by omega) | exact zI_toInt (by omega) (by omega) | rfl) (fun b1 => ?_) (fun b1 => ?_)
    · refine G_ic (v := nI 0) (pc := 31) f_270_31 (by decide) ?_
      refine G_S (pc := 32) f_270_32 rfl rfl rfl ?_
      have e : s = m := by omega
      subst e
      exact loop2 c 0 (by omega) _ M1 _ hF W1 rfl
    · have h1 := h1 (by omega)
      have h2 := h2 (by omega)
      refine G_S (pc := 14) f_270_14 rfl rfl rfl ?_
      refine G_S (pc := 15) f_270_15 rfl rfl rfl ?_
      refine G_gR (pc := 16) f_270_16 (by decide) rfl (by first | assumption | exact hK.1 _ _ rfl) (by first | assumption | exact hK.2 _ _ _ rfl | (try dsimp only) <;> (repeat (first | exact up2_s | refine up2_o (by first | decide | omega) ?_)) <;> first | assumption | exact hK.2 _ _ _ rfl) ?_
      refine G_S (pc := 19) f_270_19 rfl rfl rfl ?_
      refine G_iaN (pc := 20) f_270_20 (by first | assumption | exact hK.1 _ _ rfl) (by omega) (by omega) (by first | exact h1 | rfl) ?_
      refine G_S (pc := 21) f_270_21 rfl rfl rfl ?_
      refine G_CV (pc := 22) f_270_22 rfl rfl (by decide) rfl rfl (by first | assumption | exact hK.1 _ _ rfl) (by decide) ⟨Nat.le_of_ble_eq_true rfl, Nat.le_of_ble_eq_true rfl⟩ ?_
      refine CG.mono ((by rw [nI_zI s]; exact n_sits W1 (ha s (by omega)) ⟨by omega, by omega⟩)) ?_
      rintro _ M2 ⟨rfl, hF2, V2⟩
      rw [sdS_bd h2 (by omega)] at V2
      first | refine G_inc1 (pc := 25) f_270_25 rfl ?_ | refine G_S (pc := 25) f_270_25 rfl rfl rfl ?_
      refine G_S (pc := 28) f_270_28 rfl rfl rfl ?_
      refine ih (by omega) M2 _ (hF.tr hF2) (V2.m (hO.bd hn2 ?_ ?_))
      · have := ha s (by omega)
        omega
      · omega
  have hK := W.1
  refine CG_in (mL := 4) (hl := false) (lv := [some (.ref 98), some (.int (nI c)), none, none]) (ll := []) rfl rfl rfl ?_
  refine G_S (pc := 0) f_270_0 rfl rfl rfl ?_
  refine G_CV (pc := 1) f_270_1 rfl rfl (by decide) rfl rfl (by first | assumption | exact hK.1 _ _ rfl) (by decide) ⟨Nat.le_of_ble_eq_true rfl, Nat.le_of_ble_eq_true rfl⟩ ?_
  refine CG.mono (n_begin W) ?_
  rintro _ M2 ⟨rfl, hF2, W2⟩
  refine G_ic (v := nI 0) (pc := 4) f_270_4 (by decide) ?_
  refine G_S (pc := 5) f_270_5 rfl rfl rfl ?_
  exact loop1 0 (Nat.zero_le _) M2 _ hF2 W2
/-- the reference in the midst -/
def BM (M : Mm) (D : Nat → Nat) (S : Nat) (q : Nat × Nat × Nat) : Prop := q.2.1 ≠ 0 → ∀ i, i < pc8 S → M.2.1 116 i = nI (odF S (D 2) (dg q.2.2 i))
def MOb : List Nat := [110, 111, 112, 115, 116]
def MFd : List Nat := [31, 32, 33, 34, 39]
def lsQ (q : Nat × Nat × Nat) : Nat := if q.2.1 = 0 then 1000000 else q.1
theorem g_calm2 {c : Nat} {l : Nat} (W : mH M l D) (hSD : S < 2 ^ D 2) (hp : 1 ≤ pc8 S ∧ pc8 S ≤ 6) (hse : pc8 S ≤ D 1) (h0 : S ≠ 0) (hc : c ≤ 9) (hz : z.toInt = 0 ∨ z.toInt = 1 ∨ (10 ≤ z.toInt ∧ z.toInt < 10 + (pc8 S : Int))) : ∀ f M1 cd q v8 v9, Fm MOb MFd M M1 → M1.2.1 98 39 = nI (pc8 S) → (∀ i, i < pc8 S → M1.2.1 115 i = nI (odF S (D 2) (dg cd i))) → BM M1 D S q → q.1 ≤ 99 ∧ q.2.1 + f ≤ 720 → endC (pc8 S) f cd = true → caF (grF D S c) (pc8 S) f cd q = calF D S c → G C 271 (121, [some (.ref 98), some (.int k), some (.int (nI S)), some (.int (nI c)), some (.int z), some (.int (nI (lsQ q))), some (.int (nI (q.2.1))), some (.int (nI 1)), v8, v9], [], [], M1) (fun w M' => w = some (.int (calA D S (nI c) z)) ∧ Fm MOb MFd M M') := by
  have hn2 : D 2 ≤ 8 := W.2.2.2.1.2.2.1
  have hS := pw2 hn2 hSD
  have hpc := pcN_at (D 2) (by omega) S hS hSD
  have hρ := odF_iff (S := S) (r := D 2) hpc.symm
  have hρ8 : ∀ i, i < pc8 S → odF S (D 2) i < D 2 := fun i hi => (odF_ok S (D 2)).1 i (by omega)
  have keep : ∀ {N}, Fm MOb MFd M N → mH N l D := fun hF => W.fm hF (by decide) (by decide)
  have ec : (nI c).toInt.toNat = c := by rw [nI_toInt (by omega), Int.toNat_natCast]
  have e0 : calA D S (nI c) z = if z.toInt = 0 then nI (calF D S c).1 else if z.toInt = 1 then nI (calF D S c).2.1 else if 10 ≤ z.toInt ∧ z.toInt < 10 + (pc8 S : Int) then nI (odF S (D 2) (dg (calF D S c).2.2 (z.toInt.toNat - 10))) else zI (-1) := by
    unfold calA
    rw [ec, if_neg (by rw [nI_toInt (by omega)]; omega)]
  rw [e0]
  intro f
  induction f with
  | zero =>
    intro M1 cd q v8 v9 hF hs hq hB hb he hcal
    cases he
  | succ f ih =>
    intro M1 cd q v8 v9 hF hs hq hB hb he hcal
    obtain ⟨hok, hen⟩ := endC_ok he
    have W1 := keep hF
    have hK := W1.1
    have hH := W1.2
    obtain ⟨⟨a0, a1, a2, a3⟩, hl8, hD, ao⟩ := W1.2
    have hn0 : _ ≤ 8 := hD.1
    have hn1 : _ ≤ 6 := hD.2.1.2
    have hn2 : _ ≤ 8 := hD.2.2.1
    have ha : ∀ i, i < pc8 S → odF S (D 2) (dg cd i) < D 2 := fun i hi => hρ8 _ (hok i hi).1
    have hj : ∀ i j, i < j → j < pc8 S → odF S (D 2) (dg cd i) ≠ odF S (D 2) (dg cd j) := fun i j hij hj' he' => (hok j hj').2 i hij (odF_inj hpc.symm (hok i (by omega)).1 (hok j hj').1 he').symm
    have hg9 : grF D S c cd ≤ 99 := mxA_le (a := fun i => odF S (D 2) (dg cd i)) ha (itN_le (a := fun i => odF S (D 2) (dg cd i)) ha c _ (fun r hr => by have := hD.2.2.2.2.2.1 r (by omega); omega)) (pc8 S) (Nat.le_refl _)
    have hcb := caS_b (cd := cd) (i := 720 - (f + 1)) hg9 ⟨hb.1, by omega⟩
    have tail : ∀ M3 v7 v9, Fm MOb MFd M M3 → M3.2.1 98 39 = nI (pc8 S) → (∀ i, i < pc8 S → M3.2.1 115 i = nI (odF S (D 2) (dg cd i))) → BM M3 D S (caS (grF D S c cd) cd q) → G C 271 (210, [some (.ref 98), some (.int k), some (.int (nI S)), some (.int (nI c)), some (.int z), some (.int (nI (((caS (grF D S c cd) cd q).1)))), some (.int (nI (((caS (grF D S c cd) cd q).2.1)))), v7, some (.int (nI (grF D S c cd))), v9], [], [], M3) (fun w M' => w = some (.int (if z.toInt = 0 then nI (calF D S c).1 else if z.toInt = 1 then nI (calF D S c).2.1 else if 10 ≤ z.toInt ∧ z.toInt < 10 + (pc8 S : Int) then nI (odF S (D 2) (dg (calF D S c).2.2 (z.toInt.toNat - 10))) else zI (-1))) ∧ Fm MOb MFd M M') := by
      intro M3 v7 v9 hF3 hs3 hq3 hB3
      have hK := (keep hF3).1
      have tn := n_next (C := C) (a := fun i => odF S (D 2) (dg cd i)) hK hs3 hp hq3 (fun r hr => by have := ha r hr; omega)
      obtain ⟨r0, r1⟩ := nxC_rho hρ hok
      rw [caF] at hcal
      cases hn : nxC (pc8 S) cd with
      | zero =>
        have e := r0 hn
        rw [e] at tn
        rw [hn] at hcal
        have hcal : caS (grF D S c cd) cd q = calF D S c := hcal
        rw [hcal] at hB3 hcb ⊢
        by_cases hz1 : 10 ≤ z.toInt
        · obtain ⟨e, he, rfl⟩ := i_nat (x := z) (n := 16) (by omega) (by omega)
          rw [nI_toInt (by omega)] at hz1 hz
          have qe := hB3 hcb.2.2 (e - 10) (by omega)
          refine G_S (pc := 210) f_271_210 rfl rfl rfl ?_
          refine G_CV (pc := 211) f_271_211 rfl rfl (by decide) rfl rfl (by first | assumption | exact hK.1 _ _ rfl) (by decide) ⟨Nat.le_of_ble_eq_true rfl, Nat.le_of_ble_eq_true rfl⟩ ?_
          refine CG.mono (tn) ?_
          rintro _ M4 ⟨rfl, hF4, _⟩
          have hK := hF4.K hK
          have hF9 := hF3.tr ((hF4.m (by decide)).sub (by decide) (by decide))
          rw [← (hF4.2 116 (by decide)).1] at qe
          refine G_S (pc := 214) f_271_214 rfl rfl rfl ?_
          refine G_S (pc := 216) f_271_216 rfl rfl rfl ?_
          refine G_S (pc := 121) f_271_121 rfl rfl rfl ?_
          first | refine G_bEq (pc := 123) f_271_123 rfl (fun b8 => ?_) (fun b8 => ?_) | refine G_zeqZ (pc := 123) f_271_123 rfl (by first | exact nI_toInt (by omega) | exact zI_toInt (by omega) (by omega) | rfl) (fun b8 => ?_) (fun b8 => ?_)
          · refine G_S (pc := 219) f_271_219 rfl rfl rfl ?_
            first | refine G_bNe (pc := 221) f_271_221 rfl (fun b13 => ?_) (fun b13 => ?_) | refine G_zneZ (pc := 221) f_271_221 rfl (by first | exact nI_toInt (by omega) | exact zI_toInt (by omega) (by omega) | rfl) (fun b13 => ?_) (fun b13 => ?_)
            · refine G_S (pc := 229) f_271_229 rfl rfl rfl ?_
              refine G_ic (v := nI 1) (pc := 231) f_271_231 (by decide) ?_
              refine G_jneZ (pc := 232) f_271_232 rfl (by first | exact nI_toInt (by omega) | exact zI_toInt (by omega) (by omega) | rfl) (by first | exact nI_toInt (by omega) | exact zI_toInt (by omega) (by omega) | rfl) (fun b14 => ?_) (fun b14 => ?_)
              · refine G_S (pc := 240) f_271_240 rfl rfl rfl ?_
                refine G_gR (pc := 241) f_271_241 (by decide) rfl (by first | assumption | exact hK.1 _ _ rfl) (by first | assumption | exact hK.2 _ _ _ rfl | (try dsimp only) <;> (repeat (first | exact up2_s | refine up2_o (by first | decide | omega) ?_)) <;> first | assumption | exact hK.2 _ _ _ rfl) ?_
                refine G_S (pc := 244) f_271_244 rfl rfl rfl ?_
                refine G_bi (v := nI 10) (pc := 246) f_271_246 (by decide) ?_
                first | refine G_subN (pc := 248) f_271_248 (by omega) ?_ | refine G_subZ (pc := 248) f_271_248 (by first | rfl | exact nI_zI _) (by first | rfl | exact nI_zI _) ?_ | refine G_S (pc := 248) f_271_248 rfl rfl rfl ?_
                refine G_iaN (pc := 249) f_271_249 (by first | assumption | exact hK.1 _ _ rfl) (by omega) (by omega) (by first | exact qe | rfl) ?_
                refine G_ri (pc := 250) f_271_250 ?_
                refine ⟨?_, hF9⟩
                rw [nI_toInt (by omega), if_neg (by omega), if_neg (by omega), if_pos (by omega), Int.toNat_natCast]
              · exfalso; omega
            · exfalso; omega
          · exact absurd b8 (by decide)
        · refine G_S (pc := 210) f_271_210 rfl rfl rfl ?_
          refine G_CV (pc := 211) f_271_211 rfl rfl (by decide) rfl rfl (by first | assumption | exact hK.1 _ _ rfl) (by decide) ⟨Nat.le_of_ble_eq_true rfl, Nat.le_of_ble_eq_true rfl⟩ ?_
          refine CG.mono (tn) ?_
          rintro _ M4 ⟨rfl, hF4, _⟩
          have hK := hF4.K hK
          have hF9 := hF3.tr ((hF4.m (by decide)).sub (by decide) (by decide))
          refine G_S (pc := 214) f_271_214 rfl rfl rfl ?_
          refine G_S (pc := 216) f_271_216 rfl rfl rfl ?_
          refine G_S (pc := 121) f_271_121 rfl rfl rfl ?_
          first | refine G_bEq (pc := 123) f_271_123 rfl (fun b8 => ?_) (fun b8 => ?_) | refine G_zeqZ (pc := 123) f_271_123 rfl (by first | exact nI_toInt (by omega) | exact zI_toInt (by omega) (by omega) | rfl) (fun b8 => ?_) (fun b8 => ?_)
          · refine G_S (pc := 219) f_271_219 rfl rfl rfl ?_
            first | refine G_bNe (pc := 221) f_271_221 rfl (fun b13 => ?_) (fun b13 => ?_) | refine G_zneZ (pc := 221) f_271_221 rfl (by first | exact nI_toInt (by omega) | exact zI_toInt (by omega) (by omega) | rfl) (fun b13 => ?_) (fun b13 => ?_)
            · refine G_S (pc := 229) f_271_229 rfl rfl rfl ?_
              refine G_ic (v := nI 1) (pc := 231) f_271_231 (by decide) ?_
              refine G_jneZ (pc := 232) f_271_232 rfl (by first | exact nI_toInt (by omega) | exact zI_toInt (by omega) (by omega) | rfl) (by first | exact nI_toInt (by omega) | exact zI_toInt (by omega) (by omega) | rfl) (fun b14 => ?_) (fun b14 => ?_)
              · exfalso; omega
              · refine G_S (pc := 235) f_271_235 rfl rfl rfl ?_
                refine G_S (pc := 237) f_271_237 rfl rfl rfl ?_
                refine G_ri (pc := 250) f_271_250 ?_
                refine ⟨?_, hF9⟩
                first
                  | (exfalso; omega)
                  | rw [if_pos (by omega)]
                  | rw [if_neg (by omega), if_pos (by omega)]
            · refine G_S (pc := 224) f_271_224 rfl rfl rfl ?_
              refine G_S (pc := 226) f_271_226 rfl rfl rfl ?_
              refine G_ri (pc := 250) f_271_250 ?_
              refine ⟨?_, hF9⟩
              first
                | (exfalso; omega)
                | rw [if_pos (by omega)]
                | rw [if_neg (by omega), if_pos (by omega)]
          · exact absurd b8 (by decide)
      | succ c' =>
        obtain ⟨a', e, e2⟩ := r1 c' hn
        rw [e] at tn
        rw [hn] at hcal
        have hcal : caF (grF D S c) (pc8 S) f c' (caS (grF D S c cd) cd q) = calF D S c := hcal
        have el : (caS (grF D S c cd) cd q).1 = lsQ (caS (grF D S c cd) cd q) := by
          unfold lsQ
          rw [if_neg hcb.2.2]
        rw [el]
        refine G_S (pc := 210) f_271_210 rfl rfl rfl ?_
        refine G_CV (pc := 211) f_271_211 rfl rfl (by decide) rfl rfl (by first | assumption | exact hK.1 _ _ rfl) (by decide) ⟨Nat.le_of_ble_eq_true rfl, Nat.le_of_ble_eq_true rfl⟩ ?_
        refine CG.mono (tn) ?_
        rintro _ M4 ⟨rfl, hF4, hq4⟩
        refine G_S (pc := 214) f_271_214 rfl rfl rfl ?_
        refine G_S (pc := 216) f_271_216 rfl rfl rfl ?_
        rw [b2i_1 (show (some a').isSome = true from rfl)]
        have hF9 := (hF4.m (by decide)).sub (os' := MOb) (fs' := MFd) (by decide) (by decide)
        refine ih M4 c' _ _ _ (hF3.tr hF9) (by rw [(hF4.2 98 (by decide)).1]; exact hs3) (fun r hr => ?_) (fun w => by rw [(hF4.2 116 (by decide)).1]; exact hB3 w) ⟨hcb.1, by omega⟩ (hen c' hn) hcal
        rw [hq4 a' rfl r hr, e2 r hr]
    have tg : CG C 270 [.ref 98, .int (nI c)] M1 (fun w M' => w = some (.int (nI (grF D S c cd))) ∧ Fm TO TFs M1 M') := n_great (C := C) (a := fun i => odF S (D 2) (dg cd i)) W1 hp hse hs hq ha hj hc
    have hls : lsQ q ≤ 1000000 := by
      unfold lsQ
      split <;> omega
    have hkp : ∀ {N}, Fm TO TFs M1 N → KM N.1 N.2.2.2 ∧ N.2.1 98 39 = nI (pc8 S) ∧ (∀ i, i < pc8 S → N.2.1 115 i = nI (odF S (D 2) (dg cd i))) ∧ BM N D S q ∧ Fm MOb MFd M N := fun hF2 => ⟨hF2.K hK, by rw [hF2.2.2 39 (by decide)]; exact hs, by rw [(hF2.2.1 115 (by decide) (by decide)).1]; exact hq, fun w => by rw [(hF2.2.1 116 (by decide) (by decide)).1]; exact hB w, hF.tr (hF2.sub (by decide) (by decide))⟩
    by_cases hlt : grF D S c cd < lsQ q
    · have ecs : caS (grF D S c cd) cd q = (grF D S c cd, 1, cd) := by
        unfold caS
        unfold lsQ at hlt
        by_cases hw : q.2.1 = 0
        · rw [if_pos (Or.inl hw)]
        · rw [if_neg hw] at hlt
          rw [if_pos (Or.inr hlt)]
      rw [ecs] at tail
      have loop3 : ∀ N, Fm MOb MFd M N → KM N.1 N.2.2.2 → N.2.1 98 39 = nI (pc8 S) → (∀ i, i < pc8 S → N.2.1 115 i = nI (odF S (D 2) (dg cd i))) → ∀ s, s ≤ pc8 S → ∀ M3, Fo [116] N M3 → (∀ j, j < s → M3.2.1 116 j = nI (odF S (D 2) (dg cd j))) → G C 271 (136, [some (.ref 98), some (.int k), some (.int (nI S)), some (.int (nI c)), some (.int z), some (.int (nI (lsQ q))), some (.int (nI (q.2.1))), some (.int (nI 1)), some (.int (nI (grF D S c cd))), some (.int (nI s))], [], [], M3) (fun w M' => w = some (.int (if z.toInt = 0 then nI (calF D S c).1 else if z.toInt = 1 then nI (calF D S c).2.1 else if 10 ≤ z.toInt ∧ z.toInt < 10 + (pc8 S : Int) then nI (odF S (D 2) (dg (calF D S c).2.2 (z.toInt.toNat - 10))) else zI (-1))) ∧ Fm MOb MFd M M') := by
        intro N hFN hKN hsN hqN
        refine upto (fun s hss ih3 M3 hF3 hb3 => ?_)
        have hK := hF3.K hKN
        have hs3 : M3.2.1 98 39 = nI (pc8 S) := by rw [(hF3.2 98 (by decide)).1]; exact hsN
        have hq3 : ∀ i, i < pc8 S → M3.2.1 115 i = nI (odF S (D 2) (dg cd i)) := by rw [(hF3.2 115 (by decide)).1]; exact hqN
        have h1 : s < pc8 S → M3.2.1 115 s = nI (odF S (D 2) (dg cd s)) := fun z => hq3 s z
        refine G_S (pc := 136) f_271_136 rfl rfl rfl ?_
        refine G_S (pc := 138) f_271_138 rfl rfl rfl ?_
        refine G_gIv (pc := 139) f_271_139 (by decide) rfl (by decide) (by first | assumption | exact hK.1 _ _ rfl) (by first | assumption | exact mI_s | ((refine mI_o (by first | decide | omega) ?_); (repeat (refine mI_o (by first | decide | omega) ?_)); first | exact mI_s | assumption) | rfl) ?_
        refine G_jgeZ (pc := 142) f_271_142 rfl (by first | exact nI_toInt (by omega) | exact zI_toInt (by omega) (by omega) | rfl) (by first | exact nI_toInt (by omega) | exact zI_toInt (by omega) (by omega) | rfl) (fun b9 => ?_) (fun b9 => ?_)
        · refine G_S (pc := 172) f_271_172 rfl rfl rfl ?_
          refine G_S (pc := 174) f_271_174 rfl rfl rfl ?_
          refine G_jgeZ (pc := 176) f_271_176 rfl (by first | exact nI_toInt (by omega) | exact zI_toInt (by omega) (by omega) | rfl) (by first | exact nI_toInt (by omega) | exact zI_toInt (by omega) (by omega) | rfl) (fun b11 => ?_) (fun b11 => ?_)
          · exfalso; omega
          · refine G_ic (v := nI 1) (pc := 179) f_271_179 (by decide) ?_
            refine G_S (pc := 180) f_271_180 rfl rfl rfl ?_
            refine G_S (pc := 199) f_271_199 rfl rfl rfl ?_
            refine G_S (pc := 201) f_271_201 rfl rfl rfl ?_
            refine G_S (pc := 203) f_271_203 rfl rfl rfl ?_
            refine G_CS (pc := 205) f_271_205 rfl rfl (by decide) rfl rfl ⟨Nat.le_of_ble_eq_true rfl, Nat.le_of_ble_eq_true rfl⟩ ?_
            refine CG.go (by first | exact m_lesserN (by omega) (by omega) | exact m_lesserZ (by first | exact nI_toInt (by omega) | exact zI_toInt (by omega) (by omega) | rfl) (by first | exact nI_toInt (by omega) | exact zI_toInt (by omega) (by omega) | rfl)) ?_
            refine G_S (pc := 208) f_271_208 rfl rfl rfl ?_
            have em : min (lsQ q) (grF D S c cd) = grF D S c cd := by omega
            rw [em]
            exact tail M3 _ _ (hFN.tr ((hF3.m (by decide)).sub (by decide) (by decide))) hs3 hq3 (fun _ i hi => hb3 i (by omega))
        · have h1 := h1 (by omega)
          refine G_S (pc := 145) f_271_145 rfl rfl rfl ?_
          refine G_S (pc := 147) f_271_147 rfl rfl rfl ?_
          refine G_jgeZ (pc := 149) f_271_149 rfl (by first | exact nI_toInt (by omega) | exact zI_toInt (by omega) (by omega) | rfl) (by first | exact nI_toInt (by omega) | exact zI_toInt (by omega) (by omega) | rfl) (fun b10 => ?_) (fun b10 => ?_)
          · exfalso; omega
          · refine G_S (pc := 152) f_271_152 rfl rfl rfl ?_
            refine G_gR (pc := 153) f_271_153 (by decide) rfl (by first | assumption | exact hK.1 _ _ rfl) (by first | assumption | exact hK.2 _ _ _ rfl | (try dsimp only) <;> (repeat (first | exact up2_s | refine up2_o (by first | decide | omega) ?_)) <;> first | assumption | exact hK.2 _ _ _ rfl) ?_
            refine G_S (pc := 156) f_271_156 rfl rfl rfl ?_
            refine G_S (pc := 158) f_271_158 rfl rfl rfl ?_
            refine G_gR (pc := 159) f_271_159 (by decide) rfl (by first | assumption | exact hK.1 _ _ rfl) (by first | assumption | exact hK.2 _ _ _ rfl | (try dsimp only) <;> (repeat (first | exact up2_s | refine up2_o (by first | decide | omega) ?_)) <;> first | assumption | exact hK.2 _ _ _ rfl) ?_
            refine G_S (pc := 162) f_271_162 rfl rfl rfl ?_
            refine G_iaN (pc := 164) f_271_164 (by first | assumption | exact hK.1 _ _ rfl) (by omega) (by omega) (by first | exact h1 | rfl) ?_
            refine G_isN (pc := 165) f_271_165 (by first | assumption | exact hK.1 _ _ rfl) (by omega) (by omega) ?_
            first | refine G_inc1 (pc := 166) f_271_166 rfl ?_ | refine G_S (pc := 166) f_271_166 rfl rfl rfl ?_
            refine G_S (pc := 169) f_271_169 rfl rfl rfl ?_
            refine ih3 (by omega) _ (hF3.tr (Fo.up (i := 116) (k := s) (x := nI (odF S (D 2) (dg cd s))) (by decide))) (fun j hj => ?_)
            by_cases e : j = s
            · subst e
              exact (by (try dsimp only); exact up2_s)
            · exact (by (try dsimp only); exact up2_o (by omega) (hb3 j (by omega)))
      refine G_S (pc := 121) f_271_121 rfl rfl rfl ?_
      first | refine G_bEq (pc := 123) f_271_123 rfl (fun b8 => ?_) (fun b8 => ?_) | refine G_zeqZ (pc := 123) f_271_123 rfl (by first | exact nI_toInt (by omega) | exact zI_toInt (by omega) (by omega) | rfl) (fun b8 => ?_) (fun b8 => ?_)
      · exfalso; omega
      · refine G_S (pc := 126) f_271_126 rfl rfl rfl ?_
        refine G_S (pc := 127) f_271_127 rfl rfl rfl ?_
        refine G_CV (pc := 128) f_271_128 rfl rfl (by decide) rfl rfl (by first | assumption | exact hK.1 _ _ rfl) (by decide) ⟨Nat.le_of_ble_eq_true rfl, Nat.le_of_ble_eq_true rfl⟩ ?_
        refine CG.mono (tg) ?_
        rintro _ M2 ⟨rfl, hF2⟩
        obtain ⟨hK2, hs2, hq2, hB2, hFM⟩ := hkp hF2
        refine G_S (pc := 131) f_271_131 rfl rfl rfl ?_
        refine G_ic (v := nI 0) (pc := 133) f_271_133 (by decide) ?_
        refine G_S (pc := 134) f_271_134 rfl rfl rfl ?_
        exact loop3 M2 hFM hK2 hs2 hq2 0 (Nat.zero_le _) M2 Fo.rf (fun j hj => absurd hj (by omega))
    · have hw : q.2.1 ≠ 0 := fun w => by
        unfold lsQ at hlt
        rw [if_pos w] at hlt
        omega
      have hl : lsQ q = q.1 := by
        unfold lsQ
        rw [if_neg hw]
      rw [hl] at hlt ⊢
      by_cases heq : grF D S c cd = q.1
      · have ecs : caS (grF D S c cd) cd q = (q.1, q.2.1 + 1, q.2.2) := by
          unfold caS
          rw [if_neg (by omega), if_pos heq]
        rw [ecs] at tail
        refine G_S (pc := 121) f_271_121 rfl rfl rfl ?_
        first | refine G_bEq (pc := 123) f_271_123 rfl (fun b8 => ?_) (fun b8 => ?_) | refine G_zeqZ (pc := 123) f_271_123 rfl (by first | exact nI_toInt (by omega) | exact zI_toInt (by omega) (by omega) | rfl) (fun b8 => ?_) (fun b8 => ?_)
        · exfalso; omega
        · refine G_S (pc := 126) f_271_126 rfl rfl rfl ?_
          refine G_S (pc := 127) f_271_127 rfl rfl rfl ?_
          refine G_CV (pc := 128) f_271_128 rfl rfl (by decide) rfl rfl (by first | assumption | exact hK.1 _ _ rfl) (by decide) ⟨Nat.le_of_ble_eq_true rfl, Nat.le_of_ble_eq_true rfl⟩ ?_
          refine CG.mono (tg) ?_
          rintro _ M2 ⟨rfl, hF2⟩
          obtain ⟨hK2, hs2, hq2, hB2, hFM⟩ := hkp hF2
          have hK := hK2
          refine G_S (pc := 131) f_271_131 rfl rfl rfl ?_
          refine G_ic (v := nI 0) (pc := 133) f_271_133 (by decide) ?_
          refine G_S (pc := 134) f_271_134 rfl rfl rfl ?_
          refine G_S (pc := 136) f_271_136 rfl rfl rfl ?_
          refine G_S (pc := 138) f_271_138 rfl rfl rfl ?_
          refine G_gIv (pc := 139) f_271_139 (by decide) rfl (by decide) (by first | assumption | exact hK.1 _ _ rfl) (by first | assumption | exact mI_s | ((refine mI_o (by first | decide | omega) ?_); (repeat (refine mI_o (by first | decide | omega) ?_)); first | exact mI_s | assumption) | rfl) ?_
          refine G_jgeZ (pc := 142) f_271_142 rfl (by first | exact nI_toInt (by omega) | exact zI_toInt (by omega) (by omega) | rfl) (by first | exact nI_toInt (by omega) | exact zI_toInt (by omega) (by omega) | rfl) (fun b9 => ?_) (fun b9 => ?_)
          · exfalso; omega
          · refine G_S (pc := 145) f_271_145 rfl rfl rfl ?_
            refine G_S (pc := 147) f_271_147 rfl rfl rfl ?_
            refine G_jgeZ (pc := 149) f_271_149 rfl (by first | exact nI_toInt (by omega) | exact zI_toInt (by omega) (by omega) | rfl) (by first | exact nI_toInt (by omega) | exact zI_toInt (by omega) (by omega) | rfl) (fun b10 => ?_) (fun b10 => ?_)
            · refine G_S (pc := 172) f_271_172 rfl rfl rfl ?_
              refine G_S (pc := 174) f_271_174 rfl rfl rfl ?_
              refine G_jgeZ (pc := 176) f_271_176 rfl (by first | exact nI_toInt (by omega) | exact zI_toInt (by omega) (by omega) | rfl) (by first | exact nI_toInt (by omega) | exact zI_toInt (by omega) (by omega) | rfl) (fun b11 => ?_) (fun b11 => ?_)
              · refine G_S (pc := 183) f_271_183 rfl rfl rfl ?_
                refine G_S (pc := 185) f_271_185 rfl rfl rfl ?_
                refine G_jneZ (pc := 187) f_271_187 rfl (by first | exact nI_toInt (by omega) | exact zI_toInt (by omega) (by omega) | rfl) (by first | exact nI_toInt (by omega) | exact zI_toInt (by omega) (by omega) | rfl) (fun b12 => ?_) (fun b12 => ?_)
                · exfalso; omega
                · refine G_S (pc := 190) f_271_190 rfl rfl rfl ?_
                  refine G_ic (v := nI 1) (pc := 192) f_271_192 (by decide) ?_
                  first | refine G_addN (pc := 193) f_271_193 ?_ | refine G_addZ (pc := 193) f_271_193 (by first | rfl | exact nI_zI _) (by first | rfl | exact nI_zI _) ?_ | refine G_S (pc := 193) f_271_193 rfl rfl rfl ?_
                  refine G_S (pc := 194) f_271_194 rfl rfl rfl ?_
                  refine G_S (pc := 199) f_271_199 rfl rfl rfl ?_
                  refine G_S (pc := 201) f_271_201 rfl rfl rfl ?_
                  refine G_S (pc := 203) f_271_203 rfl rfl rfl ?_
                  refine G_CS (pc := 205) f_271_205 rfl rfl (by decide) rfl rfl ⟨Nat.le_of_ble_eq_true rfl, Nat.le_of_ble_eq_true rfl⟩ ?_
                  refine CG.go (by first | exact m_lesserN (by omega) (by omega) | exact m_lesserZ (by first | exact nI_toInt (by omega) | exact zI_toInt (by omega) (by omega) | rfl) (by first | exact nI_toInt (by omega) | exact zI_toInt (by omega) (by omega) | rfl)) ?_
                  refine G_S (pc := 208) f_271_208 rfl rfl rfl ?_
                  have em : min q.1 (grF D S c cd) = q.1 := by omega
                  rw [em]
                  exact tail M2 _ _ hFM hs2 hq2 (fun _ => hB2 hw)
              · exfalso; omega
            · exfalso; omega
      · have ecs : caS (grF D S c cd) cd q = q := by
          unfold caS
          rw [if_neg (by omega), if_neg heq]
        rw [ecs] at tail
        refine G_S (pc := 121) f_271_121 rfl rfl rfl ?_
        first | refine G_bEq (pc := 123) f_271_123 rfl (fun b8 => ?_) (fun b8 => ?_) | refine G_zeqZ (pc := 123) f_271_123 rfl (by first | exact nI_toInt (by omega) | exact zI_toInt (by omega) (by omega) | rfl) (fun b8 => ?_) (fun b8 => ?_)
        · exfalso; omega
        · refine G_S (pc := 126) f_271_126 rfl rfl rfl ?_
          refine G_S (pc := 127) f_271_127 rfl rfl rfl ?_
          refine G_CV (pc := 128) f_271_128 rfl rfl (by decide) rfl rfl (by first | assumption | exact hK.1 _ _ rfl) (by decide) ⟨Nat.le_of_ble_eq_true rfl, Nat.le_of_ble_eq_true rfl⟩ ?_
          refine CG.mono (tg) ?_
          rintro _ M2 ⟨rfl, hF2⟩
          obtain ⟨hK2, hs2, hq2, hB2, hFM⟩ := hkp hF2
          have hK := hK2
          refine G_S (pc := 131) f_271_131 rfl rfl rfl ?_
          refine G_ic (v := nI 0) (pc := 133) f_271_133 (by decide) ?_
          refine G_S (pc := 134) f_271_134 rfl rfl rfl ?_
          refine G_S (pc := 136) f_271_136 rfl rfl rfl ?_
          refine G_S (pc := 138) f_271_138 rfl rfl rfl ?_
          refine G_gIv (pc := 139) f_271_139 (by decide) rfl (by decide) (by first | assumption | exact hK.1 _ _ rfl) (by first | assumption | exact mI_s | ((refine mI_o (by first | decide | omega) ?_); (repeat (refine mI_o (by first | decide | omega) ?_)); first | exact mI_s | assumption) | rfl) ?_
          refine G_jgeZ (pc := 142) f_271_142 rfl (by first | exact nI_toInt (by omega) | exact zI_toInt (by omega) (by omega) | rfl) (by first | exact nI_toInt (by omega) | exact zI_toInt (by omega) (by omega) | rfl) (fun b9 => ?_) (fun b9 => ?_)
          · exfalso; omega
          · refine G_S (pc := 145) f_271_145 rfl rfl rfl ?_
            refine G_S (pc := 147) f_271_147 rfl rfl rfl ?_
            refine G_jgeZ (pc := 149) f_271_149 rfl (by first | exact nI_toInt (by omega) | exact zI_toInt (by omega) (by omega) | rfl) (by first | exact nI_toInt (by omega) | exact zI_toInt (by omega) (by omega) | rfl) (fun b10 => ?_) (fun b10 => ?_)
            · refine G_S (pc := 172) f_271_172 rfl rfl rfl ?_
              refine G_S (pc := 174) f_271_174 rfl rfl rfl ?_
              refine G_jgeZ (pc := 176) f_271_176 rfl (by first | exact nI_toInt (by omega) | exact zI_toInt (by omega) (by omega) | rfl) (by first | exact nI_toInt (by omega) | exact zI_toInt (by omega) (by omega) | rfl) (fun b11 => ?_) (fun b11 => ?_)
              · refine G_S (pc := 183) f_271_183 rfl rfl rfl ?_
                refine G_S (pc := 185) f_271_185 rfl rfl rfl ?_
                refine G_jneZ (pc := 187) f_271_187 rfl (by first | exact nI_toInt (by omega) | exact zI_toInt (by omega) (by omega) | rfl) (by first | exact nI_toInt (by omega) | exact zI_toInt (by omega) (by omega) | rfl) (fun b12 => ?_) (fun b12 => ?_)
                · refine G_S (pc := 197) f_271_197 rfl rfl rfl ?_
                  refine G_S (pc := 199) f_271_199 rfl rfl rfl ?_
                  refine G_S (pc := 201) f_271_201 rfl rfl rfl ?_
                  refine G_S (pc := 203) f_271_203 rfl rfl rfl ?_
                  refine G_CS (pc := 205) f_271_205 rfl rfl (by decide) rfl rfl ⟨Nat.le_of_ble_eq_true rfl, Nat.le_of_ble_eq_true rfl⟩ ?_
                  refine CG.go (by first | exact m_lesserN (by omega) (by omega) | exact m_lesserZ (by first | exact nI_toInt (by omega) | exact zI_toInt (by omega) (by omega) | rfl) (by first | exact nI_toInt (by omega) | exact zI_toInt (by omega) (by omega) | rfl)) ?_
                  refine G_S (pc := 208) f_271_208 rfl rfl rfl ?_
                  have em : min q.1 (grF D S c cd) = q.1 := by omega
                  rw [em]
                  exact tail M2 _ _ hFM hs2 hq2 hB2
                · exfalso; omega
              · exfalso; omega
            · exfalso; omega
theorem g_calm (W : MLs M n L) : CG C 271 [.ref 98, .int k, .int x, .int y, .int z] M (fun w M' => w = some (.int (aFor (slin n L k x) (fun D S => calA D S y z))) ∧ mQ M M') := by
  have hK := W.1
  cases hx : slin n L k x with
  | none =>
    refine CG_in (mL := 10) (hl := false) (lv := [some (.ref 98), some (.int k), some (.int x), some (.int y), some (.int z), none, none, none, none, none]) (ll := []) rfl rfl rfl ?_
    refine G_S (pc := 0) f_271_0 rfl rfl rfl ?_
    refine G_ic (v := nI 0) (pc := 1) f_271_1 (by decide) ?_
    refine G_pI (pc := 2) f_271_2 rfl (by first | assumption | exact hK.1 _ _ rfl) ?_
    refine G_S (pc := 5) f_271_5 rfl rfl rfl ?_
    refine G_S (pc := 6) f_271_6 rfl rfl rfl ?_
    refine G_S (pc := 7) f_271_7 rfl rfl rfl ?_
    refine G_CV (pc := 8) f_271_8 rfl rfl (by decide) rfl rfl (by first | assumption | exact hK.1 _ _ rfl) (by decide) ⟨Nat.le_of_ble_eq_true rfl, Nat.le_of_ble_eq_true rfl⟩ ?_
    refine CG.mono (g_for0 (W.q mQ.cod) hx) ?_
    rintro _ M1 ⟨rfl, hQ⟩
    first | refine G_bEq (pc := 11) f_271_11 rfl (fun b1 => ?_) (fun b1 => ?_) | refine G_zeqZ (pc := 11) f_271_11 rfl (by first | exact nI_toInt (by omega) | exact zI_toInt (by omega) (by omega) | rfl) (fun b1 => ?_) (fun b1 => ?_)
    · refine G_ic (v := zI (-1)) (pc := 55) f_271_55 (by decide) ?_
      refine G_ri (pc := 56) f_271_56 ?_
      exact ⟨rfl, mQ.cod.tr hQ⟩
    · exact absurd b1 id
  | some q =>
    obtain ⟨D, S⟩ := q
    obtain ⟨hS, rfl, hse⟩ := sea_some (slin_some hx).2
    show CG C 271 [.ref 98, .int k, .int (nI S), .int y, .int z] M (fun w M' => w = some (.int (calA D S y z)) ∧ mQ M M')
    by_cases hy : (S ≠ 0 ∧ 0 ≤ y.toInt ∧ y.toInt ≤ 9) ∧ (z.toInt = 0 ∨ z.toInt = 1 ∨ (10 ≤ z.toInt ∧ z.toInt < 10 + (pc8 S : Int)))
    · obtain ⟨⟨h0, hy1, hy2⟩, hz⟩ := hy
      obtain ⟨c, hc, rfl⟩ := i_nat (x := y) (n := 10) hy1 (by omega)
      rw [nI_toInt (by omega)] at hy1 hy2
      have loop1 : ∀ l M0, mH M0 l D → ∀ i, i ≤ D 2 → ∀ M1 v6 v7 v8 v9, Fm MOb MFd M0 M1 → M1.2.1 98 39 = nI (pcN S i) → (∀ j, j < pcN S i → M1.2.1 115 j = nI (odF S i j)) → G C 271 (65, [some (.ref 98), some (.int k), some (.int (nI S)), some (.int (nI c)), some (.int z), some (.int (nI i)), v6, v7, v8, v9], [], [], M1) (fun w M' => w = some (.int (calA D S (nI c) z)) ∧ Fm MOb MFd M0 M') := by
        intro l M0 W0
        have hn2 : D 2 ≤ 8 := W0.2.2.2.1.2.2.1
        have hn1 : D 1 ≤ 6 := W0.2.2.2.1.2.1.2
        have hS8 := pw2 hn2 hS
        have hpc := pcN_at (D 2) (by omega) S hS8 hS
        have hp1 := pc8_z S hS8 h0
        have mono : ∀ d i, i + d = D 2 → pcN S i ≤ pc8 S := by
          intro d
          induction d with
          | zero =>
            intro i hi
            rw [← hpc, show i = D 2 by omega]
            exact Nat.le_refl _
          | succ d ih =>
            intro i hi
            have := ih (i + 1) (by omega)
            by_cases hb : S.testBit i = true
            · rw [pcN_y hb] at this
              omega
            · rw [pcN_n hb] at this
              exact this
        refine upto (fun i hi ih M1 v6 v7 v8 v9 hF h39 hq => ?_)
        have W1 : mH M1 l D := W0.fm hF (by decide) (by decide)
        have hK := W1.1
        have hH := W1.2
        obtain ⟨⟨a0, a1, a2, a3⟩, hl8, hD, ao⟩ := W1.2
        have hn0 : _ ≤ 8 := hD.1
        have hn1 : _ ≤ 6 := hD.2.1.2
        have hn2 : _ ≤ 8 := hD.2.2.1
        have hle := mono (D 2 - i) i (by omega)
        have hb1 : i < D 2 → S.testBit i = true → pcN S i < 6 := fun z hb => by
          have := mono (D 2 - (i + 1)) (i + 1) (by omega)
          rw [pcN_y hb] at this
          omega
        refine G_S (pc := 65) f_271_65 rfl rfl rfl ?_
        refine G_S (pc := 67) f_271_67 rfl rfl rfl ?_
        refine G_gIv (pc := 68) f_271_68 (by decide) rfl (by decide) (by first | assumption | exact hK.1 _ _ rfl) (by first | assumption | exact mI_s | ((refine mI_o (by first | decide | omega) ?_); (repeat (refine mI_o (by first | decide | omega) ?_)); first | exact mI_s | assumption) | rfl) ?_
        refine G_jgeZ (pc := 71) f_271_71 rfl (by first | exact nI_toInt (by omega) | exact zI_toInt (by omega) (by omega) | rfl) (by first | exact nI_toInt (by omega) | exact zI_toInt (by omega) (by omega) | rfl) (fun b6 => ?_) (fun b6 => ?_)
        · refine G_lc (v := zI 1000000) (pc := 110) f_271_110 rfl (by decide) ?_
          refine G_S (pc := 113) f_271_113 rfl rfl rfl ?_
          refine G_ic (v := nI 0) (pc := 115) f_271_115 (by decide) ?_
          refine G_S (pc := 116) f_271_116 rfl rfl rfl ?_
          refine G_ic (v := nI 1) (pc := 118) f_271_118 (by decide) ?_
          refine G_S (pc := 119) f_271_119 rfl rfl rfl ?_
          have e : i = D 2 := by omega
          subst e
          rw [hpc] at h39 hq
          have hid : ∀ i, i < pc8 S → dg (c0 (pc8 S)) i = i := fun i hi => dg_enc (pc8 S) (fun i hi => by omega) i hi
          exact g_calm2 W0 hS ⟨hp1, by omega⟩ hse h0 (by omega) hz 720 M1 (c0 (pc8 S)) (0, 0, 0) _ _ hF h39 (fun i hi => by rw [hid i hi]; exact hq i hi) (fun w => absurd rfl w) ⟨by decide, by decide⟩ (endC_0 (pc8 S) (by omega)) rfl
        · refine G_S (pc := 74) f_271_74 rfl rfl rfl ?_
          refine G_S (pc := 75) f_271_75 rfl rfl rfl ?_
          refine G_CS (pc := 77) f_271_77 rfl rfl (by decide) rfl rfl ⟨Nat.le_of_ble_eq_true rfl, Nat.le_of_ble_eq_true rfl⟩ ?_
          refine CG.go (m_hasN (by omega) (by omega)) ?_
          first | refine G_bEq (pc := 80) f_271_80 rfl (fun b7 => ?_) (fun b7 => ?_) | refine G_zeqZ (pc := 80) f_271_80 rfl (by first | exact nI_toInt (by omega) | exact zI_toInt (by omega) (by omega) | rfl) (fun b7 => ?_) (fun b7 => ?_)
          · first | refine G_inc1 (pc := 104) f_271_104 rfl ?_ | refine G_S (pc := 104) f_271_104 rfl rfl rfl ?_
            refine G_S (pc := 107) f_271_107 rfl rfl rfl ?_
            first
              | (refine ih (by omega) M1 _ _ _ _ hF ?_ ?_
                 · rw [pcN_n b7]
                   exact h39
                 · rw [pcN_n b7, odF, if_neg b7]
                   exact hq)
              | (refine ih (by omega) _ _ _ _ _ (hF.tr ((Fm.up (i := 115) (k := pcN S i) (x := nI i) (by decide) (by decide)).tr (Fm.upf (k := 39) (x := nI (pcN S i + 1)) (by decide)))) ?_ ?_
                 · rw [pcN_y b7]
                   exact (by (try dsimp only); exact up2_s)
                 · intro j hj
                   rw [pcN_y b7] at hj
                   rw [odF, if_pos b7]
                   by_cases e : j = pcN S i
                   · subst e
                     rw [up1_s]
                     exact (by (try dsimp only); exact up2_o (by omega) (by (try dsimp only); exact up2_s))
                   · rw [up1_o e rfl]
                     exact (by (try dsimp only); exact up2_o (by omega) (by (try dsimp only); exact up2_o (by omega) (hq j (by omega)))))
          · have hb1 := hb1 (by omega) b7
            refine G_S (pc := 83) f_271_83 rfl rfl rfl ?_
            refine G_gR (pc := 84) f_271_84 (by decide) rfl (by first | assumption | exact hK.1 _ _ rfl) (by first | assumption | exact hK.2 _ _ _ rfl | (try dsimp only) <;> (repeat (first | exact up2_s | refine up2_o (by first | decide | omega) ?_)) <;> first | assumption | exact hK.2 _ _ _ rfl) ?_
            refine G_S (pc := 87) f_271_87 rfl rfl rfl ?_
            refine G_gIv (pc := 88) f_271_88 (by decide) rfl (by decide) (by first | assumption | exact hK.1 _ _ rfl) (by first | assumption | exact mI_s | ((refine mI_o (by first | decide | omega) ?_); (repeat (refine mI_o (by first | decide | omega) ?_)); first | exact mI_s | assumption) | rfl) ?_
            refine G_S (pc := 91) f_271_91 rfl rfl rfl ?_
            refine G_isN (pc := 93) f_271_93 (by first | assumption | exact hK.1 _ _ rfl) (by omega) (by omega) ?_
            refine G_S (pc := 94) f_271_94 rfl rfl rfl ?_
            refine G_S (pc := 95) f_271_95 rfl rfl rfl ?_
            refine G_gIv (pc := 96) f_271_96 (by decide) rfl (by decide) (by first | assumption | exact hK.1 _ _ rfl) ((mI_o (by omega) h39)) ?_
            refine G_ic (v := nI 1) (pc := 99) f_271_99 (by decide) ?_
            first | refine G_addN (pc := 100) f_271_100 ?_ | refine G_addZ (pc := 100) f_271_100 (by first | rfl | exact nI_zI _) (by first | rfl | exact nI_zI _) ?_ | refine G_S (pc := 100) f_271_100 rfl rfl rfl ?_
            refine G_pI (pc := 101) f_271_101 rfl (by first | assumption | exact hK.1 _ _ rfl) ?_
            first | refine G_inc1 (pc := 104) f_271_104 rfl ?_ | refine G_S (pc := 104) f_271_104 rfl rfl rfl ?_
            refine G_S (pc := 107) f_271_107 rfl rfl rfl ?_
            first
              | (refine ih (by omega) M1 _ _ _ _ hF ?_ ?_
                 · rw [pcN_n b7]
                   exact h39
                 · rw [pcN_n b7, odF, if_neg b7]
                   exact hq)
              | (refine ih (by omega) _ _ _ _ _ (hF.tr ((Fm.up (i := 115) (k := pcN S i) (x := nI i) (by decide) (by decide)).tr (Fm.upf (k := 39) (x := nI (pcN S i + 1)) (by decide)))) ?_ ?_
                 · rw [pcN_y b7]
                   exact (by (try dsimp only); exact up2_s)
                 · intro j hj
                   rw [pcN_y b7] at hj
                   rw [odF, if_pos b7]
                   by_cases e : j = pcN S i
                   · subst e
                     rw [up1_s]
                     exact (by (try dsimp only); exact up2_o (by omega) (by (try dsimp only); exact up2_s))
                   · rw [up1_o e rfl]
                     exact (by (try dsimp only); exact up2_o (by omega) (by (try dsimp only); exact up2_o (by omega) (hq j (by omega)))))
      refine CG_in (mL := 10) (hl := false) (lv := [some (.ref 98), some (.int k), some (.int (nI S)), some (.int (nI c)), some (.int z), none, none, none, none, none]) (ll := []) rfl rfl rfl ?_
      refine G_S (pc := 0) f_271_0 rfl rfl rfl ?_
      refine G_ic (v := nI 0) (pc := 1) f_271_1 (by decide) ?_
      refine G_pI (pc := 2) f_271_2 rfl (by first | assumption | exact hK.1 _ _ rfl) ?_
      refine G_S (pc := 5) f_271_5 rfl rfl rfl ?_
      refine G_S (pc := 6) f_271_6 rfl rfl rfl ?_
      refine G_S (pc := 7) f_271_7 rfl rfl rfl ?_
      refine G_CV (pc := 8) f_271_8 rfl rfl (by decide) rfl rfl (by first | assumption | exact hK.1 _ _ rfl) (by decide) ⟨Nat.le_of_ble_eq_true rfl, Nat.le_of_ble_eq_true rfl⟩ ?_
      refine CG.mono (g_for1 (W.q mQ.cod) hx) ?_
      rintro _ M1 ⟨rfl, hQ, l, W1⟩
      have hK := W1.1
      have hH := W1.2
      obtain ⟨⟨a0, a1, a2, a3⟩, hl8, hD, ao⟩ := W1.2
      have hn0 : _ ≤ 8 := hD.1
      have hn1 : _ ≤ 6 := hD.2.1.2
      have hn2 : _ ≤ 8 := hD.2.2.1
      have hQ := mQ.cod.tr hQ
      have hS8 := pw2 hn2 hS
      have hpc8 := pc8_le S hS8
      first | refine G_bEq (pc := 11) f_271_11 rfl (fun b1 => ?_) (fun b1 => ?_) | refine G_zeqZ (pc := 11) f_271_11 rfl (by first | exact nI_toInt (by omega) | exact zI_toInt (by omega) (by omega) | rfl) (fun b1 => ?_) (fun b1 => ?_)
      · exact absurd trivial b1
      · refine G_S (pc := 14) f_271_14 rfl rfl rfl ?_
        first | refine G_bEq (pc := 15) f_271_15 rfl (fun b2 => ?_) (fun b2 => ?_) | refine G_zeqZ (pc := 15) f_271_15 rfl (by first | exact nI_toInt (by omega) | exact zI_toInt (by omega) (by omega) | rfl) (fun b2 => ?_) (fun b2 => ?_)
        · exfalso; omega
        · refine G_S (pc := 18) f_271_18 rfl rfl rfl ?_
          refine G_ic (v := nI 0) (pc := 19) f_271_19 (by decide) ?_
          refine G_bi (v := nI 9) (pc := 20) f_271_20 (by decide) ?_
          refine G_CS (pc := 22) f_271_22 rfl rfl (by decide) rfl rfl ⟨Nat.le_of_ble_eq_true rfl, Nat.le_of_ble_eq_true rfl⟩ ?_
          refine CG.go (m_inZ (by first | exact nI_toInt (by omega) | exact zI_toInt (by omega) (by omega) | rfl) (by first | exact nI_toInt (by omega) | exact zI_toInt (by omega) (by omega) | rfl) (by first | exact nI_toInt (by omega) | exact zI_toInt (by omega) (by omega) | rfl)) ?_
          first | refine G_bEq (pc := 25) f_271_25 rfl (fun b3 => ?_) (fun b3 => ?_) | refine G_zeqZ (pc := 25) f_271_25 rfl (by first | exact nI_toInt (by omega) | exact zI_toInt (by omega) (by omega) | rfl) (fun b3 => ?_) (fun b3 => ?_)
          · exfalso; omega
          · refine G_S (pc := 28) f_271_28 rfl rfl rfl ?_
            refine G_ic (v := nI 0) (pc := 30) f_271_30 (by decide) ?_
            refine G_ic (v := nI 1) (pc := 31) f_271_31 (by decide) ?_
            refine G_CS (pc := 32) f_271_32 rfl rfl (by decide) rfl rfl ⟨Nat.le_of_ble_eq_true rfl, Nat.le_of_ble_eq_true rfl⟩ ?_
            refine CG.go (m_inZ (by first | exact nI_toInt (by omega) | exact zI_toInt (by omega) (by omega) | rfl) (by first | exact nI_toInt (by omega) | exact zI_toInt (by omega) (by omega) | rfl) (by first | exact nI_toInt (by omega) | exact zI_toInt (by omega) (by omega) | rfl)) ?_
            first | refine G_bNe (pc := 35) f_271_35 rfl (fun b4 => ?_) (fun b4 => ?_) | refine G_zneZ (pc := 35) f_271_35 rfl (by first | exact nI_toInt (by omega) | exact zI_toInt (by omega) (by omega) | rfl) (fun b4 => ?_) (fun b4 => ?_)
            · refine G_S (pc := 57) f_271_57 rfl rfl rfl ?_
              refine G_ic (v := nI 0) (pc := 58) f_271_58 (by decide) ?_
              refine G_pI (pc := 59) f_271_59 rfl (by first | assumption | exact hK.1 _ _ rfl) ?_
              refine G_ic (v := nI 0) (pc := 62) f_271_62 (by decide) ?_
              refine G_S (pc := 63) f_271_63 rfl rfl rfl ?_
              have hF1 : Fm MOb MFd M1 (M1.1, up2 M1.2.1 98 39 (nI 0), M1.2.2.1, M1.2.2.2) := Fm.upf (k := 39) (x := nI 0) (by decide)
              refine G.mono (loop1 l M1 W1 0 (Nat.zero_le _) _ _ _ _ _ hF1 (by (try dsimp only); exact up2_s) (fun j hj => absurd hj (by show ¬ j < 0; omega))) ?_
              rintro w M9 ⟨g1, g2⟩
              exact ⟨g1, hQ.tr (g2.q (by decide))⟩
            · refine G_S (pc := 38) f_271_38 rfl rfl rfl ?_
              refine G_bi (v := nI 10) (pc := 40) f_271_40 (by decide) ?_
              refine G_bi (v := nI 9) (pc := 42) f_271_42 (by decide) ?_
              refine G_S (pc := 44) f_271_44 rfl rfl rfl ?_
              refine G_CS (pc := 45) f_271_45 rfl rfl (by decide) rfl rfl ⟨Nat.le_of_ble_eq_true rfl, Nat.le_of_ble_eq_true rfl⟩ ?_
              refine CG.go (m_onesN hS8) ?_
              first | refine G_addN (pc := 48) f_271_48 ?_ | refine G_addZ (pc := 48) f_271_48 (by first | rfl | exact nI_zI _) (by first | rfl | exact nI_zI _) ?_ | refine G_S (pc := 48) f_271_48 rfl rfl rfl ?_
              refine G_CS (pc := 49) f_271_49 rfl rfl (by decide) rfl rfl ⟨Nat.le_of_ble_eq_true rfl, Nat.le_of_ble_eq_true rfl⟩ ?_
              refine CG.go (m_inZ (by first | exact nI_toInt (by omega) | exact zI_toInt (by omega) (by omega) | rfl) (by first | exact nI_toInt (by omega) | exact zI_toInt (by omega) (by omega) | rfl) (by first | exact nI_toInt (by omega) | exact zI_toInt (by omega) (by omega) | rfl)) ?_
              first | refine G_bNe (pc := 52) f_271_52 rfl (fun b5 => ?_) (fun b5 => ?_) | refine G_zneZ (pc := 52) f_271_52 rfl (by first | exact nI_toInt (by omega) | exact zI_toInt (by omega) (by omega) | rfl) (fun b5 => ?_) (fun b5 => ?_)
              · refine G_S (pc := 57) f_271_57 rfl rfl rfl ?_
                refine G_ic (v := nI 0) (pc := 58) f_271_58 (by decide) ?_
                refine G_pI (pc := 59) f_271_59 rfl (by first | assumption | exact hK.1 _ _ rfl) ?_
                refine G_ic (v := nI 0) (pc := 62) f_271_62 (by decide) ?_
                refine G_S (pc := 63) f_271_63 rfl rfl rfl ?_
                have hF1 : Fm MOb MFd M1 (M1.1, up2 M1.2.1 98 39 (nI 0), M1.2.2.1, M1.2.2.2) := Fm.upf (k := 39) (x := nI 0) (by decide)
                refine G.mono (loop1 l M1 W1 0 (Nat.zero_le _) _ _ _ _ _ hF1 (by (try dsimp only); exact up2_s) (fun j hj => absurd hj (by show ¬ j < 0; omega))) ?_
                rintro w M9 ⟨g1, g2⟩
                exact ⟨g1, hQ.tr (g2.q (by decide))⟩
              · exfalso; omega
    · have e0 : calA D S y z = zI (-1) := by
        unfold calA
        by_cases h1 : S = 0 ∨ y.toInt < 0 ∨ 9 < y.toInt
        · rw [if_pos h1]
        · rw [if_neg h1, if_neg (by omega), if_neg (by omega), if_neg (by omega)]
      rw [e0]
      refine CG_in (mL := 10) (hl := false) (lv := [some (.ref 98), some (.int k), some (.int (nI S)), some (.int y), some (.int z), none, none, none, none, none]) (ll := []) rfl rfl rfl ?_
      refine G_S (pc := 0) f_271_0 rfl rfl rfl ?_
      refine G_ic (v := nI 0) (pc := 1) f_271_1 (by decide) ?_
      refine G_pI (pc := 2) f_271_2 rfl (by first | assumption | exact hK.1 _ _ rfl) ?_
      refine G_S (pc := 5) f_271_5 rfl rfl rfl ?_
      refine G_S (pc := 6) f_271_6 rfl rfl rfl ?_
      refine G_S (pc := 7) f_271_7 rfl rfl rfl ?_
      refine G_CV (pc := 8) f_271_8 rfl rfl (by decide) rfl rfl (by first | assumption | exact hK.1 _ _ rfl) (by decide) ⟨Nat.le_of_ble_eq_true rfl, Nat.le_of_ble_eq_true rfl⟩ ?_
      refine CG.mono (g_for1 (W.q mQ.cod) hx) ?_
      rintro _ M1 ⟨rfl, hQ, l, W1⟩
      have hK := W1.1
      have hH := W1.2
      obtain ⟨⟨a0, a1, a2, a3⟩, hl8, hD, ao⟩ := W1.2
      have hn0 : _ ≤ 8 := hD.1
      have hn1 : _ ≤ 6 := hD.2.1.2
      have hn2 : _ ≤ 8 := hD.2.2.1
      have hQ := mQ.cod.tr hQ
      have hS8 := pw2 hn2 hS
      have hpc8 := pc8_le S hS8
      first | refine G_bEq (pc := 11) f_271_11 rfl (fun b1 => ?_) (fun b1 => ?_) | refine G_zeqZ (pc := 11) f_271_11 rfl (by first | exact nI_toInt (by omega) | exact zI_toInt (by omega) (by omega) | rfl) (fun b1 => ?_) (fun b1 => ?_)
      · exact absurd trivial b1
      · refine G_S (pc := 14) f_271_14 rfl rfl rfl ?_
        first | refine G_bEq (pc := 15) f_271_15 rfl (fun b2 => ?_) (fun b2 => ?_) | refine G_zeqZ (pc := 15) f_271_15 rfl (by first | exact nI_toInt (by omega) | exact zI_toInt (by omega) (by omega) | rfl) (fun b2 => ?_) (fun b2 => ?_)
        · refine G_ic (v := zI (-1)) (pc := 55) f_271_55 (by decide) ?_
          refine G_ri (pc := 56) f_271_56 ?_
          exact ⟨rfl, hQ⟩
        · refine G_S (pc := 18) f_271_18 rfl rfl rfl ?_
          refine G_ic (v := nI 0) (pc := 19) f_271_19 (by decide) ?_
          refine G_bi (v := nI 9) (pc := 20) f_271_20 (by decide) ?_
          refine G_CS (pc := 22) f_271_22 rfl rfl (by decide) rfl rfl ⟨Nat.le_of_ble_eq_true rfl, Nat.le_of_ble_eq_true rfl⟩ ?_
          refine CG.go (m_inZ (by first | exact nI_toInt (by omega) | exact zI_toInt (by omega) (by omega) | rfl) (by first | exact nI_toInt (by omega) | exact zI_toInt (by omega) (by omega) | rfl) (by first | exact nI_toInt (by omega) | exact zI_toInt (by omega) (by omega) | rfl)) ?_
          first | refine G_bEq (pc := 25) f_271_25 rfl (fun b3 => ?_) (fun b3 => ?_) | refine G_zeqZ (pc := 25) f_271_25 rfl (by first | exact nI_toInt (by omega) | exact zI_toInt (by omega) (by omega) | rfl) (fun b3 => ?_) (fun b3 => ?_)
          · refine G_ic (v := zI (-1)) (pc := 55) f_271_55 (by decide) ?_
            refine G_ri (pc := 56) f_271_56 ?_
            exact ⟨rfl, hQ⟩
          · refine G_S (pc := 28) f_271_28 rfl rfl rfl ?_
            refine G_ic (v := nI 0) (pc := 30) f_271_30 (by decide) ?_
            refine G_ic (v := nI 1) (pc := 31) f_271_31 (by decide) ?_
            refine G_CS (pc := 32) f_271_32 rfl rfl (by decide) rfl rfl ⟨Nat.le_of_ble_eq_true rfl, Nat.le_of_ble_eq_true rfl⟩ ?_
            refine CG.go (m_inZ (by first | exact nI_toInt (by omega) | exact zI_toInt (by omega) (by omega) | rfl) (by first | exact nI_toInt (by omega) | exact zI_toInt (by omega) (by omega) | rfl) (by first | exact nI_toInt (by omega) | exact zI_toInt (by omega) (by omega) | rfl)) ?_
            first | refine G_bNe (pc := 35) f_271_35 rfl (fun b4 => ?_) (fun b4 => ?_) | refine G_zneZ (pc := 35) f_271_35 rfl (by first | exact nI_toInt (by omega) | exact zI_toInt (by omega) (by omega) | rfl) (fun b4 => ?_) (fun b4 => ?_)
            · exfalso
              omega
            · refine G_S (pc := 38) f_271_38 rfl rfl rfl ?_
              refine G_bi (v := nI 10) (pc := 40) f_271_40 (by decide) ?_
              refine G_bi (v := nI 9) (pc := 42) f_271_42 (by decide) ?_
              refine G_S (pc := 44) f_271_44 rfl rfl rfl ?_
              refine G_CS (pc := 45) f_271_45 rfl rfl (by decide) rfl rfl ⟨Nat.le_of_ble_eq_true rfl, Nat.le_of_ble_eq_true rfl⟩ ?_
              refine CG.go (m_onesN hS8) ?_
              first | refine G_addN (pc := 48) f_271_48 ?_ | refine G_addZ (pc := 48) f_271_48 (by first | rfl | exact nI_zI _) (by first | rfl | exact nI_zI _) ?_ | refine G_S (pc := 48) f_271_48 rfl rfl rfl ?_
              refine G_CS (pc := 49) f_271_49 rfl rfl (by decide) rfl rfl ⟨Nat.le_of_ble_eq_true rfl, Nat.le_of_ble_eq_true rfl⟩ ?_
              refine CG.go (m_inZ (by first | exact nI_toInt (by omega) | exact zI_toInt (by omega) (by omega) | rfl) (by first | exact nI_toInt (by omega) | exact zI_toInt (by omega) (by omega) | rfl) (by first | exact nI_toInt (by omega) | exact zI_toInt (by omega) (by omega) | rfl)) ?_
              first | refine G_bNe (pc := 52) f_271_52 rfl (fun b5 => ?_) (fun b5 => ?_) | refine G_zneZ (pc := 52) f_271_52 rfl (by first | exact nI_toInt (by omega) | exact zI_toInt (by omega) (by omega) | rfl) (fun b5 => ?_) (fun b5 => ?_)
              · exfalso
                omega
              · refine G_ic (v := zI (-1)) (pc := 55) f_271_55 (by decide) ?_
                refine G_ri (pc := 56) f_271_56 ?_
                exact ⟨rfl, hQ⟩
end CAM
