/-! what is asked of a line alone: the class -/
def lnP (D : Nat → Nat) (p k : Nat) : Int32 :=
  if p = 1 then (if k < D 0 then nI (D (3 + k)) else zI (-1)) else if p = 2 then (if k < D 2 then nI (D (11 + k)) else zI (-1)) else if p = 3 then (if k < D 2 then nI (D (19 + k)) else zI (-1))
  else if p = 4 then (if k < 4 then nI (D (27 + k)) else zI (-1)) else if p = 5 then (if 1 ≤ k ∧ k ≤ 8 then nI (D (30 + k)) else zI (-1)) else if p = 6 then (if k < D 2 then nI (pl (D (11 + k)) (D (19 + k))) else zI (-1)) else zI (-1)
def lnF (D : Nat → Nat) (x : Int32) : Int32 := if x.toInt < 0 then zI (-1) else if x.toInt < 10 then (if x.toInt < 3 then nI (D x.toInt.toNat) else zI (-1)) else lnP D (x.toInt.toNat / 10) (x.toInt.toNat % 10)
def rkN (D : Nat → Nat) (h : Nat) : Nat → Nat
  | 0 => 0
  | o + 1 => rkN D h o + (if D (3 + h) < D (3 + o) ∨ (D (3 + o) = D (3 + h) ∧ o < h) then 1 else 0)
theorem rkN_le (D : Nat → Nat) (h : Nat) : ∀ n, rkN D h n ≤ n
  | 0 => Nat.le_refl _
  | n + 1 => by
    have := rkN_le D h n
    rw [rkN]
    split <;> omega
def rtB (D : Nat → Nat) (x : Int32) (h : Nat) : Bool := decide ((rkN D h (D 0) : Int) = x.toInt)
/-- the least fares of so many hills and the fewest tickets, as one number -/
def tkI (D t : Nat → Nat) (n : Nat) : Nat → Nat
  | 0 => D (30 + n) * 16 + 1
  | j + 1 => if j = 0 then D (30 + n) * 16 + 1 else min (tkI D t n j) (D (30 + j) * 16 + 1 + t (n - j))
def tkF (D : Nat → Nat) : Nat → Nat → Nat
  | 0 => fun _ => 0
  | n + 1 => fun s => if s = n + 1 then tkI D (tkF D n) (n + 1) (n + 1) else tkF D n s
theorem tkI_le0 (D t : Nat → Nat) (n : Nat) : ∀ j, tkI D t n j ≤ D (30 + n) * 16 + 1
  | 0 => Nat.le_refl _
  | j + 1 => by
    have := tkI_le0 D t n j
    rw [tkI]
    split
    · exact Nat.le_refl _
    · omega
theorem tkF_le {D : Nat → Nat} (hD : DOK D) : ∀ n, n ≤ 8 → ∀ s, tkF D n s ≤ 1585
  | 0, _, s => Nat.zero_le _
  | n + 1, hn, s => by
    show (if s = n + 1 then tkI D (tkF D n) (n + 1) (n + 1) else tkF D n s) ≤ 1585
    split
    · have h1 := tkI_le0 D (tkF D n) (n + 1) (n + 1)
      have h2 := hD.2.2.2.2.2.2.2 n (by omega)
      rw [show 31 + n = 30 + (n + 1) by omega] at h2
      omega
    · exact tkF_le hD n (by omega) s
def loF (D : Nat → Nat) (fr to : Nat) : Nat → Nat
  | 0 => to
  | m + 1 => if D (30 + (to + 1 + m - fr)) < D (30 + (loF D fr to m - fr)) then to + 1 + m else loF D fr to m
theorem loF_le (D : Nat → Nat) (fr to : Nat) : ∀ m, to ≤ loF D fr to m ∧ loF D fr to m ≤ to + m
  | 0 => ⟨Nat.le_refl _, Nat.le_refl _⟩
  | m + 1 => by
    have := loF_le D fr to m
    rw [loF]
    split <;> omega
theorem sw16 (p : Nat) : p = 1 ∨ p = 2 ∨ p = 3 ∨ p = 4 ∨ p = 5 ∨ p = 6 ∨ (p < 1 ∨ 6 < p) := by omega
section CLN
variable {C : Ct} {M : Mm} {h : Nat} {D : Nat → Nat} {x : Int32}
theorem c_withinN {e lo hi : Nat} (h1 : lo ≤ e) (h2 : e ≤ hi) (h3 : hi < 2 ^ 31) : CG C 184 [.int (nI e), .int (nI lo), .int (nI hi)] M (fun w M' => w = some (.int (nI e)) ∧ M' = M) := by
  refine CG_in (mL := 3) (hl := false) (lv := [some (.int (nI e)), some (.int (nI lo)), some (.int (nI hi))]) (ll := []) rfl rfl rfl ?_
  refine G_S (pc := 0) f_184_0 rfl rfl rfl ?_
  refine G_S (pc := 1) f_184_1 rfl rfl rfl ?_
  refine G_S (pc := 2) f_184_2 rfl rfl rfl ?_
  first | refine G_minN (pc := 3) f_184_3 rfl rfl (by omega) (by omega) ?_ | refine G_minZ (pc := 3) f_184_3 rfl rfl (by first | exact nI_toInt (by omega) | exact zI_toInt (by omega) (by omega) | rfl) (by first | exact nI_toInt (by omega) | exact zI_toInt (by omega) (by omega) | rfl) ?_
  first | refine G_maxN (pc := 6) f_184_6 rfl rfl (by omega) (by omega) ?_ | refine G_maxZ (pc := 6) f_184_6 rfl rfl (by first | exact nI_toInt (by omega) | exact zI_toInt (by omega) (by omega) | rfl) (by first | exact nI_toInt (by omega) | exact zI_toInt (by omega) (by omega) | rfl) ?_
  refine G_ri (pc := 9) f_184_9 ?_
  refine ⟨?_, rfl⟩
  rw [show max lo (min hi e) = e by omega]
theorem c_answerOf {p k : Nat} (W : LW M h D) (hp : p < 2 ^ 31) (hk : k < 10) : CG C 64 [.ref h, .int (nI p), .int (nI k)] M (fun w M' => w = some (.int (lnP D p k)) ∧ M' = M) := by
  have hK := W.1
  obtain ⟨⟨t0, t1, t2, t3, t4, t5, t6⟩, r0, r3, r4, r6, r7, r8⟩ := W.2.1
  obtain ⟨hD, ⟨v0, v1, v2⟩, vh, vr, vw, vf⟩ := W.2.2.1
  have hs := W.2.2.2.1
  have hh := W.2.2.2.2
  have hn0 : _ ≤ 8 := hD.1
  have hn1 : _ ≤ 6 := hD.2.1.2
  have hn2 : _ ≤ 8 := hD.2.2.1
  refine CG_in (mL := 3) (hl := false) (lv := [some (.ref h), some (.int (nI p)), some (.int (nI k))]) (ll := []) rfl rfl rfl ?_
  have ho : k < 8 → D (19 + k) ≤ 60 := fun q => hD.2.2.2.2.2.1 k q
  refine G_S (pc := 0) f_64_0 rfl rfl rfl ?_
  rcases sw16 p with rfl | rfl | rfl | rfl | rfl | rfl | hw
  · refine G_S (pc := 1) f_64_1 rfl rfl rfl ?_
    refine G_S (pc := 40) f_64_40 rfl rfl rfl ?_
    refine G_S (pc := 41) f_64_41 rfl rfl rfl ?_
    refine G_gIv (pc := 42) f_64_42 (by decide) rfl (by decide) (by first | assumption | exact hK.1 _ _ rfl) (by first | assumption | (try dsimp only) <;> (repeat (first | exact up2_s | refine up2_o (by first | decide | omega) ?_)) <;> first | assumption | rfl) ?_
    refine G_jgeZ (pc := 45) f_64_45 rfl (by first | exact nI_toInt (by omega) | exact zI_toInt (by omega) (by omega) | rfl) (by first | exact nI_toInt (by omega) | exact zI_toInt (by omega) (by omega) | rfl) (fun b1 => ?_) (fun b1 => ?_)
    · refine G_ic (v := zI (-1)) (pc := 57) f_64_57 (by decide) ?_
      refine G_ri (pc := 58) f_64_58 ?_
      refine ⟨?_, rfl⟩
      congr 2
      first
        | exact (if_pos (by omega)).symm
        | exact (if_neg (by omega)).symm
        | (show _ = (if k < D 0 then nI (D (3 + k)) else zI (-1))
           rw [if_neg (by omega)])
        | (unfold lnP; rw [if_neg (by omega), if_neg (by omega), if_neg (by omega), if_neg (by omega), if_neg (by omega), if_neg (by omega)])
    · refine G_S (pc := 48) f_64_48 rfl rfl rfl ?_
      refine G_gR (pc := 49) f_64_49 (by decide) rfl (by first | assumption | exact hK.1 _ _ rfl) (by first | assumption | exact hK.2 _ _ _ rfl | (try dsimp only) <;> (repeat (first | exact up2_s | refine up2_o (by first | decide | omega) ?_)) <;> first | assumption | exact hK.2 _ _ _ rfl) ?_
      refine G_S (pc := 52) f_64_52 rfl rfl rfl ?_
      refine G_iaN (pc := 53) f_64_53 (by first | assumption | exact hK.1 _ _ rfl) (by omega) (by omega) (by first | assumption | exact q1 _ (by omega) | exact q2 _ (by omega) | exact q3 _ (by omega) | exact q4 _ (by omega) | exact q5 _ (by omega) | exact vh _ (by omega) | exact (vr _ (by omega)).1 | exact (vr _ (by omega)).2 | exact vw _ (by omega) | exact vf _ (by omega) (by omega) | rfl) ?_
      refine G_S (pc := 54) f_64_54 rfl rfl rfl ?_
      refine G_ri (pc := 58) f_64_58 ?_
      refine ⟨?_, rfl⟩
      congr 2
      first
        | exact (if_pos (by omega)).symm
        | exact (if_neg (by omega)).symm
        | (show _ = (if k < D 0 then nI (D (3 + k)) else zI (-1))
           rw [if_neg (by omega)])
        | (unfold lnP; rw [if_neg (by omega), if_neg (by omega), if_neg (by omega), if_neg (by omega), if_neg (by omega), if_neg (by omega)])
  · refine G_S (pc := 1) f_64_1 rfl rfl rfl ?_
    refine G_S (pc := 59) f_64_59 rfl rfl rfl ?_
    refine G_S (pc := 60) f_64_60 rfl rfl rfl ?_
    refine G_gIv (pc := 61) f_64_61 (by decide) rfl (by decide) (by first | assumption | exact hK.1 _ _ rfl) (by first | assumption | (try dsimp only) <;> (repeat (first | exact up2_s | refine up2_o (by first | decide | omega) ?_)) <;> first | assumption | rfl) ?_
    refine G_jgeZ (pc := 64) f_64_64 rfl (by first | exact nI_toInt (by omega) | exact zI_toInt (by omega) (by omega) | rfl) (by first | exact nI_toInt (by omega) | exact zI_toInt (by omega) (by omega) | rfl) (fun b2 => ?_) (fun b2 => ?_)
    · refine G_ic (v := zI (-1)) (pc := 76) f_64_76 (by decide) ?_
      refine G_ri (pc := 77) f_64_77 ?_
      refine ⟨?_, rfl⟩
      congr 2
      first
        | exact (if_pos (by omega)).symm
        | exact (if_neg (by omega)).symm
        | (show _ = (if k < D 0 then nI (D (3 + k)) else zI (-1))
           rw [if_neg (by omega)])
        | (unfold lnP; rw [if_neg (by omega), if_neg (by omega), if_neg (by omega), if_neg (by omega), if_neg (by omega), if_neg (by omega)])
    · refine G_S (pc := 67) f_64_67 rfl rfl rfl ?_
      refine G_gR (pc := 68) f_64_68 (by decide) rfl (by first | assumption | exact hK.1 _ _ rfl) (by first | assumption | exact hK.2 _ _ _ rfl | (try dsimp only) <;> (repeat (first | exact up2_s | refine up2_o (by first | decide | omega) ?_)) <;> first | assumption | exact hK.2 _ _ _ rfl) ?_
      refine G_S (pc := 71) f_64_71 rfl rfl rfl ?_
      refine G_iaN (pc := 72) f_64_72 (by first | assumption | exact hK.1 _ _ rfl) (by omega) (by omega) (by first | assumption | exact q1 _ (by omega) | exact q2 _ (by omega) | exact q3 _ (by omega) | exact q4 _ (by omega) | exact q5 _ (by omega) | exact vh _ (by omega) | exact (vr _ (by omega)).1 | exact (vr _ (by omega)).2 | exact vw _ (by omega) | exact vf _ (by omega) (by omega) | rfl) ?_
      refine G_S (pc := 73) f_64_73 rfl rfl rfl ?_
      refine G_ri (pc := 77) f_64_77 ?_
      refine ⟨?_, rfl⟩
      congr 2
      first
        | exact (if_pos (by omega)).symm
        | exact (if_neg (by omega)).symm
        | (show _ = (if k < D 0 then nI (D (3 + k)) else zI (-1))
           rw [if_neg (by omega)])
        | (unfold lnP; rw [if_neg (by omega), if_neg (by omega), if_neg (by omega), if_neg (by omega), if_neg (by omega), if_neg (by omega)])
  · refine G_S (pc := 1) f_64_1 rfl rfl rfl ?_
    refine G_S (pc := 78) f_64_78 rfl rfl rfl ?_
    refine G_S (pc := 79) f_64_79 rfl rfl rfl ?_
    refine G_gIv (pc := 80) f_64_80 (by decide) rfl (by decide) (by first | assumption | exact hK.1 _ _ rfl) (by first | assumption | (try dsimp only) <;> (repeat (first | exact up2_s | refine up2_o (by first | decide | omega) ?_)) <;> first | assumption | rfl) ?_
    refine G_jgeZ (pc := 83) f_64_83 rfl (by first | exact nI_toInt (by omega) | exact zI_toInt (by omega) (by omega) | rfl) (by first | exact nI_toInt (by omega) | exact zI_toInt (by omega) (by omega) | rfl) (fun b3 => ?_) (fun b3 => ?_)
    · refine G_ic (v := zI (-1)) (pc := 95) f_64_95 (by decide) ?_
      refine G_ri (pc := 96) f_64_96 ?_
      refine ⟨?_, rfl⟩
      congr 2
      first
        | exact (if_pos (by omega)).symm
        | exact (if_neg (by omega)).symm
        | (show _ = (if k < D 0 then nI (D (3 + k)) else zI (-1))
           rw [if_neg (by omega)])
        | (unfold lnP; rw [if_neg (by omega), if_neg (by omega), if_neg (by omega), if_neg (by omega), if_neg (by omega), if_neg (by omega)])
    · refine G_S (pc := 86) f_64_86 rfl rfl rfl ?_
      refine G_gR (pc := 87) f_64_87 (by decide) rfl (by first | assumption | exact hK.1 _ _ rfl) (by first | assumption | exact hK.2 _ _ _ rfl | (try dsimp only) <;> (repeat (first | exact up2_s | refine up2_o (by first | decide | omega) ?_)) <;> first | assumption | exact hK.2 _ _ _ rfl) ?_
      refine G_S (pc := 90) f_64_90 rfl rfl rfl ?_
      refine G_iaN (pc := 91) f_64_91 (by first | assumption | exact hK.1 _ _ rfl) (by omega) (by omega) (by first | assumption | exact q1 _ (by omega) | exact q2 _ (by omega) | exact q3 _ (by omega) | exact q4 _ (by omega) | exact q5 _ (by omega) | exact vh _ (by omega) | exact (vr _ (by omega)).1 | exact (vr _ (by omega)).2 | exact vw _ (by omega) | exact vf _ (by omega) (by omega) | rfl) ?_
      refine G_S (pc := 92) f_64_92 rfl rfl rfl ?_
      refine G_ri (pc := 96) f_64_96 ?_
      refine ⟨?_, rfl⟩
      congr 2
      first
        | exact (if_pos (by omega)).symm
        | exact (if_neg (by omega)).symm
        | (show _ = (if k < D 0 then nI (D (3 + k)) else zI (-1))
           rw [if_neg (by omega)])
        | (unfold lnP; rw [if_neg (by omega), if_neg (by omega), if_neg (by omega), if_neg (by omega), if_neg (by omega), if_neg (by omega)])
  · refine G_S (pc := 1) f_64_1 rfl rfl rfl ?_
    refine G_S (pc := 97) f_64_97 rfl rfl rfl ?_
    refine G_ic (v := nI 4) (pc := 98) f_64_98 (by decide) ?_
    refine G_jgeZ (pc := 99) f_64_99 rfl (by first | exact nI_toInt (by omega) | exact zI_toInt (by omega) (by omega) | rfl) (by first | exact nI_toInt (by omega) | exact zI_toInt (by omega) (by omega) | rfl) (fun b4 => ?_) (fun b4 => ?_)
    · refine G_ic (v := zI (-1)) (pc := 111) f_64_111 (by decide) ?_
      refine G_ri (pc := 112) f_64_112 ?_
      refine ⟨?_, rfl⟩
      congr 2
      first
        | exact (if_pos (by omega)).symm
        | exact (if_neg (by omega)).symm
        | (show _ = (if k < D 0 then nI (D (3 + k)) else zI (-1))
           rw [if_neg (by omega)])
        | (unfold lnP; rw [if_neg (by omega), if_neg (by omega), if_neg (by omega), if_neg (by omega), if_neg (by omega), if_neg (by omega)])
    · refine G_S (pc := 102) f_64_102 rfl rfl rfl ?_
      refine G_gR (pc := 103) f_64_103 (by decide) rfl (by first | assumption | exact hK.1 _ _ rfl) (by first | assumption | exact hK.2 _ _ _ rfl | (try dsimp only) <;> (repeat (first | exact up2_s | refine up2_o (by first | decide | omega) ?_)) <;> first | assumption | exact hK.2 _ _ _ rfl) ?_
      refine G_S (pc := 106) f_64_106 rfl rfl rfl ?_
      refine G_iaN (pc := 107) f_64_107 (by first | assumption | exact hK.1 _ _ rfl) (by omega) (by omega) (by first | assumption | exact q1 _ (by omega) | exact q2 _ (by omega) | exact q3 _ (by omega) | exact q4 _ (by omega) | exact q5 _ (by omega) | exact vh _ (by omega) | exact (vr _ (by omega)).1 | exact (vr _ (by omega)).2 | exact vw _ (by omega) | exact vf _ (by omega) (by omega) | rfl) ?_
      refine G_S (pc := 108) f_64_108 rfl rfl rfl ?_
      refine G_ri (pc := 112) f_64_112 ?_
      refine ⟨?_, rfl⟩
      congr 2
      first
        | exact (if_pos (by omega)).symm
        | exact (if_neg (by omega)).symm
        | (show _ = (if k < D 0 then nI (D (3 + k)) else zI (-1))
           rw [if_neg (by omega)])
        | (unfold lnP; rw [if_neg (by omega), if_neg (by omega), if_neg (by omega), if_neg (by omega), if_neg (by omega), if_neg (by omega)])
  · refine G_S (pc := 1) f_64_1 rfl rfl rfl ?_
    refine G_S (pc := 113) f_64_113 rfl rfl rfl ?_
    refine G_ic (v := nI 1) (pc := 114) f_64_114 (by decide) ?_
    refine G_jltZ (pc := 115) f_64_115 rfl (by first | exact nI_toInt (by omega) | exact zI_toInt (by omega) (by omega) | rfl) (by first | exact nI_toInt (by omega) | exact zI_toInt (by omega) (by omega) | rfl) (fun b5 => ?_) (fun b5 => ?_)
    · refine G_ic (v := zI (-1)) (pc := 133) f_64_133 (by decide) ?_
      refine G_ri (pc := 134) f_64_134 ?_
      refine ⟨?_, rfl⟩
      congr 2
      first
        | exact (if_pos (by omega)).symm
        | exact (if_neg (by omega)).symm
        | (show _ = (if k < D 0 then nI (D (3 + k)) else zI (-1))
           rw [if_neg (by omega)])
        | (unfold lnP; rw [if_neg (by omega), if_neg (by omega), if_neg (by omega), if_neg (by omega), if_neg (by omega), if_neg (by omega)])
    · refine G_S (pc := 118) f_64_118 rfl rfl rfl ?_
      refine G_bi (v := nI 8) (pc := 119) f_64_119 (by decide) ?_
      refine G_jgtZ (pc := 121) f_64_121 rfl (by first | exact nI_toInt (by omega) | exact zI_toInt (by omega) (by omega) | rfl) (by first | exact nI_toInt (by omega) | exact zI_toInt (by omega) (by omega) | rfl) (fun b6 => ?_) (fun b6 => ?_)
      · refine G_ic (v := zI (-1)) (pc := 133) f_64_133 (by decide) ?_
        refine G_ri (pc := 134) f_64_134 ?_
        refine ⟨?_, rfl⟩
        congr 2
        first
          | exact (if_pos (by omega)).symm
          | exact (if_neg (by omega)).symm
          | (show _ = (if k < D 0 then nI (D (3 + k)) else zI (-1))
             rw [if_neg (by omega)])
          | (unfold lnP; rw [if_neg (by omega), if_neg (by omega), if_neg (by omega), if_neg (by omega), if_neg (by omega), if_neg (by omega)])
      · refine G_S (pc := 124) f_64_124 rfl rfl rfl ?_
        refine G_gR (pc := 125) f_64_125 (by decide) rfl (by first | assumption | exact hK.1 _ _ rfl) (by first | assumption | exact hK.2 _ _ _ rfl | (try dsimp only) <;> (repeat (first | exact up2_s | refine up2_o (by first | decide | omega) ?_)) <;> first | assumption | exact hK.2 _ _ _ rfl) ?_
        refine G_S (pc := 128) f_64_128 rfl rfl rfl ?_
        refine G_iaN (pc := 129) f_64_129 (by first | assumption | exact hK.1 _ _ rfl) (by omega) (by omega) (by first | assumption | exact q1 _ (by omega) | exact q2 _ (by omega) | exact q3 _ (by omega) | exact q4 _ (by omega) | exact q5 _ (by omega) | exact vh _ (by omega) | exact (vr _ (by omega)).1 | exact (vr _ (by omega)).2 | exact vw _ (by omega) | exact vf _ (by omega) (by omega) | rfl) ?_
        refine G_S (pc := 130) f_64_130 rfl rfl rfl ?_
        refine G_ri (pc := 134) f_64_134 ?_
        refine ⟨?_, rfl⟩
        congr 2
        first
          | exact (if_pos (by omega)).symm
          | exact (if_neg (by omega)).symm
          | (show _ = (if k < D 0 then nI (D (3 + k)) else zI (-1))
             rw [if_neg (by omega)])
          | (unfold lnP; rw [if_neg (by omega), if_neg (by omega), if_neg (by omega), if_neg (by omega), if_neg (by omega), if_neg (by omega)])
  · refine G_S (pc := 1) f_64_1 rfl rfl rfl ?_
    refine G_S (pc := 135) f_64_135 rfl rfl rfl ?_
    refine G_S (pc := 136) f_64_136 rfl rfl rfl ?_
    refine G_gIv (pc := 137) f_64_137 (by decide) rfl (by decide) (by first | assumption | exact hK.1 _ _ rfl) (by first | assumption | (try dsimp only) <;> (repeat (first | exact up2_s | refine up2_o (by first | decide | omega) ?_)) <;> first | assumption | rfl) ?_
    refine G_jgeZ (pc := 140) f_64_140 rfl (by first | exact nI_toInt (by omega) | exact zI_toInt (by omega) (by omega) | rfl) (by first | exact nI_toInt (by omega) | exact zI_toInt (by omega) (by omega) | rfl) (fun b7 => ?_) (fun b7 => ?_)
    · refine G_ic (v := zI (-1)) (pc := 157) f_64_157 (by decide) ?_
      refine G_ri (pc := 158) f_64_158 ?_
      refine ⟨?_, rfl⟩
      congr 2
      first
        | exact (if_pos (by omega)).symm
        | exact (if_neg (by omega)).symm
        | (show _ = (if k < D 0 then nI (D (3 + k)) else zI (-1))
           rw [if_neg (by omega)])
        | (unfold lnP; rw [if_neg (by omega), if_neg (by omega), if_neg (by omega), if_neg (by omega), if_neg (by omega), if_neg (by omega)])
    · have ho := ho (by omega)
      refine G_S (pc := 143) f_64_143 rfl rfl rfl ?_
      refine G_S (pc := 144) f_64_144 rfl rfl rfl ?_
      refine G_S (pc := 145) f_64_145 rfl rfl rfl ?_
      refine G_gR (pc := 146) f_64_146 (by decide) rfl (by first | assumption | exact hK.1 _ _ rfl) (by first | assumption | exact hK.2 _ _ _ rfl | (try dsimp only) <;> (repeat (first | exact up2_s | refine up2_o (by first | decide | omega) ?_)) <;> first | assumption | exact hK.2 _ _ _ rfl) ?_
      refine G_S (pc := 149) f_64_149 rfl rfl rfl ?_
      refine G_iaN (pc := 150) f_64_150 (by first | assumption | exact hK.1 _ _ rfl) (by omega) (by omega) (by first | assumption | exact q1 _ (by omega) | exact q2 _ (by omega) | exact q3 _ (by omega) | exact q4 _ (by omega) | exact q5 _ (by omega) | exact vh _ (by omega) | exact (vr _ (by omega)).1 | exact (vr _ (by omega)).2 | exact vw _ (by omega) | exact vf _ (by omega) (by omega) | rfl) ?_
      refine G_CV (pc := 151) f_64_151 rfl rfl (by decide) rfl rfl (by first | assumption | exact hK.1 _ _ rfl) (by decide) ⟨Nat.le_of_ble_eq_true rfl, Nat.le_of_ble_eq_true rfl⟩ ?_
      refine CG.go (c_pullOf W.2.1 W.2.2.1 (by omega) (by omega)) ?_
      refine G_S (pc := 154) f_64_154 rfl rfl rfl ?_
      refine G_ri (pc := 158) f_64_158 ?_
      refine ⟨?_, rfl⟩
      congr 2
      first
        | exact (if_pos (by omega)).symm
        | exact (if_neg (by omega)).symm
        | (show _ = (if k < D 0 then nI (D (3 + k)) else zI (-1))
           rw [if_neg (by omega)])
        | (unfold lnP; rw [if_neg (by omega), if_neg (by omega), if_neg (by omega), if_neg (by omega), if_neg (by omega), if_neg (by omega)])
  · refine G_tsO (pc := 1) f_64_1 rfl ((by rw [nI_toInt hp]; omega)) ?_
    refine G_ic (v := zI (-1)) (pc := 159) f_64_159 (by decide) ?_
    refine G_ri (pc := 160) f_64_160 ?_
    refine ⟨?_, rfl⟩
    congr 2
    first
      | exact (if_pos (by omega)).symm
      | exact (if_neg (by omega)).symm
      | (show _ = (if k < D 0 then nI (D (3 + k)) else zI (-1))
         rw [if_neg (by omega)])
      | (unfold lnP; rw [if_neg (by omega), if_neg (by omega), if_neg (by omega), if_neg (by omega), if_neg (by omega), if_neg (by omega)])
theorem sw3 (x : Int32) : x = nI 0 ∨ x = nI 1 ∨ x = nI 2 ∨ (x.toInt < 0 ∨ 2 < x.toInt) := by
  by_cases h : 0 ≤ x.toInt ∧ x.toInt < ((3 : Nat) : Int)
  · obtain ⟨c, hc, rfl⟩ := i_nat h.1 h.2
    rcases (show c = 0 ∨ c = 1 ∨ c = 2 by omega) with rfl | rfl | rfl
    · exact Or.inl rfl
    · exact Or.inr (Or.inl rfl)
    · exact Or.inr (Or.inr (Or.inl rfl))
  · exact Or.inr (Or.inr (Or.inr (by omega)))
theorem c_answer (W : LW M h D) : CG C 63 [.ref h, .int x] M (fun w M' => w = some (.int (lnF D x)) ∧ M' = M) := by
  have hK := W.1
  obtain ⟨⟨t0, t1, t2, t3, t4, t5, t6⟩, r0, r3, r4, r6, r7, r8⟩ := W.2.1
  obtain ⟨hD, ⟨v0, v1, v2⟩, vh, vr, vw, vf⟩ := W.2.2.1
  have hs := W.2.2.2.1
  have hh := W.2.2.2.2
  have hn0 : _ ≤ 8 := hD.1
  have hn1 : _ ≤ 6 := hD.2.1.2
  have hn2 : _ ≤ 8 := hD.2.2.1
  by_cases hx : x.toInt < 10
  · refine CG_in (mL := 2) (hl := false) (lv := [some (.ref h), some (.int x)]) (ll := []) rfl rfl rfl ?_
    refine G_S (pc := 0) f_63_0 rfl rfl rfl ?_
    rcases sw3 x with rfl | rfl | rfl | hw
    · refine G_S (pc := 1) f_63_1 rfl rfl rfl ?_
      refine G_S (pc := 28) f_63_28 rfl rfl rfl ?_
      refine G_gIv (pc := 29) f_63_29 (by decide) rfl (by decide) (by first | assumption | exact hK.1 _ _ rfl) (by first | assumption | (try dsimp only) <;> (repeat (first | exact up2_s | refine up2_o (by first | decide | omega) ?_)) <;> first | assumption | rfl) ?_
      refine G_ri (pc := 32) f_63_32 ?_
      first
        | exact ⟨rfl, rfl⟩
        | (refine ⟨?_, rfl⟩
           congr 2
           unfold lnF
           split
           · rfl
           · rw [if_neg (by omega)])
    · refine G_S (pc := 1) f_63_1 rfl rfl rfl ?_
      refine G_S (pc := 33) f_63_33 rfl rfl rfl ?_
      refine G_gIv (pc := 34) f_63_34 (by decide) rfl (by decide) (by first | assumption | exact hK.1 _ _ rfl) (by first | assumption | (try dsimp only) <;> (repeat (first | exact up2_s | refine up2_o (by first | decide | omega) ?_)) <;> first | assumption | rfl) ?_
      refine G_ri (pc := 37) f_63_37 ?_
      first
        | exact ⟨rfl, rfl⟩
        | (refine ⟨?_, rfl⟩
           congr 2
           unfold lnF
           split
           · rfl
           · rw [if_neg (by omega)])
    · refine G_S (pc := 1) f_63_1 rfl rfl rfl ?_
      refine G_S (pc := 38) f_63_38 rfl rfl rfl ?_
      refine G_gIv (pc := 39) f_63_39 (by decide) rfl (by decide) (by first | assumption | exact hK.1 _ _ rfl) (by first | assumption | (try dsimp only) <;> (repeat (first | exact up2_s | refine up2_o (by first | decide | omega) ?_)) <;> first | assumption | rfl) ?_
      refine G_ri (pc := 42) f_63_42 ?_
      first
        | exact ⟨rfl, rfl⟩
        | (refine ⟨?_, rfl⟩
           congr 2
           unfold lnF
           split
           · rfl
           · rw [if_neg (by omega)])
    · refine G_tsO (pc := 1) f_63_1 rfl (hw) ?_
      refine G_S (pc := 43) f_63_43 rfl rfl rfl ?_
      refine G_bi (v := nI 10) (pc := 44) f_63_44 (by decide) ?_
      refine G_jgeZ (pc := 46) f_63_46 rfl (by first | exact nI_toInt (by omega) | exact zI_toInt (by omega) (by omega) | rfl) (by first | exact nI_toInt (by omega) | exact zI_toInt (by omega) (by omega) | rfl) (fun b1 => ?_) (fun b1 => ?_)
      · exfalso; omega
      · refine G_ic (v := zI (-1)) (pc := 49) f_63_49 (by decide) ?_
        refine G_S (pc := 50) f_63_50 rfl rfl rfl ?_
        refine G_ri (pc := 65) f_63_65 ?_
        first
          | exact ⟨rfl, rfl⟩
          | (refine ⟨?_, rfl⟩
             congr 2
             unfold lnF
             split
             · rfl
             · rw [if_neg (by omega)])
  · obtain ⟨c, hc, rfl⟩ := i_nat (x := x) (n := 2 ^ 31) (by omega) (Int32.toInt_lt x)
    rw [nI_toInt hc] at hx
    refine CG_in (mL := 2) (hl := false) (lv := [some (.ref h), some (.int (nI c))]) (ll := []) rfl rfl rfl ?_
    refine G_S (pc := 0) f_63_0 rfl rfl rfl ?_
    skip
    · refine G_tsO (pc := 1) f_63_1 rfl ((Or.inr (by rw [nI_toInt hc]; omega))) ?_
      refine G_S (pc := 43) f_63_43 rfl rfl rfl ?_
      refine G_bi (v := nI 10) (pc := 44) f_63_44 (by decide) ?_
      refine G_jgeZ (pc := 46) f_63_46 rfl (by first | exact nI_toInt (by omega) | exact zI_toInt (by omega) (by omega) | rfl) (by first | exact nI_toInt (by omega) | exact zI_toInt (by omega) (by omega) | rfl) (fun b1 => ?_) (fun b1 => ?_)
      · refine G_S (pc := 53) f_63_53 rfl rfl rfl ?_
        refine G_S (pc := 54) f_63_54 rfl rfl rfl ?_
        refine G_bi (v := nI 10) (pc := 55) f_63_55 (by decide) ?_
        refine G_divN (pc := 57) f_63_57 (by omega) (by omega) (by omega) ?_
        refine G_S (pc := 58) f_63_58 rfl rfl rfl ?_
        refine G_bi (v := nI 10) (pc := 59) f_63_59 (by decide) ?_
        refine G_remN (pc := 61) f_63_61 (by omega) (by omega) (by omega) ?_
        refine G_CV (pc := 62) f_63_62 rfl rfl (by decide) rfl rfl (by first | assumption | exact hK.1 _ _ rfl) (by decide) ⟨Nat.le_of_ble_eq_true rfl, Nat.le_of_ble_eq_true rfl⟩ ?_
        refine CG.go (c_answerOf W (by omega) (by omega)) ?_
        refine G_ri (pc := 65) f_63_65 ?_
        refine ⟨?_, rfl⟩
        congr 2
        unfold lnF
        rw [nI_toInt hc, if_neg (by omega), if_neg hx, Int.toNat_natCast]
      · exfalso; omega
theorem c_rankOf {k : Nat} (W : LW M h D) (hk : k < D 0) : CG C 68 [.ref h, .int (nI k)] M (fun w M' => w = some (.int (nI (rkN D k (D 0)))) ∧ M' = M) := by
  have hK := W.1
  obtain ⟨⟨t0, t1, t2, t3, t4, t5, t6⟩, r0, r3, r4, r6, r7, r8⟩ := W.2.1
  obtain ⟨hD, ⟨v0, v1, v2⟩, vh, vr, vw, vf⟩ := W.2.2.1
  have hs := W.2.2.2.1
  have hh := W.2.2.2.2
  have hn0 : _ ≤ 8 := hD.1
  have hn1 : _ ≤ 6 := hD.2.1.2
  have hn2 : _ ≤ 8 := hD.2.2.1
  have hk9 := hD.2.2.2.1 k (by omega)
  have loop : ∀ i, i ≤ D 0 → G C 68 (4, [some (.ref h), some (.int (nI k)), some (.int (nI (rkN D k i))), some (.int (nI i))], [], [], M) (fun w M' => w = some (.int (nI (rkN D k (D 0)))) ∧ M' = M) := by
    refine upto (fun i hi ih => ?_)
    have hi9 : i < D 0 → D (3 + i) ≤ 99 := fun q => hD.2.2.2.1 i (by omega)
    refine G_S (pc := 4) f_68_4 rfl rfl rfl ?_
    refine G_S (pc := 5) f_68_5 rfl rfl rfl ?_
    refine G_gIv (pc := 6) f_68_6 (by decide) rfl (by decide) (by first | assumption | exact hK.1 _ _ rfl) (by first | assumption | (try dsimp only) <;> (repeat (first | exact up2_s | refine up2_o (by first | decide | omega) ?_)) <;> first | assumption | rfl) ?_
    refine G_jgeZ (pc := 9) f_68_9 rfl (by first | exact nI_toInt (by omega) | exact zI_toInt (by omega) (by omega) | rfl) (by first | exact nI_toInt (by omega) | exact zI_toInt (by omega) (by omega) | rfl) (fun b1 => ?_) (fun b1 => ?_)
    · refine G_S (pc := 56) f_68_56 rfl rfl rfl ?_
      refine G_ri (pc := 57) f_68_57 ?_
      rw [show i = D 0 by omega]
      exact ⟨rfl, rfl⟩
    · have hi9 := hi9 (by omega)
      refine G_S (pc := 12) f_68_12 rfl rfl rfl ?_
      refine G_gR (pc := 13) f_68_13 (by decide) rfl (by first | assumption | exact hK.1 _ _ rfl) (by first | assumption | exact hK.2 _ _ _ rfl | (try dsimp only) <;> (repeat (first | exact up2_s | refine up2_o (by first | decide | omega) ?_)) <;> first | assumption | exact hK.2 _ _ _ rfl) ?_
      refine G_S (pc := 16) f_68_16 rfl rfl rfl ?_
      refine G_iaN (pc := 17) f_68_17 (by first | assumption | exact hK.1 _ _ rfl) (by omega) (by omega) (by first | assumption | exact q1 _ (by omega) | exact q2 _ (by omega) | exact q3 _ (by omega) | exact q4 _ (by omega) | exact q5 _ (by omega) | exact vh _ (by omega) | exact (vr _ (by omega)).1 | exact (vr _ (by omega)).2 | exact vw _ (by omega) | exact vf _ (by omega) (by omega) | rfl) ?_
      refine G_S (pc := 18) f_68_18 rfl rfl rfl ?_
      refine G_gR (pc := 19) f_68_19 (by decide) rfl (by first | assumption | exact hK.1 _ _ rfl) (by first | assumption | exact hK.2 _ _ _ rfl | (try dsimp only) <;> (repeat (first | exact up2_s | refine up2_o (by first | decide | omega) ?_)) <;> first | assumption | exact hK.2 _ _ _ rfl) ?_
      refine G_S (pc := 22) f_68_22 rfl rfl rfl ?_
      refine G_iaN (pc := 23) f_68_23 (by first | assumption | exact hK.1 _ _ rfl) (by omega) (by omega) (by first | assumption | exact q1 _ (by omega) | exact q2 _ (by omega) | exact q3 _ (by omega) | exact q4 _ (by omega) | exact q5 _ (by omega) | exact vh _ (by omega) | exact (vr _ (by omega)).1 | exact (vr _ (by omega)).2 | exact vw _ (by omega) | exact vf _ (by omega) (by omega) | rfl) ?_
      refine G_jgtZ (pc := 24) f_68_24 rfl (by first | exact nI_toInt (by omega) | exact zI_toInt (by omega) (by omega) | rfl) (by first | exact nI_toInt (by omega) | exact zI_toInt (by omega) (by omega) | rfl) (fun b2 => ?_) (fun b2 => ?_)
      · first | refine G_inc1 (pc := 47) f_68_47 rfl ?_ | refine G_S (pc := 47) f_68_47 rfl rfl rfl ?_
        first | refine G_inc1 (pc := 50) f_68_50 rfl ?_ | refine G_S (pc := 50) f_68_50 rfl rfl rfl ?_
        refine G_S (pc := 53) f_68_53 rfl rfl rfl ?_
        have e := ih (by omega)
        first
          | (rw [rkN, if_pos (by omega)] at e; exact e)
          | (rw [rkN, if_neg (by omega)] at e; exact e)
      · refine G_S (pc := 27) f_68_27 rfl rfl rfl ?_
        refine G_gR (pc := 28) f_68_28 (by decide) rfl (by first | assumption | exact hK.1 _ _ rfl) (by first | assumption | exact hK.2 _ _ _ rfl | (try dsimp only) <;> (repeat (first | exact up2_s | refine up2_o (by first | decide | omega) ?_)) <;> first | assumption | exact hK.2 _ _ _ rfl) ?_
        refine G_S (pc := 31) f_68_31 rfl rfl rfl ?_
        refine G_iaN (pc := 32) f_68_32 (by first | assumption | exact hK.1 _ _ rfl) (by omega) (by omega) (by first | assumption | exact q1 _ (by omega) | exact q2 _ (by omega) | exact q3 _ (by omega) | exact q4 _ (by omega) | exact q5 _ (by omega) | exact vh _ (by omega) | exact (vr _ (by omega)).1 | exact (vr _ (by omega)).2 | exact vw _ (by omega) | exact vf _ (by omega) (by omega) | rfl) ?_
        refine G_S (pc := 33) f_68_33 rfl rfl rfl ?_
        refine G_gR (pc := 34) f_68_34 (by decide) rfl (by first | assumption | exact hK.1 _ _ rfl) (by first | assumption | exact hK.2 _ _ _ rfl | (try dsimp only) <;> (repeat (first | exact up2_s | refine up2_o (by first | decide | omega) ?_)) <;> first | assumption | exact hK.2 _ _ _ rfl) ?_
        refine G_S (pc := 37) f_68_37 rfl rfl rfl ?_
        refine G_iaN (pc := 38) f_68_38 (by first | assumption | exact hK.1 _ _ rfl) (by omega) (by omega) (by first | assumption | exact q1 _ (by omega) | exact q2 _ (by omega) | exact q3 _ (by omega) | exact q4 _ (by omega) | exact q5 _ (by omega) | exact vh _ (by omega) | exact (vr _ (by omega)).1 | exact (vr _ (by omega)).2 | exact vw _ (by omega) | exact vf _ (by omega) (by omega) | rfl) ?_
        refine G_jneZ (pc := 39) f_68_39 rfl (by first | exact nI_toInt (by omega) | exact zI_toInt (by omega) (by omega) | rfl) (by first | exact nI_toInt (by omega) | exact zI_toInt (by omega) (by omega) | rfl) (fun b3 => ?_) (fun b3 => ?_)
        · first | refine G_inc1 (pc := 50) f_68_50 rfl ?_ | refine G_S (pc := 50) f_68_50 rfl rfl rfl ?_
          refine G_S (pc := 53) f_68_53 rfl rfl rfl ?_
          have e := ih (by omega)
          first
            | (rw [rkN, if_pos (by omega)] at e; exact e)
            | (rw [rkN, if_neg (by omega)] at e; exact e)
        · refine G_S (pc := 42) f_68_42 rfl rfl rfl ?_
          refine G_S (pc := 43) f_68_43 rfl rfl rfl ?_
          refine G_jgeZ (pc := 44) f_68_44 rfl (by first | exact nI_toInt (by omega) | exact zI_toInt (by omega) (by omega) | rfl) (by first | exact nI_toInt (by omega) | exact zI_toInt (by omega) (by omega) | rfl) (fun b4 => ?_) (fun b4 => ?_)
          · first | refine G_inc1 (pc := 50) f_68_50 rfl ?_ | refine G_S (pc := 50) f_68_50 rfl rfl rfl ?_
            refine G_S (pc := 53) f_68_53 rfl rfl rfl ?_
            have e := ih (by omega)
            first
              | (rw [rkN, if_pos (by omega)] at e; exact e)
              | (rw [rkN, if_neg (by omega)] at e; exact e)
          · first | refine G_inc1 (pc := 47) f_68_47 rfl ?_ | refine G_S (pc := 47) f_68_47 rfl rfl rfl ?_
            first | refine G_inc1 (pc := 50) f_68_50 rfl ?_ | refine G_S (pc := 50) f_68_50 rfl rfl rfl ?_
            refine G_S (pc := 53) f_68_53 rfl rfl rfl ?_
            have e := ih (by omega)
            first
              | (rw [rkN, if_pos (by omega)] at e; exact e)
              | (rw [rkN, if_neg (by omega)] at e; exact e)
  refine CG_in (mL := 4) (hl := false) (lv := [some (.ref h), some (.int (nI k)), none, none]) (ll := []) rfl rfl rfl ?_
  refine G_ic (v := nI 0) (pc := 0) f_68_0 (by decide) ?_
  refine G_S (pc := 1) f_68_1 rfl rfl rfl ?_
  refine G_ic (v := nI 0) (pc := 2) f_68_2 (by decide) ?_
  refine G_S (pc := 3) f_68_3 rfl rfl rfl ?_
  exact loop 0 (Nat.zero_le _)
theorem c_byHeight (W : LW M h D) : CG C 67 [.ref h, .int x] M (fun w M' => w = some (.int (oI (leastF (rtB D x) (D 0) 0))) ∧ M' = M) := by
  have hK := W.1
  obtain ⟨⟨t0, t1, t2, t3, t4, t5, t6⟩, r0, r3, r4, r6, r7, r8⟩ := W.2.1
  obtain ⟨hD, ⟨v0, v1, v2⟩, vh, vr, vw, vf⟩ := W.2.2.1
  have hs := W.2.2.2.1
  have hh := W.2.2.2.2
  have hn0 : _ ≤ 8 := hD.1
  have hn1 : _ ≤ 6 := hD.2.1.2
  have hn2 : _ ≤ 8 := hD.2.2.1
  have loop : ∀ d i, i + d = D 0 → G C 67 (2, [some (.ref h), some (.int x), some (.int (nI i))], [], [], M) (fun w M' => w = some (.int (oI (leastF (rtB D x) d i))) ∧ M' = M) := by
    intro d
    induction d with
    | zero =>
      intro i hi
      refine G_S (pc := 2) f_67_2 rfl rfl rfl ?_
      refine G_S (pc := 3) f_67_3 rfl rfl rfl ?_
      refine G_gIv (pc := 4) f_67_4 (by decide) rfl (by decide) (by first | assumption | exact hK.1 _ _ rfl) (by first | assumption | (try dsimp only) <;> (repeat (first | exact up2_s | refine up2_o (by first | decide | omega) ?_)) <;> first | assumption | rfl) ?_
      refine G_jgeZ (pc := 7) f_67_7 rfl (by first | exact nI_toInt (by omega) | exact zI_toInt (by omega) (by omega) | rfl) (by first | exact nI_toInt (by omega) | exact zI_toInt (by omega) (by omega) | rfl) (fun b1 => ?_) (fun b1 => ?_)
      · refine G_ic (v := zI (-1)) (pc := 27) f_67_27 (by decide) ?_
        refine G_ri (pc := 28) f_67_28 ?_
        exact ⟨rfl, rfl⟩
      · exfalso; omega
    | succ d ih =>
      intro i hi
      have hr := rkN_le D i (D 0)
      refine G_S (pc := 2) f_67_2 rfl rfl rfl ?_
      refine G_S (pc := 3) f_67_3 rfl rfl rfl ?_
      refine G_gIv (pc := 4) f_67_4 (by decide) rfl (by decide) (by first | assumption | exact hK.1 _ _ rfl) (by first | assumption | (try dsimp only) <;> (repeat (first | exact up2_s | refine up2_o (by first | decide | omega) ?_)) <;> first | assumption | rfl) ?_
      refine G_jgeZ (pc := 7) f_67_7 rfl (by first | exact nI_toInt (by omega) | exact zI_toInt (by omega) (by omega) | rfl) (by first | exact nI_toInt (by omega) | exact zI_toInt (by omega) (by omega) | rfl) (fun b1 => ?_) (fun b1 => ?_)
      · exfalso; omega
      · refine G_S (pc := 10) f_67_10 rfl rfl rfl ?_
        refine G_S (pc := 11) f_67_11 rfl rfl rfl ?_
        refine G_CV (pc := 12) f_67_12 rfl rfl (by decide) rfl rfl (by first | assumption | exact hK.1 _ _ rfl) (by decide) ⟨Nat.le_of_ble_eq_true rfl, Nat.le_of_ble_eq_true rfl⟩ ?_
        refine CG.go (c_rankOf W (by omega)) ?_
        refine G_S (pc := 15) f_67_15 rfl rfl rfl ?_
        refine G_jneZ (pc := 16) f_67_16 rfl (by first | exact nI_toInt (by omega) | exact zI_toInt (by omega) (by omega) | rfl) (by first | exact nI_toInt (by omega) | exact zI_toInt (by omega) (by omega) | rfl) (fun b2 => ?_) (fun b2 => ?_)
        · first | refine G_inc1 (pc := 21) f_67_21 rfl ?_ | refine G_S (pc := 21) f_67_21 rfl rfl rfl ?_
          refine G_S (pc := 24) f_67_24 rfl rfl rfl ?_
          have e := ih (i + 1) (by omega)
          rw [leastF, if_neg (show ¬ rtB D x i = true from fun q => b2 (of_decide_eq_true q))]
          exact e
        · refine G_S (pc := 19) f_67_19 rfl rfl rfl ?_
          refine G_ri (pc := 20) f_67_20 ?_
          rw [leastF, if_pos (show rtB D x i = true from decide_eq_true b2)]
          exact ⟨rfl, rfl⟩
  refine CG_in (mL := 3) (hl := false) (lv := [some (.ref h), some (.int x), none]) (ll := []) rfl rfl rfl ?_
  refine G_ic (v := nI 0) (pc := 0) f_67_0 (by decide) ?_
  refine G_S (pc := 1) f_67_1 rfl rfl rfl ?_
  exact loop (D 0) 0 (by omega)
theorem LW.f6 {M' : Mm} (W : LW M h D) (hF : Fc [h + 6] M M') : LW M' h D := by
  obtain ⟨hK, hT, hV, hse, hh⟩ := W
  have hs2 : ∀ j, j < 6 → h + j ∉ [h + 6] := by
    intro j hj q
    have := List.mem_singleton.mp q
    omega
  exact ⟨hF.K hK, hT.fc hF (hs2 0 (by decide)), hV.fc hF hs2, hse, hh⟩
theorem c_cheapest {e : Nat} (W : LW M h D) (he : e ≤ 8) : CG C 65 [.ref h, .int (nI e)] M (fun w M' => w = some (.int (nI (tkF D e e))) ∧ Fc [h + 6] M M') := by
  have inner : ∀ {Q} n, 1 ≤ n → n ≤ 8 → ∀ M1 x, LW M1 h D → (∀ s, s < n → M1.2.1 (h + 6) s = nI (tkF D (n - 1) s)) → G C 65 (79, [some (.ref h), some (.int (nI e)), some (.int x), some (.int (nI n)), some (.int (nI ((tkI D (tkF D (n - 1)) n n)))), some (.int (nI n))], [], [], M1) Q → ∀ j, j ≤ n → 1 ≤ j → G C 65 (38, [some (.ref h), some (.int (nI e)), some (.int x), some (.int (nI n)), some (.int (nI ((tkI D (tkF D (n - 1)) n j)))), some (.int (nI j))], [], [], M1) Q := by
    intro Q n hn1 hn M1 x W1 q1 K
    have hK := W1.1
    obtain ⟨⟨t0, t1, t2, t3, t4, t5, t6⟩, r0, r3, r4, r6, r7, r8⟩ := W1.2.1
    obtain ⟨hD, ⟨v0, v1, v2⟩, vh, vr, vw, vf⟩ := W1.2.2.1
    have hs := W1.2.2.2.1
    have hh := W1.2.2.2.2
    have hn0 : _ ≤ 8 := hD.1
    have hn1 : _ ≤ 6 := hD.2.1.2
    have hn2 : _ ≤ 8 := hD.2.2.1
    refine upto (fun j hj ih h1 => ?_)
    have ht := tkI_le0 D (tkF D (n - 1)) n j
    have hf1 := hD.2.2.2.2.2.2.2 (n - 1) (by omega)
    rw [show 31 + (n - 1) = 30 + n by omega] at hf1
    have hf2 := hD.2.2.2.2.2.2.2 (j - 1) (by omega)
    rw [show 31 + (j - 1) = 30 + j by omega] at hf2
    have ht2 := tkF_le hD (n - 1) (by omega) (n - j)
    refine G_S (pc := 38) f_65_38 rfl rfl rfl ?_
    refine G_S (pc := 40) f_65_40 rfl rfl rfl ?_
    refine G_jgeZ (pc := 41) f_65_41 rfl (by first | exact nI_toInt (by omega) | exact zI_toInt (by omega) (by omega) | rfl) (by first | exact nI_toInt (by omega) | exact zI_toInt (by omega) (by omega) | rfl) (fun b2 => ?_) (fun b2 => ?_)
    · rw [show j = n by omega]
      exact K
    · refine G_S (pc := 44) f_65_44 rfl rfl rfl ?_
      refine G_S (pc := 46) f_65_46 rfl rfl rfl ?_
      refine G_gR (pc := 47) f_65_47 (by decide) rfl (by first | assumption | exact hK.1 _ _ rfl) (by first | assumption | exact hK.2 _ _ _ rfl | (try dsimp only) <;> (repeat (first | exact up2_s | refine up2_o (by first | decide | omega) ?_)) <;> first | assumption | exact hK.2 _ _ _ rfl) ?_
      refine G_S (pc := 50) f_65_50 rfl rfl rfl ?_
      refine G_iaN (pc := 52) f_65_52 (by first | assumption | exact hK.1 _ _ rfl) (by omega) (by omega) (by first | assumption | exact q1 _ (by omega) | exact q2 _ (by omega) | exact q3 _ (by omega) | exact q4 _ (by omega) | exact q5 _ (by omega) | exact vh _ (by omega) | exact (vr _ (by omega)).1 | exact (vr _ (by omega)).2 | exact vw _ (by omega) | exact vf _ (by omega) (by omega) | rfl) ?_
      refine G_bi (v := nI 16) (pc := 53) f_65_53 (by decide) ?_
      first | refine G_mulN (pc := 55) f_65_55 ?_ | refine G_mulZ (pc := 55) f_65_55 (by first | rfl | exact nI_zI _) (by first | rfl | exact nI_zI _) ?_ | refine G_S (pc := 55) f_65_55 rfl rfl rfl ?_
      refine G_ic (v := nI 1) (pc := 56) f_65_56 (by decide) ?_
      first | refine G_addN (pc := 57) f_65_57 ?_ | refine G_addZ (pc := 57) f_65_57 (by first | rfl | exact nI_zI _) (by first | rfl | exact nI_zI _) ?_ | refine G_S (pc := 57) f_65_57 rfl rfl rfl ?_
      refine G_S (pc := 58) f_65_58 rfl rfl rfl ?_
      refine G_gR (pc := 59) f_65_59 (by decide) rfl (by first | assumption | exact hK.1 _ _ rfl) (by first | assumption | exact hK.2 _ _ _ rfl | (try dsimp only) <;> (repeat (first | exact up2_s | refine up2_o (by first | decide | omega) ?_)) <;> first | assumption | exact hK.2 _ _ _ rfl) ?_
      refine G_S (pc := 62) f_65_62 rfl rfl rfl ?_
      refine G_S (pc := 63) f_65_63 rfl rfl rfl ?_
      first | refine G_subN (pc := 65) f_65_65 (by omega) ?_ | refine G_subZ (pc := 65) f_65_65 (by first | rfl | exact nI_zI _) (by first | rfl | exact nI_zI _) ?_ | refine G_S (pc := 65) f_65_65 rfl rfl rfl ?_
      refine G_iaN (pc := 66) f_65_66 (by first | assumption | exact hK.1 _ _ rfl) (by omega) (by omega) (by first | assumption | exact q1 _ (by omega) | exact q2 _ (by omega) | exact q3 _ (by omega) | exact q4 _ (by omega) | exact q5 _ (by omega) | exact vh _ (by omega) | exact (vr _ (by omega)).1 | exact (vr _ (by omega)).2 | exact vw _ (by omega) | exact vf _ (by omega) (by omega) | rfl) ?_
      first | refine G_addN (pc := 67) f_65_67 ?_ | refine G_addZ (pc := 67) f_65_67 (by first | rfl | exact nI_zI _) (by first | rfl | exact nI_zI _) ?_ | refine G_S (pc := 67) f_65_67 rfl rfl rfl ?_
      first | refine G_minN (pc := 68) f_65_68 rfl rfl (by omega) (by omega) ?_ | refine G_minZ (pc := 68) f_65_68 rfl rfl (by first | exact nI_toInt (by omega) | exact zI_toInt (by omega) (by omega) | rfl) (by first | exact nI_toInt (by omega) | exact zI_toInt (by omega) (by omega) | rfl) ?_
      refine G_S (pc := 71) f_65_71 rfl rfl rfl ?_
      first | refine G_inc1 (pc := 73) f_65_73 rfl ?_ | refine G_S (pc := 73) f_65_73 rfl rfl rfl ?_
      refine G_S (pc := 76) f_65_76 rfl rfl rfl ?_
      have e := ih (by omega) (by omega)
      rw [tkI, if_neg (by omega)] at e
      exact e
  have loop : ∀ n, n ≤ e + 1 → 1 ≤ n → ∀ M1 a b, LW M1 h D → Fc [h + 6] M M1 → (∀ s, s < n → M1.2.1 (h + 6) s = nI (tkF D (n - 1) s)) → G C 65 (17, [some (.ref h), some (.int (nI e)), some (.int (nI e)), some (.int (nI n)), a, b], [], [], M1) (fun w M' => w = some (.int (nI (tkF D e e))) ∧ Fc [h + 6] M M') := by
    refine upto (fun n hn ih h1 M1 a b W1 hF q1 => ?_)
    have hK := W1.1
    obtain ⟨⟨t0, t1, t2, t3, t4, t5, t6⟩, r0, r3, r4, r6, r7, r8⟩ := W1.2.1
    obtain ⟨hD, ⟨v0, v1, v2⟩, vh, vr, vw, vf⟩ := W1.2.2.1
    have hs := W1.2.2.2.1
    have hh := W1.2.2.2.2
    have hn0 : _ ≤ 8 := hD.1
    have hn1 : _ ≤ 6 := hD.2.1.2
    have hn2 : _ ≤ 8 := hD.2.2.1
    refine G_S (pc := 17) f_65_17 rfl rfl rfl ?_
    refine G_S (pc := 18) f_65_18 rfl rfl rfl ?_
    refine G_jgtZ (pc := 19) f_65_19 rfl (by first | exact nI_toInt (by omega) | exact zI_toInt (by omega) (by omega) | rfl) (by first | exact nI_toInt (by omega) | exact zI_toInt (by omega) (by omega) | rfl) (fun b1 => ?_) (fun b1 => ?_)
    · refine G_S (pc := 93) f_65_93 rfl rfl rfl ?_
      refine G_gR (pc := 94) f_65_94 (by decide) rfl (by first | assumption | exact hK.1 _ _ rfl) (by first | assumption | exact hK.2 _ _ _ rfl | (try dsimp only) <;> (repeat (first | exact up2_s | refine up2_o (by first | decide | omega) ?_)) <;> first | assumption | exact hK.2 _ _ _ rfl) ?_
      refine G_S (pc := 97) f_65_97 rfl rfl rfl ?_
      refine G_iaN (pc := 98) f_65_98 (by first | assumption | exact hK.1 _ _ rfl) (by omega) (by omega) (by first | exact rfl | rfl) ?_
      refine G_ri (pc := 99) f_65_99 ?_
      have e2 : n = e + 1 := by omega
      subst e2
      exact ⟨by rw [q1 e (by omega)]; rfl, hF⟩
    · refine G_S (pc := 22) f_65_22 rfl rfl rfl ?_
      refine G_gR (pc := 23) f_65_23 (by decide) rfl (by first | assumption | exact hK.1 _ _ rfl) (by first | assumption | exact hK.2 _ _ _ rfl | (try dsimp only) <;> (repeat (first | exact up2_s | refine up2_o (by first | decide | omega) ?_)) <;> first | assumption | exact hK.2 _ _ _ rfl) ?_
      refine G_S (pc := 26) f_65_26 rfl rfl rfl ?_
      refine G_iaN (pc := 27) f_65_27 (by first | assumption | exact hK.1 _ _ rfl) (by omega) (by omega) (by first | assumption | exact q1 _ (by omega) | exact q2 _ (by omega) | exact q3 _ (by omega) | exact q4 _ (by omega) | exact q5 _ (by omega) | exact vh _ (by omega) | exact (vr _ (by omega)).1 | exact (vr _ (by omega)).2 | exact vw _ (by omega) | exact vf _ (by omega) (by omega) | rfl) ?_
      refine G_bi (v := nI 16) (pc := 28) f_65_28 (by decide) ?_
      first | refine G_mulN (pc := 30) f_65_30 ?_ | refine G_mulZ (pc := 30) f_65_30 (by first | rfl | exact nI_zI _) (by first | rfl | exact nI_zI _) ?_ | refine G_S (pc := 30) f_65_30 rfl rfl rfl ?_
      refine G_ic (v := nI 1) (pc := 31) f_65_31 (by decide) ?_
      first | refine G_addN (pc := 32) f_65_32 ?_ | refine G_addZ (pc := 32) f_65_32 (by first | rfl | exact nI_zI _) (by first | rfl | exact nI_zI _) ?_ | refine G_S (pc := 32) f_65_32 rfl rfl rfl ?_
      refine G_S (pc := 33) f_65_33 rfl rfl rfl ?_
      refine G_ic (v := nI 1) (pc := 35) f_65_35 (by decide) ?_
      refine G_S (pc := 36) f_65_36 rfl rfl rfl ?_
      refine inner n h1 (by omega) M1 _ W1 q1 ?_ 1 (by omega) (by omega)
      refine G_S (pc := 79) f_65_79 rfl rfl rfl ?_
      refine G_gR (pc := 80) f_65_80 (by decide) rfl (by first | assumption | exact hK.1 _ _ rfl) (by first | assumption | exact hK.2 _ _ _ rfl | (try dsimp only) <;> (repeat (first | exact up2_s | refine up2_o (by first | decide | omega) ?_)) <;> first | assumption | exact hK.2 _ _ _ rfl) ?_
      refine G_S (pc := 83) f_65_83 rfl rfl rfl ?_
      refine G_S (pc := 84) f_65_84 rfl rfl rfl ?_
      refine G_isN (pc := 86) f_65_86 (by first | assumption | exact hK.1 _ _ rfl) (by omega) (by omega) ?_
      first | refine G_inc1 (pc := 87) f_65_87 rfl ?_ | refine G_S (pc := 87) f_65_87 rfl rfl rfl ?_
      refine G_S (pc := 90) f_65_90 rfl rfl rfl ?_
      have hF3 : Fc [h + 6] M1 _ := Fc.up (i := h + 6) (k := n) (x := nI (tkI D (tkF D (n - 1)) n n)) (List.mem_singleton.mpr rfl)
      refine ih (by omega) (by omega) _ _ _ (W1.f6 hF3) (hF.tr hF3) (fun s hs => ?_)
      obtain ⟨m, rfl⟩ : ∃ m, n = m + 1 := ⟨n - 1, by omega⟩
      show _ = nI (if s = m + 1 then tkI D (tkF D m) (m + 1) (m + 1) else tkF D m s)
      by_cases q : s = m + 1
      · subst q
        rw [if_pos rfl]
        exact (by dsimp only; exact up2_s)
      · rw [if_neg q]
        exact (by dsimp only; exact up2_o (by omega) (q1 s (by omega)))
  have hK := W.1
  obtain ⟨⟨t0, t1, t2, t3, t4, t5, t6⟩, r0, r3, r4, r6, r7, r8⟩ := W.2.1
  obtain ⟨hD, ⟨v0, v1, v2⟩, vh, vr, vw, vf⟩ := W.2.2.1
  have hs := W.2.2.2.1
  have hh := W.2.2.2.2
  have hn0 : _ ≤ 8 := hD.1
  have hn1 : _ ≤ 6 := hD.2.1.2
  have hn2 : _ ≤ 8 := hD.2.2.1
  refine CG_in (mL := 6) (hl := false) (lv := [some (.ref h), some (.int (nI e)), none, none, none, none]) (ll := []) rfl rfl rfl ?_
  refine G_S (pc := 0) f_65_0 rfl rfl rfl ?_
  refine G_ic (v := nI 0) (pc := 1) f_65_1 (by decide) ?_
  refine G_bi (v := nI 8) (pc := 2) f_65_2 (by decide) ?_
  refine G_CS (pc := 4) f_65_4 rfl rfl (by decide) rfl rfl ⟨Nat.le_of_ble_eq_true rfl, Nat.le_of_ble_eq_true rfl⟩ ?_
  refine CG.go (c_withinN (by omega) he (by omega)) ?_
  refine G_S (pc := 7) f_65_7 rfl rfl rfl ?_
  refine G_S (pc := 8) f_65_8 rfl rfl rfl ?_
  refine G_gR (pc := 9) f_65_9 (by decide) rfl (by first | assumption | exact hK.1 _ _ rfl) (by first | assumption | exact hK.2 _ _ _ rfl | (try dsimp only) <;> (repeat (first | exact up2_s | refine up2_o (by first | decide | omega) ?_)) <;> first | assumption | exact hK.2 _ _ _ rfl) ?_
  refine G_ic (v := nI 0) (pc := 12) f_65_12 (by decide) ?_
  refine G_ic (v := nI 0) (pc := 13) f_65_13 (by decide) ?_
  refine G_isN (pc := 14) f_65_14 (by first | assumption | exact hK.1 _ _ rfl) (by omega) (by omega) ?_
  refine G_ic (v := nI 1) (pc := 15) f_65_15 (by decide) ?_
  refine G_S (pc := 16) f_65_16 rfl rfl rfl ?_
  have hF3 : Fc [h + 6] M _ := Fc.up (i := h + 6) (k := 0) (x := nI 0) (List.mem_singleton.mpr rfl)
  refine loop 1 (by omega) (by omega) _ _ _ (W.f6 hF3) hF3 (fun s hs => ?_)
  rw [show s = 0 by omega]
  exact (by dsimp only; exact up2_s)
theorem c_loophole {fr to : Nat} (W : LW M h D) (h1 : fr < to) (h2 : to ≤ D 0) : CG C 66 [.ref h, .int (nI fr), .int (nI to)] M (fun w M' => w = some (.int (nI (loF D fr to (D 0 - to)))) ∧ M' = M) := by
  have hK := W.1
  obtain ⟨⟨t0, t1, t2, t3, t4, t5, t6⟩, r0, r3, r4, r6, r7, r8⟩ := W.2.1
  obtain ⟨hD, ⟨v0, v1, v2⟩, vh, vr, vw, vf⟩ := W.2.2.1
  have hs := W.2.2.2.1
  have hh := W.2.2.2.2
  have hn0 : _ ≤ 8 := hD.1
  have hn1 : _ ≤ 6 := hD.2.1.2
  have hn2 : _ ≤ 8 := hD.2.2.1
  have loop : ∀ i, i ≤ D 0 - to → G C 66 (7, [some (.ref h), some (.int (nI fr)), some (.int (nI to)), some (.int (nI (loF D fr to i))), some (.int (nI (to + 1 + i)))], [], [], M) (fun w M' => w = some (.int (nI (loF D fr to (D 0 - to)))) ∧ M' = M) := by
    refine upto (fun i hi ih => ?_)
    have hl := loF_le D fr to i
    have hf1 : to + 1 + i ≤ D 0 → D (30 + (to + 1 + i - fr)) ≤ 99 := fun q => by
      have := hD.2.2.2.2.2.2.2 (to + 1 + i - fr - 1) (by omega)
      rwa [show 31 + (to + 1 + i - fr - 1) = 30 + (to + 1 + i - fr) by omega] at this
    have hf2 := hD.2.2.2.2.2.2.2 (loF D fr to i - fr - 1) (by omega)
    rw [show 31 + (loF D fr to i - fr - 1) = 30 + (loF D fr to i - fr) by omega] at hf2
    refine G_S (pc := 7) f_66_7 rfl rfl rfl ?_
    refine G_S (pc := 9) f_66_9 rfl rfl rfl ?_
    refine G_gIv (pc := 10) f_66_10 (by decide) rfl (by decide) (by first | assumption | exact hK.1 _ _ rfl) (by first | assumption | (try dsimp only) <;> (repeat (first | exact up2_s | refine up2_o (by first | decide | omega) ?_)) <;> first | assumption | rfl) ?_
    refine G_jgtZ (pc := 13) f_66_13 rfl (by first | exact nI_toInt (by omega) | exact zI_toInt (by omega) (by omega) | rfl) (by first | exact nI_toInt (by omega) | exact zI_toInt (by omega) (by omega) | rfl) (fun b1 => ?_) (fun b1 => ?_)
    · refine G_S (pc := 45) f_66_45 rfl rfl rfl ?_
      refine G_ri (pc := 46) f_66_46 ?_
      rw [show i = D 0 - to by omega]
      exact ⟨rfl, rfl⟩
    · have hf1 := hf1 (by omega)
      refine G_S (pc := 16) f_66_16 rfl rfl rfl ?_
      refine G_gR (pc := 17) f_66_17 (by decide) rfl (by first | assumption | exact hK.1 _ _ rfl) (by first | assumption | exact hK.2 _ _ _ rfl | (try dsimp only) <;> (repeat (first | exact up2_s | refine up2_o (by first | decide | omega) ?_)) <;> first | assumption | exact hK.2 _ _ _ rfl) ?_
      refine G_S (pc := 20) f_66_20 rfl rfl rfl ?_
      refine G_S (pc := 22) f_66_22 rfl rfl rfl ?_
      first | refine G_subN (pc := 23) f_66_23 (by omega) ?_ | refine G_subZ (pc := 23) f_66_23 (by first | rfl | exact nI_zI _) (by first | rfl | exact nI_zI _) ?_ | refine G_S (pc := 23) f_66_23 rfl rfl rfl ?_
      refine G_iaN (pc := 24) f_66_24 (by first | assumption | exact hK.1 _ _ rfl) (by omega) (by omega) (by first | assumption | exact q1 _ (by omega) | exact q2 _ (by omega) | exact q3 _ (by omega) | exact q4 _ (by omega) | exact q5 _ (by omega) | exact vh _ (by omega) | exact (vr _ (by omega)).1 | exact (vr _ (by omega)).2 | exact vw _ (by omega) | exact vf _ (by omega) (by omega) | rfl) ?_
      refine G_S (pc := 25) f_66_25 rfl rfl rfl ?_
      refine G_gR (pc := 26) f_66_26 (by decide) rfl (by first | assumption | exact hK.1 _ _ rfl) (by first | assumption | exact hK.2 _ _ _ rfl | (try dsimp only) <;> (repeat (first | exact up2_s | refine up2_o (by first | decide | omega) ?_)) <;> first | assumption | exact hK.2 _ _ _ rfl) ?_
      refine G_S (pc := 29) f_66_29 rfl rfl rfl ?_
      refine G_S (pc := 30) f_66_30 rfl rfl rfl ?_
      first | refine G_subN (pc := 31) f_66_31 (by omega) ?_ | refine G_subZ (pc := 31) f_66_31 (by first | rfl | exact nI_zI _) (by first | rfl | exact nI_zI _) ?_ | refine G_S (pc := 31) f_66_31 rfl rfl rfl ?_
      refine G_iaN (pc := 32) f_66_32 (by first | assumption | exact hK.1 _ _ rfl) (by omega) (by omega) (by first | assumption | exact q1 _ (by omega) | exact q2 _ (by omega) | exact q3 _ (by omega) | exact q4 _ (by omega) | exact q5 _ (by omega) | exact vh _ (by omega) | exact (vr _ (by omega)).1 | exact (vr _ (by omega)).2 | exact vw _ (by omega) | exact vf _ (by omega) (by omega) | rfl) ?_
      refine G_jgeZ (pc := 33) f_66_33 rfl (by first | exact nI_toInt (by omega) | exact zI_toInt (by omega) (by omega) | rfl) (by first | exact nI_toInt (by omega) | exact zI_toInt (by omega) (by omega) | rfl) (fun b2 => ?_) (fun b2 => ?_)
      · first | refine G_inc1 (pc := 39) f_66_39 rfl ?_ | refine G_S (pc := 39) f_66_39 rfl rfl rfl ?_
        refine G_S (pc := 42) f_66_42 rfl rfl rfl ?_
        have e := ih (by omega)
        first
          | (rw [loF, if_pos (by omega)] at e; exact e)
          | (rw [loF, if_neg (by omega)] at e; exact e)
      · refine G_S (pc := 36) f_66_36 rfl rfl rfl ?_
        refine G_S (pc := 38) f_66_38 rfl rfl rfl ?_
        first | refine G_inc1 (pc := 39) f_66_39 rfl ?_ | refine G_S (pc := 39) f_66_39 rfl rfl rfl ?_
        refine G_S (pc := 42) f_66_42 rfl rfl rfl ?_
        have e := ih (by omega)
        first
          | (rw [loF, if_pos (by omega)] at e; exact e)
          | (rw [loF, if_neg (by omega)] at e; exact e)
  refine CG_in (mL := 5) (hl := false) (lv := [some (.ref h), some (.int (nI fr)), some (.int (nI to)), none, none]) (ll := []) rfl rfl rfl ?_
  refine G_S (pc := 0) f_66_0 rfl rfl rfl ?_
  refine G_S (pc := 1) f_66_1 rfl rfl rfl ?_
  refine G_S (pc := 2) f_66_2 rfl rfl rfl ?_
  refine G_ic (v := nI 1) (pc := 3) f_66_3 (by decide) ?_
  first | refine G_addN (pc := 4) f_66_4 ?_ | refine G_addZ (pc := 4) f_66_4 (by first | rfl | exact nI_zI _) (by first | rfl | exact nI_zI _) ?_ | refine G_S (pc := 4) f_66_4 rfl rfl rfl ?_
  refine G_S (pc := 5) f_66_5 rfl rfl rfl ?_
  exact loop 0 (Nat.zero_le _)
end CLN
