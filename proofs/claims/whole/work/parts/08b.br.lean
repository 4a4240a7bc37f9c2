/-! branches, switches, short forms -/
def b2i (c : Prop) [Decidable c] : Int32 := if c then 1 else 0
theorem b2i_01 (c : Prop) [Decidable c] : b2i c = 0 ∨ b2i c = 1 := by
  unfold b2i
  split
  · exact Or.inr rfl
  · exact Or.inl rfl
theorem b2i_ne {c : Prop} {hc : Decidable c} : ¬ b2i c = 0 ↔ c := by
  unfold b2i
  split
  · rename_i h
    exact ⟨fun _ => h, fun _ => by decide⟩
  · rename_i h
    exact ⟨fun q => absurd rfl q, fun q => absurd q h⟩
theorem b2i_eq {c : Prop} {hc : Decidable c} : b2i c = 0 ↔ ¬ c := by
  unfold b2i
  split
  · rename_i h
    exact ⟨fun q => absurd q (by decide), fun q => absurd h q⟩
  · rename_i h
    exact ⟨fun _ => h, fun _ => rfl⟩
theorem b2i_pos {c : Prop} {hc : Decidable c} (h : c) : b2i c = 1 := if_pos h
theorem b2i_neg {c : Prop} {hc : Decidable c} (h : ¬ c) : b2i c = 0 := if_neg h
theorem fe_of {y pc len : Nat} {ins : Instr} {pm : PM} (h : PGL[y]? = some pm) (hl : pm.2.2.2.2.2.2.2.2.lookup pc = some (ins, len)) : fe y pc = some (ins, len, pm.2.2.2.2.1, pm.2.2.2.1) := by
  unfold fe
  rw [h]
  dsimp only
  rw [hl]
section GB
variable {C : Ct} {y pc len o t : Nat} {lv : Lv} {ll : Ll} {st : List Value} {M : Mm} {Q : Option Value → Mm → Prop} {ret : Option FieldType} {off : Int}
theorem G_jeq {a b : Int32} (hf : fe y pc = some (.if_icmp .eq off, len, o, ret)) (ht : jmp pc off = some t) (k1 : a = b → G C y (t, lv, ll, st, M) Q) (k2 : ¬ a = b → G C y (pc + 3, lv, ll, st, M) Q) : G C y (pc, lv, ll, .int b :: .int a :: st, M) Q := by
  by_cases h : a = b
  · refine G_S hf rfl rfl ?_ (k1 h)
    simp only [stp, br, ht]
    exact if_pos h
  · refine G_S hf rfl rfl ?_ (k2 h)
    simp only [stp, br, ht]
    exact if_neg h
theorem G_zeq {a : Int32} (hf : fe y pc = some (.ifCond .eq off, len, o, ret)) (ht : jmp pc off = some t) (k1 : a = 0 → G C y (t, lv, ll, st, M) Q) (k2 : ¬ a = 0 → G C y (pc + 3, lv, ll, st, M) Q) : G C y (pc, lv, ll, .int a :: st, M) Q := by
  by_cases h : a = 0
  · refine G_S hf rfl rfl ?_ (k1 h)
    simp only [stp, br, ht]
    exact if_pos h
  · refine G_S hf rfl rfl ?_ (k2 h)
    simp only [stp, br, ht]
    exact if_neg h
theorem G_jne {a b : Int32} (hf : fe y pc = some (.if_icmp .ne off, len, o, ret)) (ht : jmp pc off = some t) (k1 : ¬ a = b → G C y (t, lv, ll, st, M) Q) (k2 : a = b → G C y (pc + 3, lv, ll, st, M) Q) : G C y (pc, lv, ll, .int b :: .int a :: st, M) Q := by
  by_cases h : ¬ a = b
  · refine G_S hf rfl rfl ?_ (k1 h)
    simp only [stp, br, ht]
    exact if_pos h
  · refine G_S hf rfl rfl ?_ (k2 (Decidable.of_not_not h))
    simp only [stp, br, ht]
    exact if_neg h
theorem G_zne {a : Int32} (hf : fe y pc = some (.ifCond .ne off, len, o, ret)) (ht : jmp pc off = some t) (k1 : ¬ a = 0 → G C y (t, lv, ll, st, M) Q) (k2 : a = 0 → G C y (pc + 3, lv, ll, st, M) Q) : G C y (pc, lv, ll, .int a :: st, M) Q := by
  by_cases h : ¬ a = 0
  · refine G_S hf rfl rfl ?_ (k1 h)
    simp only [stp, br, ht]
    exact if_pos h
  · refine G_S hf rfl rfl ?_ (k2 (Decidable.of_not_not h))
    simp only [stp, br, ht]
    exact if_neg h
theorem G_jlt {a b : Int32} (hf : fe y pc = some (.if_icmp .lt off, len, o, ret)) (ht : jmp pc off = some t) (k1 : a < b → G C y (t, lv, ll, st, M) Q) (k2 : ¬ a < b → G C y (pc + 3, lv, ll, st, M) Q) : G C y (pc, lv, ll, .int b :: .int a :: st, M) Q := by
  by_cases h : a < b
  · refine G_S hf rfl rfl ?_ (k1 h)
    simp only [stp, br, ht]
    exact if_pos h
  · refine G_S hf rfl rfl ?_ (k2 h)
    simp only [stp, br, ht]
    exact if_neg h
theorem G_zlt {a : Int32} (hf : fe y pc = some (.ifCond .lt off, len, o, ret)) (ht : jmp pc off = some t) (k1 : a < 0 → G C y (t, lv, ll, st, M) Q) (k2 : ¬ a < 0 → G C y (pc + 3, lv, ll, st, M) Q) : G C y (pc, lv, ll, .int a :: st, M) Q := by
  by_cases h : a < 0
  · refine G_S hf rfl rfl ?_ (k1 h)
    simp only [stp, br, ht]
    exact if_pos h
  · refine G_S hf rfl rfl ?_ (k2 h)
    simp only [stp, br, ht]
    exact if_neg h
theorem G_jge {a b : Int32} (hf : fe y pc = some (.if_icmp .ge off, len, o, ret)) (ht : jmp pc off = some t) (k1 : b ≤ a → G C y (t, lv, ll, st, M) Q) (k2 : ¬ b ≤ a → G C y (pc + 3, lv, ll, st, M) Q) : G C y (pc, lv, ll, .int b :: .int a :: st, M) Q := by
  by_cases h : b ≤ a
  · refine G_S hf rfl rfl ?_ (k1 h)
    simp only [stp, br, ht]
    exact if_pos h
  · refine G_S hf rfl rfl ?_ (k2 h)
    simp only [stp, br, ht]
    exact if_neg h
theorem G_zge {a : Int32} (hf : fe y pc = some (.ifCond .ge off, len, o, ret)) (ht : jmp pc off = some t) (k1 : 0 ≤ a → G C y (t, lv, ll, st, M) Q) (k2 : ¬ 0 ≤ a → G C y (pc + 3, lv, ll, st, M) Q) : G C y (pc, lv, ll, .int a :: st, M) Q := by
  by_cases h : 0 ≤ a
  · refine G_S hf rfl rfl ?_ (k1 h)
    simp only [stp, br, ht]
    exact if_pos h
  · refine G_S hf rfl rfl ?_ (k2 h)
    simp only [stp, br, ht]
    exact if_neg h
theorem G_jgt {a b : Int32} (hf : fe y pc = some (.if_icmp .gt off, len, o, ret)) (ht : jmp pc off = some t) (k1 : b < a → G C y (t, lv, ll, st, M) Q) (k2 : ¬ b < a → G C y (pc + 3, lv, ll, st, M) Q) : G C y (pc, lv, ll, .int b :: .int a :: st, M) Q := by
  by_cases h : b < a
  · refine G_S hf rfl rfl ?_ (k1 h)
    simp only [stp, br, ht]
    exact if_pos h
  · refine G_S hf rfl rfl ?_ (k2 h)
    simp only [stp, br, ht]
    exact if_neg h
theorem G_zgt {a : Int32} (hf : fe y pc = some (.ifCond .gt off, len, o, ret)) (ht : jmp pc off = some t) (k1 : 0 < a → G C y (t, lv, ll, st, M) Q) (k2 : ¬ 0 < a → G C y (pc + 3, lv, ll, st, M) Q) : G C y (pc, lv, ll, .int a :: st, M) Q := by
  by_cases h : 0 < a
  · refine G_S hf rfl rfl ?_ (k1 h)
    simp only [stp, br, ht]
    exact if_pos h
  · refine G_S hf rfl rfl ?_ (k2 h)
    simp only [stp, br, ht]
    exact if_neg h
theorem G_jle {a b : Int32} (hf : fe y pc = some (.if_icmp .le off, len, o, ret)) (ht : jmp pc off = some t) (k1 : a ≤ b → G C y (t, lv, ll, st, M) Q) (k2 : ¬ a ≤ b → G C y (pc + 3, lv, ll, st, M) Q) : G C y (pc, lv, ll, .int b :: .int a :: st, M) Q := by
  by_cases h : a ≤ b
  · refine G_S hf rfl rfl ?_ (k1 h)
    simp only [stp, br, ht]
    exact if_pos h
  · refine G_S hf rfl rfl ?_ (k2 h)
    simp only [stp, br, ht]
    exact if_neg h
theorem G_zle {a : Int32} (hf : fe y pc = some (.ifCond .le off, len, o, ret)) (ht : jmp pc off = some t) (k1 : a ≤ 0 → G C y (t, lv, ll, st, M) Q) (k2 : ¬ a ≤ 0 → G C y (pc + 3, lv, ll, st, M) Q) : G C y (pc, lv, ll, .int a :: st, M) Q := by
  by_cases h : a ≤ 0
  · refine G_S hf rfl rfl ?_ (k1 h)
    simp only [stp, br, ht]
    exact if_pos h
  · refine G_S hf rfl rfl ?_ (k2 h)
    simp only [stp, br, ht]
    exact if_neg h
theorem G_bEq {c : Prop} {hc : Decidable c} (hf : fe y pc = some (.ifCond .eq off, len, o, ret)) (ht : jmp pc off = some t) (k1 : ¬ c → G C y (t, lv, ll, st, M) Q) (k2 : c → G C y (pc + 3, lv, ll, st, M) Q) : G C y (pc, lv, ll, .int (b2i c) :: st, M) Q := G_zeq hf ht (fun h => k1 (b2i_eq.mp h)) (fun h => k2 (b2i_ne.mp h))
theorem G_bNe {c : Prop} {hc : Decidable c} (hf : fe y pc = some (.ifCond .ne off, len, o, ret)) (ht : jmp pc off = some t) (k1 : c → G C y (t, lv, ll, st, M) Q) (k2 : ¬ c → G C y (pc + 3, lv, ll, st, M) Q) : G C y (pc, lv, ll, .int (b2i c) :: st, M) Q := G_zne hf ht (fun h => k1 (b2i_ne.mp h)) (fun h => k2 (b2i_eq.mp h))
/-- a static call -/
theorem G_CS {ins : Instr} {kd y' np mL oc : Nat} {hl : Bool} {as rest : List Value} (hf : fe y pc = some (ins, len, o, ret)) (hn : isRet ins = false) (hc : callOf o ins = some (kd, y', np)) (hk : 2 ≤ kd ∧ kd < 4) (hi : ci y y' = some (mL, oc, hl)) (hs : spl st (npop kd np) = some (as, rest)) (h8 : (rest.map fun v => v.category).sum ≤ 8 ∧ (enV as).length ≤ mL)
    (K : CG C y' as M (fun v M' => G C y (pc + 3, lv, ll, v.toList ++ rest, M') Q)) : G C y (pc, lv, ll, st, M) Q :=
  G_C hf hn hc hi hs (by unfold rcv; rw [if_pos hk]) h8 K
/-- a call of an object's method -/
theorem G_CV {ins : Instr} {kd y' np mL oc r n : Nat} {hl : Bool} {as rest : List Value} (hf : fe y pc = some (ins, len, o, ret)) (hn : isRet ins = false) (hc : callOf o ins = some (kd, y', np)) (hk : kd < 2) (hi : ci y y' = some (mL, oc, hl)) (hs : spl st (npop kd np) = some (.ref r :: as, rest)) (hT : M.1[r]? = some (oc, n)) (ho : oc < 50) (h8 : (rest.map fun v => v.category).sum ≤ 8 ∧ (enV (.ref r :: as)).length ≤ mL)
    (K : CG C y' (.ref r :: as) M (fun v M' => G C y (pc + 3, lv, ll, v.toList ++ rest, M') Q)) : G C y (pc, lv, ll, st, M) Q :=
  G_C hf hn hc hi hs (by
    unfold rcv
    rw [if_neg (by omega)]
    dsimp only
    rw [if_neg (by omega), hT]
    dsimp only
    exact decide_eq_true ⟨rfl, ho⟩) h8 K
end GB
set_option maxRecDepth 100000 in
theorem pg_0 : PGL[0]? = some pm_0 := rfl
set_option maxRecDepth 100000 in
theorem pg_1 : PGL[1]? = some pm_1 := rfl
set_option maxRecDepth 100000 in
theorem pg_2 : PGL[2]? = some pm_2 := rfl
set_option maxRecDepth 100000 in
theorem pg_3 : PGL[3]? = some pm_3 := rfl
set_option maxRecDepth 100000 in
theorem pg_4 : PGL[4]? = some pm_4 := rfl
set_option maxRecDepth 100000 in
theorem pg_5 : PGL[5]? = some pm_5 := rfl
set_option maxRecDepth 100000 in
theorem pg_6 : PGL[6]? = some pm_6 := rfl
set_option maxRecDepth 100000 in
theorem pg_7 : PGL[7]? = some pm_7 := rfl
set_option maxRecDepth 100000 in
theorem pg_8 : PGL[8]? = some pm_8 := rfl
set_option maxRecDepth 100000 in
theorem pg_9 : PGL[9]? = some pm_9 := rfl
set_option maxRecDepth 100000 in
theorem pg_10 : PGL[10]? = some pm_10 := rfl
set_option maxRecDepth 100000 in
theorem pg_11 : PGL[11]? = some pm_11 := rfl
set_option maxRecDepth 100000 in
theorem pg_12 : PGL[12]? = some pm_12 := rfl
set_option maxRecDepth 100000 in
theorem pg_13 : PGL[13]? = some pm_13 := rfl
set_option maxRecDepth 100000 in
theorem pg_14 : PGL[14]? = some pm_14 := rfl
set_option maxRecDepth 100000 in
theorem pg_15 : PGL[15]? = some pm_15 := rfl
set_option maxRecDepth 100000 in
theorem pg_16 : PGL[16]? = some pm_16 := rfl
set_option maxRecDepth 100000 in
theorem pg_17 : PGL[17]? = some pm_17 := rfl
set_option maxRecDepth 100000 in
theorem pg_18 : PGL[18]? = some pm_18 := rfl
set_option maxRecDepth 100000 in
theorem pg_19 : PGL[19]? = some pm_19 := rfl
set_option maxRecDepth 100000 in
theorem pg_20 : PGL[20]? = some pm_20 := rfl
set_option maxRecDepth 100000 in
theorem pg_21 : PGL[21]? = some pm_21 := rfl
set_option maxRecDepth 100000 in
theorem pg_22 : PGL[22]? = some pm_22 := rfl
set_option maxRecDepth 100000 in
theorem pg_23 : PGL[23]? = some pm_23 := rfl
set_option maxRecDepth 100000 in
theorem pg_24 : PGL[24]? = some pm_24 := rfl
set_option maxRecDepth 100000 in
theorem pg_25 : PGL[25]? = some pm_25 := rfl
set_option maxRecDepth 100000 in
theorem pg_26 : PGL[26]? = some pm_26 := rfl
set_option maxRecDepth 100000 in
theorem pg_27 : PGL[27]? = some pm_27 := rfl
set_option maxRecDepth 100000 in
theorem pg_28 : PGL[28]? = some pm_28 := rfl
set_option maxRecDepth 100000 in
theorem pg_29 : PGL[29]? = some pm_29 := rfl
set_option maxRecDepth 100000 in
theorem pg_30 : PGL[30]? = some pm_30 := rfl
set_option maxRecDepth 100000 in
theorem pg_31 : PGL[31]? = some pm_31 := rfl
set_option maxRecDepth 100000 in
theorem pg_32 : PGL[32]? = some pm_32 := rfl
set_option maxRecDepth 100000 in
theorem pg_33 : PGL[33]? = some pm_33 := rfl
set_option maxRecDepth 100000 in
theorem pg_34 : PGL[34]? = some pm_34 := rfl
set_option maxRecDepth 100000 in
theorem pg_35 : PGL[35]? = some pm_35 := rfl
set_option maxRecDepth 100000 in
theorem pg_36 : PGL[36]? = some pm_36 := rfl
set_option maxRecDepth 100000 in
theorem pg_37 : PGL[37]? = some pm_37 := rfl
set_option maxRecDepth 100000 in
theorem pg_38 : PGL[38]? = some pm_38 := rfl
set_option maxRecDepth 100000 in
theorem pg_39 : PGL[39]? = some pm_39 := rfl
set_option maxRecDepth 100000 in
theorem pg_40 : PGL[40]? = some pm_40 := rfl
set_option maxRecDepth 100000 in
theorem pg_41 : PGL[41]? = some pm_41 := rfl
set_option maxRecDepth 100000 in
theorem pg_42 : PGL[42]? = some pm_42 := rfl
set_option maxRecDepth 100000 in
theorem pg_43 : PGL[43]? = some pm_43 := rfl
set_option maxRecDepth 100000 in
theorem pg_44 : PGL[44]? = some pm_44 := rfl
set_option maxRecDepth 100000 in
theorem pg_45 : PGL[45]? = some pm_45 := rfl
set_option maxRecDepth 100000 in
theorem pg_46 : PGL[46]? = some pm_46 := rfl
set_option maxRecDepth 100000 in
theorem pg_47 : PGL[47]? = some pm_47 := rfl
set_option maxRecDepth 100000 in
theorem pg_48 : PGL[48]? = some pm_48 := rfl
set_option maxRecDepth 100000 in
theorem pg_49 : PGL[49]? = some pm_49 := rfl
set_option maxRecDepth 100000 in
theorem pg_50 : PGL[50]? = some pm_50 := rfl
set_option maxRecDepth 100000 in
theorem pg_51 : PGL[51]? = some pm_51 := rfl
set_option maxRecDepth 100000 in
theorem pg_52 : PGL[52]? = some pm_52 := rfl
set_option maxRecDepth 100000 in
theorem pg_53 : PGL[53]? = some pm_53 := rfl
set_option maxRecDepth 100000 in
theorem pg_54 : PGL[54]? = some pm_54 := rfl
set_option maxRecDepth 100000 in
theorem pg_55 : PGL[55]? = some pm_55 := rfl
set_option maxRecDepth 100000 in
theorem pg_56 : PGL[56]? = some pm_56 := rfl
set_option maxRecDepth 100000 in
theorem pg_57 : PGL[57]? = some pm_57 := rfl
set_option maxRecDepth 100000 in
theorem pg_58 : PGL[58]? = some pm_58 := rfl
set_option maxRecDepth 100000 in
theorem pg_59 : PGL[59]? = some pm_59 := rfl
set_option maxRecDepth 100000 in
theorem pg_60 : PGL[60]? = some pm_60 := rfl
set_option maxRecDepth 100000 in
theorem pg_61 : PGL[61]? = some pm_61 := rfl
set_option maxRecDepth 100000 in
theorem pg_62 : PGL[62]? = some pm_62 := rfl
set_option maxRecDepth 100000 in
theorem pg_63 : PGL[63]? = some pm_63 := rfl
set_option maxRecDepth 100000 in
theorem pg_64 : PGL[64]? = some pm_64 := rfl
set_option maxRecDepth 100000 in
theorem pg_65 : PGL[65]? = some pm_65 := rfl
set_option maxRecDepth 100000 in
theorem pg_66 : PGL[66]? = some pm_66 := rfl
set_option maxRecDepth 100000 in
theorem pg_67 : PGL[67]? = some pm_67 := rfl
set_option maxRecDepth 100000 in
theorem pg_68 : PGL[68]? = some pm_68 := rfl
set_option maxRecDepth 100000 in
theorem pg_69 : PGL[69]? = some pm_69 := rfl
set_option maxRecDepth 100000 in
theorem pg_70 : PGL[70]? = some pm_70 := rfl
set_option maxRecDepth 100000 in
theorem pg_71 : PGL[71]? = some pm_71 := rfl
set_option maxRecDepth 100000 in
theorem pg_72 : PGL[72]? = some pm_72 := rfl
set_option maxRecDepth 100000 in
theorem pg_73 : PGL[73]? = some pm_73 := rfl
set_option maxRecDepth 100000 in
theorem pg_74 : PGL[74]? = some pm_74 := rfl
set_option maxRecDepth 100000 in
theorem pg_75 : PGL[75]? = some pm_75 := rfl
set_option maxRecDepth 100000 in
theorem pg_76 : PGL[76]? = some pm_76 := rfl
set_option maxRecDepth 100000 in
theorem pg_77 : PGL[77]? = some pm_77 := rfl
set_option maxRecDepth 100000 in
theorem pg_78 : PGL[78]? = some pm_78 := rfl
set_option maxRecDepth 100000 in
theorem pg_79 : PGL[79]? = some pm_79 := rfl
set_option maxRecDepth 100000 in
theorem pg_80 : PGL[80]? = some pm_80 := rfl
set_option maxRecDepth 100000 in
theorem pg_81 : PGL[81]? = some pm_81 := rfl
set_option maxRecDepth 100000 in
theorem pg_82 : PGL[82]? = some pm_82 := rfl
set_option maxRecDepth 100000 in
theorem pg_83 : PGL[83]? = some pm_83 := rfl
set_option maxRecDepth 100000 in
theorem pg_84 : PGL[84]? = some pm_84 := rfl
set_option maxRecDepth 100000 in
theorem pg_85 : PGL[85]? = some pm_85 := rfl
set_option maxRecDepth 100000 in
theorem pg_86 : PGL[86]? = some pm_86 := rfl
set_option maxRecDepth 100000 in
theorem pg_87 : PGL[87]? = some pm_87 := rfl
set_option maxRecDepth 100000 in
theorem pg_88 : PGL[88]? = some pm_88 := rfl
set_option maxRecDepth 100000 in
theorem pg_89 : PGL[89]? = some pm_89 := rfl
set_option maxRecDepth 100000 in
theorem pg_90 : PGL[90]? = some pm_90 := rfl
set_option maxRecDepth 100000 in
theorem pg_91 : PGL[91]? = some pm_91 := rfl
set_option maxRecDepth 100000 in
theorem pg_92 : PGL[92]? = some pm_92 := rfl
set_option maxRecDepth 100000 in
theorem pg_93 : PGL[93]? = some pm_93 := rfl
set_option maxRecDepth 100000 in
theorem pg_94 : PGL[94]? = some pm_94 := rfl
set_option maxRecDepth 100000 in
theorem pg_95 : PGL[95]? = some pm_95 := rfl
set_option maxRecDepth 100000 in
theorem pg_96 : PGL[96]? = some pm_96 := rfl
set_option maxRecDepth 100000 in
theorem pg_97 : PGL[97]? = some pm_97 := rfl
set_option maxRecDepth 100000 in
theorem pg_98 : PGL[98]? = some pm_98 := rfl
set_option maxRecDepth 100000 in
theorem pg_99 : PGL[99]? = some pm_99 := rfl
set_option maxRecDepth 100000 in
theorem pg_100 : PGL[100]? = some pm_100 := rfl
set_option maxRecDepth 100000 in
theorem pg_101 : PGL[101]? = some pm_101 := rfl
set_option maxRecDepth 100000 in
theorem pg_102 : PGL[102]? = some pm_102 := rfl
set_option maxRecDepth 100000 in
theorem pg_103 : PGL[103]? = some pm_103 := rfl
set_option maxRecDepth 100000 in
theorem pg_104 : PGL[104]? = some pm_104 := rfl
set_option maxRecDepth 100000 in
theorem pg_105 : PGL[105]? = some pm_105 := rfl
set_option maxRecDepth 100000 in
theorem pg_106 : PGL[106]? = some pm_106 := rfl
set_option maxRecDepth 100000 in
theorem pg_107 : PGL[107]? = some pm_107 := rfl
set_option maxRecDepth 100000 in
theorem pg_108 : PGL[108]? = some pm_108 := rfl
set_option maxRecDepth 100000 in
theorem pg_109 : PGL[109]? = some pm_109 := rfl
set_option maxRecDepth 100000 in
theorem pg_110 : PGL[110]? = some pm_110 := rfl
set_option maxRecDepth 100000 in
theorem pg_111 : PGL[111]? = some pm_111 := rfl
set_option maxRecDepth 100000 in
theorem pg_112 : PGL[112]? = some pm_112 := rfl
set_option maxRecDepth 100000 in
theorem pg_113 : PGL[113]? = some pm_113 := rfl
set_option maxRecDepth 100000 in
theorem pg_114 : PGL[114]? = some pm_114 := rfl
set_option maxRecDepth 100000 in
theorem pg_115 : PGL[115]? = some pm_115 := rfl
set_option maxRecDepth 100000 in
theorem pg_116 : PGL[116]? = some pm_116 := rfl
set_option maxRecDepth 100000 in
theorem pg_117 : PGL[117]? = some pm_117 := rfl
set_option maxRecDepth 100000 in
theorem pg_118 : PGL[118]? = some pm_118 := rfl
set_option maxRecDepth 100000 in
theorem pg_119 : PGL[119]? = some pm_119 := rfl
set_option maxRecDepth 100000 in
theorem pg_120 : PGL[120]? = some pm_120 := rfl
set_option maxRecDepth 100000 in
theorem pg_121 : PGL[121]? = some pm_121 := rfl
set_option maxRecDepth 100000 in
theorem pg_122 : PGL[122]? = some pm_122 := rfl
set_option maxRecDepth 100000 in
theorem pg_123 : PGL[123]? = some pm_123 := rfl
set_option maxRecDepth 100000 in
theorem pg_124 : PGL[124]? = some pm_124 := rfl
set_option maxRecDepth 100000 in
theorem pg_125 : PGL[125]? = some pm_125 := rfl
set_option maxRecDepth 100000 in
theorem pg_126 : PGL[126]? = some pm_126 := rfl
set_option maxRecDepth 100000 in
theorem pg_127 : PGL[127]? = some pm_127 := rfl
set_option maxRecDepth 100000 in
theorem pg_128 : PGL[128]? = some pm_128 := rfl
set_option maxRecDepth 100000 in
theorem pg_129 : PGL[129]? = some pm_129 := rfl
set_option maxRecDepth 100000 in
theorem pg_130 : PGL[130]? = some pm_130 := rfl
set_option maxRecDepth 100000 in
theorem pg_131 : PGL[131]? = some pm_131 := rfl
set_option maxRecDepth 100000 in
theorem pg_132 : PGL[132]? = some pm_132 := rfl
set_option maxRecDepth 100000 in
theorem pg_133 : PGL[133]? = some pm_133 := rfl
set_option maxRecDepth 100000 in
theorem pg_134 : PGL[134]? = some pm_134 := rfl
set_option maxRecDepth 100000 in
theorem pg_135 : PGL[135]? = some pm_135 := rfl
set_option maxRecDepth 100000 in
theorem pg_136 : PGL[136]? = some pm_136 := rfl
set_option maxRecDepth 100000 in
theorem pg_137 : PGL[137]? = some pm_137 := rfl
set_option maxRecDepth 100000 in
theorem pg_138 : PGL[138]? = some pm_138 := rfl
set_option maxRecDepth 100000 in
theorem pg_139 : PGL[139]? = some pm_139 := rfl
set_option maxRecDepth 100000 in
theorem pg_140 : PGL[140]? = some pm_140 := rfl
set_option maxRecDepth 100000 in
theorem pg_141 : PGL[141]? = some pm_141 := rfl
set_option maxRecDepth 100000 in
theorem pg_142 : PGL[142]? = some pm_142 := rfl
set_option maxRecDepth 100000 in
theorem pg_143 : PGL[143]? = some pm_143 := rfl
set_option maxRecDepth 100000 in
theorem pg_144 : PGL[144]? = some pm_144 := rfl
set_option maxRecDepth 100000 in
theorem pg_145 : PGL[145]? = some pm_145 := rfl
set_option maxRecDepth 100000 in
theorem pg_146 : PGL[146]? = some pm_146 := rfl
set_option maxRecDepth 100000 in
theorem pg_147 : PGL[147]? = some pm_147 := rfl
set_option maxRecDepth 100000 in
theorem pg_148 : PGL[148]? = some pm_148 := rfl
set_option maxRecDepth 100000 in
theorem pg_149 : PGL[149]? = some pm_149 := rfl
set_option maxRecDepth 100000 in
theorem pg_150 : PGL[150]? = some pm_150 := rfl
set_option maxRecDepth 100000 in
theorem pg_151 : PGL[151]? = some pm_151 := rfl
set_option maxRecDepth 100000 in
theorem pg_152 : PGL[152]? = some pm_152 := rfl
set_option maxRecDepth 100000 in
theorem pg_153 : PGL[153]? = some pm_153 := rfl
set_option maxRecDepth 100000 in
theorem pg_154 : PGL[154]? = some pm_154 := rfl
set_option maxRecDepth 100000 in
theorem pg_155 : PGL[155]? = some pm_155 := rfl
set_option maxRecDepth 100000 in
theorem pg_156 : PGL[156]? = some pm_156 := rfl
set_option maxRecDepth 100000 in
theorem pg_157 : PGL[157]? = some pm_157 := rfl
set_option maxRecDepth 100000 in
theorem pg_158 : PGL[158]? = some pm_158 := rfl
set_option maxRecDepth 100000 in
theorem pg_159 : PGL[159]? = some pm_159 := rfl
set_option maxRecDepth 100000 in
theorem pg_160 : PGL[160]? = some pm_160 := rfl
set_option maxRecDepth 100000 in
theorem pg_161 : PGL[161]? = some pm_161 := rfl
set_option maxRecDepth 100000 in
theorem pg_162 : PGL[162]? = some pm_162 := rfl
set_option maxRecDepth 100000 in
theorem pg_163 : PGL[163]? = some pm_163 := rfl
set_option maxRecDepth 100000 in
theorem pg_164 : PGL[164]? = some pm_164 := rfl
set_option maxRecDepth 100000 in
theorem pg_165 : PGL[165]? = some pm_165 := rfl
set_option maxRecDepth 100000 in
theorem pg_166 : PGL[166]? = some pm_166 := rfl
set_option maxRecDepth 100000 in
theorem pg_167 : PGL[167]? = some pm_167 := rfl
set_option maxRecDepth 100000 in
theorem pg_168 : PGL[168]? = some pm_168 := rfl
set_option maxRecDepth 100000 in
theorem pg_169 : PGL[169]? = some pm_169 := rfl
set_option maxRecDepth 100000 in
theorem pg_170 : PGL[170]? = some pm_170 := rfl
set_option maxRecDepth 100000 in
theorem pg_171 : PGL[171]? = some pm_171 := rfl
set_option maxRecDepth 100000 in
theorem pg_172 : PGL[172]? = some pm_172 := rfl
set_option maxRecDepth 100000 in
theorem pg_173 : PGL[173]? = some pm_173 := rfl
set_option maxRecDepth 100000 in
theorem pg_174 : PGL[174]? = some pm_174 := rfl
set_option maxRecDepth 100000 in
theorem pg_175 : PGL[175]? = some pm_175 := rfl
set_option maxRecDepth 100000 in
theorem pg_176 : PGL[176]? = some pm_176 := rfl
set_option maxRecDepth 100000 in
theorem pg_177 : PGL[177]? = some pm_177 := rfl
set_option maxRecDepth 100000 in
theorem pg_178 : PGL[178]? = some pm_178 := rfl
set_option maxRecDepth 100000 in
theorem pg_179 : PGL[179]? = some pm_179 := rfl
set_option maxRecDepth 100000 in
theorem pg_180 : PGL[180]? = some pm_180 := rfl
set_option maxRecDepth 100000 in
theorem pg_181 : PGL[181]? = some pm_181 := rfl
set_option maxRecDepth 100000 in
theorem pg_182 : PGL[182]? = some pm_182 := rfl
set_option maxRecDepth 100000 in
theorem pg_183 : PGL[183]? = some pm_183 := rfl
set_option maxRecDepth 100000 in
theorem pg_184 : PGL[184]? = some pm_184 := rfl
set_option maxRecDepth 100000 in
theorem pg_185 : PGL[185]? = some pm_185 := rfl
set_option maxRecDepth 100000 in
theorem pg_186 : PGL[186]? = some pm_186 := rfl
set_option maxRecDepth 100000 in
theorem pg_187 : PGL[187]? = some pm_187 := rfl
set_option maxRecDepth 100000 in
theorem pg_188 : PGL[188]? = some pm_188 := rfl
set_option maxRecDepth 100000 in
theorem pg_189 : PGL[189]? = some pm_189 := rfl
set_option maxRecDepth 100000 in
theorem pg_190 : PGL[190]? = some pm_190 := rfl
set_option maxRecDepth 100000 in
theorem pg_191 : PGL[191]? = some pm_191 := rfl
set_option maxRecDepth 100000 in
theorem pg_192 : PGL[192]? = some pm_192 := rfl
set_option maxRecDepth 100000 in
theorem pg_193 : PGL[193]? = some pm_193 := rfl
set_option maxRecDepth 100000 in
theorem pg_194 : PGL[194]? = some pm_194 := rfl
set_option maxRecDepth 100000 in
theorem pg_195 : PGL[195]? = some pm_195 := rfl
set_option maxRecDepth 100000 in
theorem pg_196 : PGL[196]? = some pm_196 := rfl
set_option maxRecDepth 100000 in
theorem pg_197 : PGL[197]? = some pm_197 := rfl
set_option maxRecDepth 100000 in
theorem pg_198 : PGL[198]? = some pm_198 := rfl
set_option maxRecDepth 100000 in
theorem pg_199 : PGL[199]? = some pm_199 := rfl
set_option maxRecDepth 100000 in
theorem pg_200 : PGL[200]? = some pm_200 := rfl
set_option maxRecDepth 100000 in
theorem pg_201 : PGL[201]? = some pm_201 := rfl
set_option maxRecDepth 100000 in
theorem pg_202 : PGL[202]? = some pm_202 := rfl
set_option maxRecDepth 100000 in
theorem pg_203 : PGL[203]? = some pm_203 := rfl
set_option maxRecDepth 100000 in
theorem pg_204 : PGL[204]? = some pm_204 := rfl
set_option maxRecDepth 100000 in
theorem pg_205 : PGL[205]? = some pm_205 := rfl
set_option maxRecDepth 100000 in
theorem pg_206 : PGL[206]? = some pm_206 := rfl
set_option maxRecDepth 100000 in
theorem pg_207 : PGL[207]? = some pm_207 := rfl
set_option maxRecDepth 100000 in
theorem pg_208 : PGL[208]? = some pm_208 := rfl
set_option maxRecDepth 100000 in
theorem pg_209 : PGL[209]? = some pm_209 := rfl
set_option maxRecDepth 100000 in
theorem pg_210 : PGL[210]? = some pm_210 := rfl
set_option maxRecDepth 100000 in
theorem pg_211 : PGL[211]? = some pm_211 := rfl
set_option maxRecDepth 100000 in
theorem pg_212 : PGL[212]? = some pm_212 := rfl
set_option maxRecDepth 100000 in
theorem pg_213 : PGL[213]? = some pm_213 := rfl
set_option maxRecDepth 100000 in
theorem pg_214 : PGL[214]? = some pm_214 := rfl
set_option maxRecDepth 100000 in
theorem pg_215 : PGL[215]? = some pm_215 := rfl
set_option maxRecDepth 100000 in
theorem pg_216 : PGL[216]? = some pm_216 := rfl
set_option maxRecDepth 100000 in
theorem pg_217 : PGL[217]? = some pm_217 := rfl
set_option maxRecDepth 100000 in
theorem pg_218 : PGL[218]? = some pm_218 := rfl
set_option maxRecDepth 100000 in
theorem pg_219 : PGL[219]? = some pm_219 := rfl
set_option maxRecDepth 100000 in
theorem pg_220 : PGL[220]? = some pm_220 := rfl
set_option maxRecDepth 100000 in
theorem pg_221 : PGL[221]? = some pm_221 := rfl
set_option maxRecDepth 100000 in
theorem pg_222 : PGL[222]? = some pm_222 := rfl
set_option maxRecDepth 100000 in
theorem pg_223 : PGL[223]? = some pm_223 := rfl
set_option maxRecDepth 100000 in
theorem pg_224 : PGL[224]? = some pm_224 := rfl
set_option maxRecDepth 100000 in
theorem pg_225 : PGL[225]? = some pm_225 := rfl
set_option maxRecDepth 100000 in
theorem pg_226 : PGL[226]? = some pm_226 := rfl
set_option maxRecDepth 100000 in
theorem pg_227 : PGL[227]? = some pm_227 := rfl
set_option maxRecDepth 100000 in
theorem pg_228 : PGL[228]? = some pm_228 := rfl
set_option maxRecDepth 100000 in
theorem pg_229 : PGL[229]? = some pm_229 := rfl
set_option maxRecDepth 100000 in
theorem pg_230 : PGL[230]? = some pm_230 := rfl
set_option maxRecDepth 100000 in
theorem pg_231 : PGL[231]? = some pm_231 := rfl
set_option maxRecDepth 100000 in
theorem pg_232 : PGL[232]? = some pm_232 := rfl
set_option maxRecDepth 100000 in
theorem pg_233 : PGL[233]? = some pm_233 := rfl
set_option maxRecDepth 100000 in
theorem pg_234 : PGL[234]? = some pm_234 := rfl
set_option maxRecDepth 100000 in
theorem pg_235 : PGL[235]? = some pm_235 := rfl
set_option maxRecDepth 100000 in
theorem pg_236 : PGL[236]? = some pm_236 := rfl
set_option maxRecDepth 100000 in
theorem pg_237 : PGL[237]? = some pm_237 := rfl
set_option maxRecDepth 100000 in
theorem pg_238 : PGL[238]? = some pm_238 := rfl
set_option maxRecDepth 100000 in
theorem pg_239 : PGL[239]? = some pm_239 := rfl
set_option maxRecDepth 100000 in
theorem pg_240 : PGL[240]? = some pm_240 := rfl
set_option maxRecDepth 100000 in
theorem pg_241 : PGL[241]? = some pm_241 := rfl
set_option maxRecDepth 100000 in
theorem pg_242 : PGL[242]? = some pm_242 := rfl
set_option maxRecDepth 100000 in
theorem pg_243 : PGL[243]? = some pm_243 := rfl
set_option maxRecDepth 100000 in
theorem pg_244 : PGL[244]? = some pm_244 := rfl
set_option maxRecDepth 100000 in
theorem pg_245 : PGL[245]? = some pm_245 := rfl
set_option maxRecDepth 100000 in
theorem pg_246 : PGL[246]? = some pm_246 := rfl
set_option maxRecDepth 100000 in
theorem pg_247 : PGL[247]? = some pm_247 := rfl
set_option maxRecDepth 100000 in
theorem pg_248 : PGL[248]? = some pm_248 := rfl
set_option maxRecDepth 100000 in
theorem pg_249 : PGL[249]? = some pm_249 := rfl
set_option maxRecDepth 100000 in
theorem pg_250 : PGL[250]? = some pm_250 := rfl
set_option maxRecDepth 100000 in
theorem pg_251 : PGL[251]? = some pm_251 := rfl
set_option maxRecDepth 100000 in
theorem pg_252 : PGL[252]? = some pm_252 := rfl
set_option maxRecDepth 100000 in
theorem pg_253 : PGL[253]? = some pm_253 := rfl
set_option maxRecDepth 100000 in
theorem pg_254 : PGL[254]? = some pm_254 := rfl
set_option maxRecDepth 100000 in
theorem pg_255 : PGL[255]? = some pm_255 := rfl
set_option maxRecDepth 100000 in
theorem pg_256 : PGL[256]? = some pm_256 := rfl
set_option maxRecDepth 100000 in
theorem pg_257 : PGL[257]? = some pm_257 := rfl
set_option maxRecDepth 100000 in
theorem pg_258 : PGL[258]? = some pm_258 := rfl
set_option maxRecDepth 100000 in
theorem pg_259 : PGL[259]? = some pm_259 := rfl
set_option maxRecDepth 100000 in
theorem pg_260 : PGL[260]? = some pm_260 := rfl
set_option maxRecDepth 100000 in
theorem pg_261 : PGL[261]? = some pm_261 := rfl
set_option maxRecDepth 100000 in
theorem pg_262 : PGL[262]? = some pm_262 := rfl
set_option maxRecDepth 100000 in
theorem pg_263 : PGL[263]? = some pm_263 := rfl
set_option maxRecDepth 100000 in
theorem pg_264 : PGL[264]? = some pm_264 := rfl
set_option maxRecDepth 100000 in
theorem pg_265 : PGL[265]? = some pm_265 := rfl
set_option maxRecDepth 100000 in
theorem pg_266 : PGL[266]? = some pm_266 := rfl
set_option maxRecDepth 100000 in
theorem pg_267 : PGL[267]? = some pm_267 := rfl
set_option maxRecDepth 100000 in
theorem pg_268 : PGL[268]? = some pm_268 := rfl
set_option maxRecDepth 100000 in
theorem pg_269 : PGL[269]? = some pm_269 := rfl
set_option maxRecDepth 100000 in
theorem pg_270 : PGL[270]? = some pm_270 := rfl
set_option maxRecDepth 100000 in
theorem pg_271 : PGL[271]? = some pm_271 := rfl
set_option maxRecDepth 100000 in
theorem pg_272 : PGL[272]? = some pm_272 := rfl
set_option maxRecDepth 100000 in
theorem pg_273 : PGL[273]? = some pm_273 := rfl
set_option maxRecDepth 100000 in
theorem pg_274 : PGL[274]? = some pm_274 := rfl
set_option maxRecDepth 100000 in
theorem pg_275 : PGL[275]? = some pm_275 := rfl
set_option maxRecDepth 100000 in
theorem pg_276 : PGL[276]? = some pm_276 := rfl
set_option maxRecDepth 100000 in
theorem pg_277 : PGL[277]? = some pm_277 := rfl
set_option maxRecDepth 100000 in
theorem pg_278 : PGL[278]? = some pm_278 := rfl
set_option maxRecDepth 100000 in
theorem pg_279 : PGL[279]? = some pm_279 := rfl
set_option maxRecDepth 100000 in
theorem pg_280 : PGL[280]? = some pm_280 := rfl
set_option maxRecDepth 100000 in
theorem pg_281 : PGL[281]? = some pm_281 := rfl
set_option maxRecDepth 100000 in
theorem pg_282 : PGL[282]? = some pm_282 := rfl
set_option maxRecDepth 100000 in
theorem pg_283 : PGL[283]? = some pm_283 := rfl
set_option maxRecDepth 100000 in
theorem pg_284 : PGL[284]? = some pm_284 := rfl
set_option maxRecDepth 100000 in
theorem pg_285 : PGL[285]? = some pm_285 := rfl
set_option maxRecDepth 100000 in
theorem pg_286 : PGL[286]? = some pm_286 := rfl
set_option maxRecDepth 100000 in
theorem pg_287 : PGL[287]? = some pm_287 := rfl
set_option maxRecDepth 100000 in
theorem pg_288 : PGL[288]? = some pm_288 := rfl
set_option maxRecDepth 100000 in
theorem pg_289 : PGL[289]? = some pm_289 := rfl
set_option maxRecDepth 100000 in
theorem pg_290 : PGL[290]? = some pm_290 := rfl
set_option maxRecDepth 100000 in
theorem pg_291 : PGL[291]? = some pm_291 := rfl
set_option maxRecDepth 100000 in
theorem pg_292 : PGL[292]? = some pm_292 := rfl
set_option maxRecDepth 100000 in
theorem pg_293 : PGL[293]? = some pm_293 := rfl
set_option maxRecDepth 100000 in
theorem pg_294 : PGL[294]? = some pm_294 := rfl
set_option maxRecDepth 100000 in
theorem pg_295 : PGL[295]? = some pm_295 := rfl
set_option maxRecDepth 100000 in
theorem pg_296 : PGL[296]? = some pm_296 := rfl
set_option maxRecDepth 100000 in
theorem pg_297 : PGL[297]? = some pm_297 := rfl
set_option maxRecDepth 100000 in
theorem pg_298 : PGL[298]? = some pm_298 := rfl
set_option maxRecDepth 100000 in
theorem pg_299 : PGL[299]? = some pm_299 := rfl
set_option maxRecDepth 100000 in
theorem pg_300 : PGL[300]? = some pm_300 := rfl
set_option maxRecDepth 100000 in
theorem pg_301 : PGL[301]? = some pm_301 := rfl
set_option maxRecDepth 100000 in
theorem pg_302 : PGL[302]? = some pm_302 := rfl
set_option maxRecDepth 100000 in
theorem pg_303 : PGL[303]? = some pm_303 := rfl
set_option maxRecDepth 100000 in
theorem pg_304 : PGL[304]? = some pm_304 := rfl
set_option maxRecDepth 100000 in
theorem pg_305 : PGL[305]? = some pm_305 := rfl
set_option maxRecDepth 100000 in
theorem pg_306 : PGL[306]? = some pm_306 := rfl
set_option maxRecDepth 100000 in
theorem pg_307 : PGL[307]? = some pm_307 := rfl
set_option maxRecDepth 100000 in
theorem pg_308 : PGL[308]? = some pm_308 := rfl
set_option maxRecDepth 100000 in
theorem pg_309 : PGL[309]? = some pm_309 := rfl
set_option maxRecDepth 100000 in
theorem pg_310 : PGL[310]? = some pm_310 := rfl
set_option maxRecDepth 100000 in
theorem pg_311 : PGL[311]? = some pm_311 := rfl
set_option maxRecDepth 100000 in
theorem pg_312 : PGL[312]? = some pm_312 := rfl
set_option maxRecDepth 100000 in
theorem pg_313 : PGL[313]? = some pm_313 := rfl
set_option maxRecDepth 100000 in
theorem pg_314 : PGL[314]? = some pm_314 := rfl
set_option maxRecDepth 100000 in
theorem pg_315 : PGL[315]? = some pm_315 := rfl
set_option maxRecDepth 100000 in
theorem pg_316 : PGL[316]? = some pm_316 := rfl
set_option maxRecDepth 100000 in
theorem pg_317 : PGL[317]? = some pm_317 := rfl
set_option maxRecDepth 100000 in
theorem pg_318 : PGL[318]? = some pm_318 := rfl
set_option maxRecDepth 100000 in
theorem pg_319 : PGL[319]? = some pm_319 := rfl
set_option maxRecDepth 100000 in
theorem pg_320 : PGL[320]? = some pm_320 := rfl
set_option maxRecDepth 100000 in
theorem pg_321 : PGL[321]? = some pm_321 := rfl
set_option maxRecDepth 100000 in
theorem pg_322 : PGL[322]? = some pm_322 := rfl
set_option maxRecDepth 100000 in
theorem pg_323 : PGL[323]? = some pm_323 := rfl
set_option maxRecDepth 100000 in
theorem pg_324 : PGL[324]? = some pm_324 := rfl
set_option maxRecDepth 100000 in
theorem pg_325 : PGL[325]? = some pm_325 := rfl
set_option maxRecDepth 100000 in
theorem pg_326 : PGL[326]? = some pm_326 := rfl
set_option maxRecDepth 100000 in
theorem pg_327 : PGL[327]? = some pm_327 := rfl
set_option maxRecDepth 100000 in
theorem pg_328 : PGL[328]? = some pm_328 := rfl
set_option maxRecDepth 100000 in
theorem pg_329 : PGL[329]? = some pm_329 := rfl
set_option maxRecDepth 100000 in
theorem pg_330 : PGL[330]? = some pm_330 := rfl
set_option maxRecDepth 100000 in
theorem pg_331 : PGL[331]? = some pm_331 := rfl
