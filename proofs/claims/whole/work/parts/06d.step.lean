/-! THE STEPS ARE SOUND. Base: what the start gives; Act: a method's activation; Wd: the world in it; SP: an instruction is sound. -/
def Af (s0 : State) : Nat → Prop := fun q => s0.heap.size ≤ q
def Base (D : va_G) (cy : Nat → ClassId) (cv : Nat → Value) (C : Ct) (s0 : State) : Prop :=
  va_K D vwCl (TYS cy) s0 ∧ ((∀ a i x h, Cond.methodLinkNest a i x h ∈ lw_tbl → va_Nw (.methodLinkNest a i x h) s0) ∧ ∀ a i b n d h, Cond.fieldLinkNest a i b n d h ∈ lw_tbl → va_Nw (.fieldLinkNest a i b n d h) s0) ∧
  (∀ c kd, kdR c = some kd → va_AO (CN c) s0) ∧ (∀ r, cv r = .null ∨ ∃ a, cv r = .ref a) ∧
  (∀ q ∈ STL, va_Z q.1 q.2.1 q.2.2.1 (tr s0.heap.size cv q.2.2.2) (Af s0) s0 s0.heap) ∧
  (∀ r kd n f, C r = some (kd, n, f) → 1000000 ≤ r ∧ (kd = 50 ∨ kd = 51) ∧ ∃ t, cv r = .ref t ∧ va_T (tyK kd) t n (fun j => .int (f j)) (Af s0) s0 s0.heap) ∧
  ∀ i, i < 22 → ∃ t, cv (1000000 + i) = .ref t ∧ va_O "java/lang/String" t (Af s0) s0 s0.heap ∧ va_OF "java/lang/String" "value" "[B" (cv (1000100 + i)) t (Af s0) s0 s0.heap ∧ va_OF "java/lang/String" "coder" "B" (.int 0) t (Af s0) s0 s0.heap ∧ vk_R "GriefTram$Reader" (TXK.getD i (0, "")).1 (TXK.getD i (0, "")).2 t s0
def Act (s0 : State) (pm : PM) (p : Program) (s : State) (m : MethodId) (args : Array Value) (meth : Method) (c : Code) : Prop :=
  p.tables.exec = Jvm.exec ∧ c.code = pm.2.1 ∧ meth.sig.returnType = pm.2.2.2.1 ∧ c.maxLocals = pm.2.2.1 ∧ s.vm.findClass (CN pm.2.2.2.2.1) = some m.cls ∧ (∀ w ∈ BGD, w.before args s = true) ∧ meth.locks = false ∧ (pm.1.name = "<init>" → meth.name = "<init>") ∧ s0.WarmedH s.vm ∧ (∀ q, q < s0.heap.size → s.heap[q]? = s0.heap[q]?) ∧ s0.heap.size ≤ s.heap.size
def Wd (D : va_G) (cy : Nat → ClassId) (s0 s : State) (M0 : Mm) (H : Heap) (locs : List Loc) (cells slots : Nat) (M : Mm) : Prop :=
  MW D cy s0.heap.size M H ∧ va_S (Af s0) s.heap H locs ∧ cells + M0.1.length = M.1.length ∧ slots + ssum M0.1 = ssum M.1
/-- what is asked of a method's instruction, by program (pOK) -/
def pO1 (pm : PM) (ins : Instr) : Bool := match ins with
  | .putfield ix => (match lk FRL pm.2.2.2.2.1 ix with
    | some (c, k, n, _) => decide (n = 0) && (!(FT c k).2.2.2 || (decide (pm.1.name = "<init>") && decide (c = pm.2.2.2.2.1)))
    | none => true)
  | .invokestatic ix => (match lk CRL pm.2.2.2.2.1 ix with
    | some (k, _, _, _) => decide (k < 6 ∨ 1 ≤ pm.2.2.2.2.2.1)
    | none => true)
  | .invokespecial ix => (match lk CRL pm.2.2.2.2.1 ix with
    | some (k, _, _, _) => decide (k < 6 ∨ 1 ≤ pm.2.2.2.2.2.1)
    | none => true)
  | _ => true
theorem pO1_of {pm : PM} (h : pOK pm = true) {e : Nat × Instr × Nat} (he : e ∈ pm.2.2.2.2.2.2.2.2) : pO1 pm e.2.1 = true := List.all_eq_true.mp h e he
def RO (pm : PM) (R : Room) (M0 : Mm) (g : Cg) : Prop := pm.2.2.2.2.2.1 ≤ R.frames ∧ 37 * pm.2.2.2.2.2.1 ≤ R.locals ∧ g.2.2.2.2.1.length ≤ R.cells + M0.1.length ∧ ssum g.2.2.2.2.1 ≤ R.slots + ssum M0.1
abbrev KT (p : Program) (l : Launch) (e : Env) (R : Room) (s s0 : State) (m : MethodId) (args : Array Value) (below : List Frame) (meth : Method) (c : Code) (Q : State → Prop) (D : va_G) (cy : Nat → ClassId) (cv : Nat → Value) (n : Nat) (M0 : Mm) (g : Cg) : Prop :=
  ∀ (H' : Heap) (locs' : List Loc) (cells' slots' : Nat) (ls' : Array Slot), Wd D cy s0 s M0 H' locs' cells' slots' g.2.2.2.2 → lh s0.heap.size cv n ls' g.2.1 g.2.2.1 → W p l e R s m args below meth c H' locs' cells' slots' Q (F0 m g.1 ls' (g.2.2.2.1.map (tr s0.heap.size cv)))
def SP (ins : Instr) (len : Nat) : Prop :=
  ∀ (p : Program) (l : Launch) (e : Env) (R : Room) (s s0 : State) (m : MethodId) (args : Array Value) (below : List Frame) (meth : Method) (c : Code) (H : Heap) (locs : List Loc) (cells slots : Nat) (Q : State → Prop) (D : va_G) (cy : Nat → ClassId) (cv : Nat → Value) (C : Ct) (pm : PM) (M0 M : Mm) (pc : Nat) (ls : Array Slot) (lv : Lv) (ll : Ll) (st : List Value) (g : Cg),
  Base D cy cv C s0 → Act s0 pm p s m args meth c → decode pm.2.1 pc = .ok (ins, len) → pO1 pm ins = true → stp C pm.2.2.2.2.1 ins len pc lv ll st M = some g → Wd D cy s0 s M0 H locs cells slots M → lh s0.heap.size cv pm.2.2.1 ls lv ll → RO pm R M0 g → KT p l e R s s0 m args below meth c Q D cy cv pm.2.2.1 M0 g →
    W p l e R s m args below meth c H locs cells slots Q (F0 m pc ls (st.map (tr s0.heap.size cv)))
theorem push_some {q : Nat} {v : Option Value} {lv : Lv} {ll : Ll} {st : List Value} {M : Mm} {g : Cg} (h : push q v lv ll st M = some g) : ∃ w, v = some w ∧ g = (q, lv, ll, w :: st, M) := by
  unfold push at h
  split at h
  · cases h
    exact ⟨_, rfl, rfl⟩
  · cases h
theorem jmp_some {pc t : Nat} {off : Int} (h : jmp pc off = some t) : (pc : Int) + off = (t : Int) := by
  unfold jmp at h
  split at h
  · cases h
  · cases h
    omega
theorem br_some {c : Prop} {hc : Decidable c} {pc : Nat} {off : Int} {lv : Lv} {ll : Ll} {st : List Value} {M : Mm} {g : Cg} (h : br c pc off lv ll st M = some g) : ∃ t : Nat, (pc : Int) + off = (t : Int) ∧ (c → g = (t, lv, ll, st, M)) ∧ (¬ c → g = (pc + 3, lv, ll, st, M)) := by
  unfold br at h
  split at h
  · cases h
  · rename_i t ht
    refine ⟨t, jmp_some ht, fun q => ?_, fun q => ?_⟩
    · rw [if_pos q] at h
      cases h
      rfl
    · rw [if_neg q] at h
      cases h
      rfl
theorem ldI_some {lv : Lv} {k : Nat} {w : Value} (h : ldI lv k = some w) : ∃ x, w = .int x ∧ lv[k]? = some (some (.int x)) := by
  unfold ldI at h
  split at h
  · cases h
    exact ⟨_, rfl, by assumption⟩
  · cases h
theorem ldA_some {lv : Lv} {k : Nat} {w : Value} (h : ldA lv k = some w) : (∃ x, w = .ref x ∧ lv[k]? = some (some (.ref x))) ∨ (w = .null ∧ lv[k]? = some (some .null)) := by
  unfold ldA at h
  split at h
  · cases h
    exact Or.inl ⟨_, rfl, by assumption⟩
  · cases h
    exact Or.inr ⟨rfl, by assumption⟩
  · cases h
theorem ldL_some {ll : Ll} {k : Nat} {w : Value} (h : ldL ll k = some w) : ∃ x, w = .long x ∧ ll[k]? = some (some x) := by
  unfold ldL at h
  split at h
  · cases h
    exact ⟨_, rfl, by assumption⟩
  · cases h
/-- a reference is a reference or null to the machine -/
theorem tr_refs {B : Nat} {cv : Nat → Value} (hcv : ∀ r, cv r = .null ∨ ∃ a, cv r = .ref a) (r : Nat) : tr B cv (.ref r) = .null ∨ ∃ a, tr B cv (.ref r) = .ref a := by
  by_cases h : r < 1000000
  · exact Or.inr ⟨_, tr_ref h⟩
  · rw [tr_con (by omega)]
    exact hcv r
theorem q_iconst (n : Int) : SP (.iconst n) 1 := by
  intro p l e R s s0 m args below meth c H locs cells slots Q D cy cv C pm M0 M pc ls lv ll st g hB hA hd hp hs hW hl hR k
  obtain ⟨hx, hb, hr, hml, hown, hts, hlocks, hini, hwarm, hlow, hsz⟩ := hA
  simp only [stp] at hs
  obtain ⟨w, hw, rfl⟩ := push_some hs
  cases hw
  exact lv_iconst hx hb hd rfl (k _ _ _ _ _ hW hl)
theorem q_bipush (n : Int) : SP (.bipush n) 2 := by
  intro p l e R s s0 m args below meth c H locs cells slots Q D cy cv C pm M0 M pc ls lv ll st g hB hA hd hp hs hW hl hR k
  obtain ⟨hx, hb, hr, hml, hown, hts, hlocks, hini, hwarm, hlow, hsz⟩ := hA
  simp only [stp] at hs
  obtain ⟨w, hw, rfl⟩ := push_some hs
  cases hw
  exact lv_bipush hx hb hd rfl (k _ _ _ _ _ hW hl)
theorem q_sipush (n : Int) : SP (.sipush n) 3 := by
  intro p l e R s s0 m args below meth c H locs cells slots Q D cy cv C pm M0 M pc ls lv ll st g hB hA hd hp hs hW hl hR k
  obtain ⟨hx, hb, hr, hml, hown, hts, hlocks, hini, hwarm, hlow, hsz⟩ := hA
  simp only [stp] at hs
  obtain ⟨w, hw, rfl⟩ := push_some hs
  cases hw
  exact lv_sipush hx hb hd rfl (k _ _ _ _ _ hW hl)
theorem q_lconst (n : Fin 2) : SP (.lconst n) 1 := by
  intro p l e R s s0 m args below meth c H locs cells slots Q D cy cv C pm M0 M pc ls lv ll st g hB hA hd hp hs hW hl hR k
  obtain ⟨hx, hb, hr, hml, hown, hts, hlocks, hini, hwarm, hlow, hsz⟩ := hA
  simp only [stp] at hs
  obtain ⟨w, hw, rfl⟩ := push_some hs
  cases hw
  exact lv_lconst hx hb hd rfl (k _ _ _ _ _ hW hl)
theorem q_aconst_null : SP .aconst_null 1 := by
  intro p l e R s s0 m args below meth c H locs cells slots Q D cy cv C pm M0 M pc ls lv ll st g hB hA hd hp hs hW hl hR k
  obtain ⟨hx, hb, hr, hml, hown, hts, hlocks, hini, hwarm, hlow, hsz⟩ := hA
  simp only [stp] at hs
  obtain ⟨w, hw, rfl⟩ := push_some hs
  cases hw
  exact lv_null hx hb hd (k _ _ _ _ _ hW hl)
theorem q_iload (i : Nat) : SP (.iload i) 2 := by
  intro p l e R s s0 m args below meth c H locs cells slots Q D cy cv C pm M0 M pc ls lv ll st g hB hA hd hp hs hW hl hR k
  obtain ⟨hx, hb, hr, hml, hown, hts, hlocks, hini, hwarm, hlow, hsz⟩ := hA
  simp only [stp] at hs
  obtain ⟨w, hw, rfl⟩ := push_some hs
  obtain ⟨x, rfl, h1⟩ := ldI_some hw
  exact lv_iload hx hb hd ((hl.2.1 _ _ h1).2.2) (k _ _ _ _ _ hW hl)
theorem q_iload_n (i : Fin 4) : SP (.iload_n i) 1 := by
  intro p l e R s s0 m args below meth c H locs cells slots Q D cy cv C pm M0 M pc ls lv ll st g hB hA hd hp hs hW hl hR k
  obtain ⟨hx, hb, hr, hml, hown, hts, hlocks, hini, hwarm, hlow, hsz⟩ := hA
  simp only [stp] at hs
  obtain ⟨w, hw, rfl⟩ := push_some hs
  obtain ⟨x, rfl, h1⟩ := ldI_some hw
  exact lv_iload_n hx hb hd rfl ((hl.2.1 _ _ h1).2.2) (k _ _ _ _ _ hW hl)
theorem q_lload (i : Nat) : SP (.lload i) 2 := by
  intro p l e R s s0 m args below meth c H locs cells slots Q D cy cv C pm M0 M pc ls lv ll st g hB hA hd hp hs hW hl hR k
  obtain ⟨hx, hb, hr, hml, hown, hts, hlocks, hini, hwarm, hlow, hsz⟩ := hA
  simp only [stp] at hs
  obtain ⟨w, hw, rfl⟩ := push_some hs
  obtain ⟨x, rfl, h1⟩ := ldL_some hw
  exact lv_lload hx hb hd (hl.2.2 _ _ h1) (k _ _ _ _ _ hW hl)
theorem q_lload_n (i : Fin 4) : SP (.lload_n i) 1 := by
  intro p l e R s s0 m args below meth c H locs cells slots Q D cy cv C pm M0 M pc ls lv ll st g hB hA hd hp hs hW hl hR k
  obtain ⟨hx, hb, hr, hml, hown, hts, hlocks, hini, hwarm, hlow, hsz⟩ := hA
  simp only [stp] at hs
  obtain ⟨w, hw, rfl⟩ := push_some hs
  obtain ⟨x, rfl, h1⟩ := ldL_some hw
  exact lv_lload_n hx hb hd rfl (hl.2.2 _ _ h1) (k _ _ _ _ _ hW hl)
theorem q_aload (i : Nat) : SP (.aload i) 2 := by
  intro p l e R s s0 m args below meth c H locs cells slots Q D cy cv C pm M0 M pc ls lv ll st g hB hA hd hp hs hW hl hR k
  obtain ⟨hx, hb, hr, hml, hown, hts, hlocks, hini, hwarm, hlow, hsz⟩ := hA
  simp only [stp] at hs
  obtain ⟨w, hw, rfl⟩ := push_some hs
  rcases ldA_some hw with ⟨x, rfl, h1⟩ | ⟨rfl, h1⟩
  · have h2 := (hl.2.1 _ _ h1).2.2
    have k2 : W p l e R s m args below meth c H locs cells slots Q (F0 m (pc + 2) ls (tr s0.heap.size cv (.ref x) :: st.map (tr s0.heap.size cv))) := k _ _ _ _ _ hW hl
    rcases tr_refs hB.2.2.2.1 (B := s0.heap.size) x with h3 | ⟨a, h3⟩
    · rw [h3] at h2 k2
      exact lv_aloadN hx hb hd h2 k2
    · rw [h3] at h2 k2
      exact lv_aload hx hb hd h2 k2
  · exact lv_aloadN hx hb hd (hl.2.1 _ _ h1).2.2 (k _ _ _ _ _ hW hl)
theorem q_aload_n (i : Fin 4) : SP (.aload_n i) 1 := by
  intro p l e R s s0 m args below meth c H locs cells slots Q D cy cv C pm M0 M pc ls lv ll st g hB hA hd hp hs hW hl hR k
  obtain ⟨hx, hb, hr, hml, hown, hts, hlocks, hini, hwarm, hlow, hsz⟩ := hA
  simp only [stp] at hs
  obtain ⟨w, hw, rfl⟩ := push_some hs
  rcases ldA_some hw with ⟨x, rfl, h1⟩ | ⟨rfl, h1⟩
  · have h2 := (hl.2.1 _ _ h1).2.2
    have k2 : W p l e R s m args below meth c H locs cells slots Q (F0 m (pc + 1) ls (tr s0.heap.size cv (.ref x) :: st.map (tr s0.heap.size cv))) := k _ _ _ _ _ hW hl
    rcases tr_refs hB.2.2.2.1 (B := s0.heap.size) x with h3 | ⟨a, h3⟩
    · rw [h3] at h2 k2
      exact lv_aload_nN hx hb hd rfl h2 k2
    · rw [h3] at h2 k2
      exact lv_aload_n hx hb hd rfl h2 k2
  · exact lv_aload_nN hx hb hd rfl (hl.2.1 _ _ h1).2.2 (k _ _ _ _ _ hW hl)
theorem q_istore (i : Nat) : SP (.istore i) 2 := by
  intro p l e R s s0 m args below meth c H locs cells slots Q D cy cv C pm M0 M pc ls lv ll st g hB hA hd hp hs hW hl hR k
  obtain ⟨hx, hb, hr, hml, hown, hts, hlocks, hini, hwarm, hlow, hsz⟩ := hA
  simp only [stp] at hs
  split at hs
  · split at hs
    · rename_i hk
      cases hs
      exact lv_istore hx hb hd hl.has (Nat.lt_of_lt_of_le hk hl.1.2.1) rfl (fun ls' h' => k _ _ _ _ _ hW (hl.after1 hk rfl rfl h'))
    · cases hs
  · cases hs
theorem q_istore_n (i : Fin 4) : SP (.istore_n i) 1 := by
  intro p l e R s s0 m args below meth c H locs cells slots Q D cy cv C pm M0 M pc ls lv ll st g hB hA hd hp hs hW hl hR k
  obtain ⟨hx, hb, hr, hml, hown, hts, hlocks, hini, hwarm, hlow, hsz⟩ := hA
  simp only [stp] at hs
  split at hs
  · split at hs
    · rename_i hk
      cases hs
      exact lv_istore_n hx hb hd rfl hl.has (Nat.lt_of_lt_of_le hk hl.1.2.1) rfl (fun ls' h' => k _ _ _ _ _ hW (hl.after1 hk rfl rfl h'))
    · cases hs
  · cases hs
theorem q_lstore (i : Nat) : SP (.lstore i) 2 := by
  intro p l e R s s0 m args below meth c H locs cells slots Q D cy cv C pm M0 M pc ls lv ll st g hB hA hd hp hs hW hl hR k
  obtain ⟨hx, hb, hr, hml, hown, hts, hlocks, hini, hwarm, hlow, hsz⟩ := hA
  simp only [stp] at hs
  split at hs
  · split at hs
    · rename_i hk
      cases hs
      exact lv_lstore hx hb hd hl.has (Nat.lt_of_lt_of_le hk.1 hl.1.2.2.1) rfl (fun ls' h' => k _ _ _ _ _ hW (hl.after2 hk.1 h'))
    · cases hs
  · cases hs
theorem q_lstore_n (i : Fin 4) : SP (.lstore_n i) 1 := by
  intro p l e R s s0 m args below meth c H locs cells slots Q D cy cv C pm M0 M pc ls lv ll st g hB hA hd hp hs hW hl hR k
  obtain ⟨hx, hb, hr, hml, hown, hts, hlocks, hini, hwarm, hlow, hsz⟩ := hA
  simp only [stp] at hs
  split at hs
  · split at hs
    · rename_i hk
      cases hs
      exact lv_lstore_n hx hb hd rfl hl.has (Nat.lt_of_lt_of_le hk.1 hl.1.2.2.1) rfl (fun ls' h' => k _ _ _ _ _ hW (hl.after2 hk.1 h'))
    · cases hs
  · cases hs
theorem q_astore (i : Nat) : SP (.astore i) 2 := by
  intro p l e R s s0 m args below meth c H locs cells slots Q D cy cv C pm M0 M pc ls lv ll st g hB hA hd hp hs hW hl hR k
  obtain ⟨hx, hb, hr, hml, hown, hts, hlocks, hini, hwarm, hlow, hsz⟩ := hA
  simp only [stp] at hs
  split at hs
  · rename_i x r
    split at hs
    · rename_i hk
      cases hs
      show W p l e R s m args below meth c H locs cells slots Q (F0 m pc ls (tr s0.heap.size cv (.ref x) :: r.map (tr s0.heap.size cv)))
      have hcat : (tr s0.heap.size cv (.ref x)).category = 1 := tr_cat hB.2.2.2.1 (.ref x)
      have aft := fun ls' h' => k H locs cells slots ls' hW (hl.after1 (v := .ref x) hk rfl hcat h')
      rcases tr_refs hB.2.2.2.1 (B := s0.heap.size) x with h3 | ⟨a, h3⟩
      · rw [h3] at aft ⊢
        exact lv_astoreN hx hb hd hl.has (Nat.lt_of_lt_of_le hk hl.1.2.1) rfl aft
      · rw [h3] at aft ⊢
        exact lv_astore hx hb hd hl.has (Nat.lt_of_lt_of_le hk hl.1.2.1) rfl aft
    · cases hs
  · split at hs
    · rename_i hk
      cases hs
      exact lv_astoreN hx hb hd hl.has (Nat.lt_of_lt_of_le hk hl.1.2.1) rfl (fun ls' h' => k _ _ _ _ _ hW (hl.after1 (v := .null) hk rfl rfl h'))
    · cases hs
  · cases hs
theorem q_astore_n (i : Fin 4) : SP (.astore_n i) 1 := by
  intro p l e R s s0 m args below meth c H locs cells slots Q D cy cv C pm M0 M pc ls lv ll st g hB hA hd hp hs hW hl hR k
  obtain ⟨hx, hb, hr, hml, hown, hts, hlocks, hini, hwarm, hlow, hsz⟩ := hA
  simp only [stp] at hs
  split at hs
  · rename_i x r
    split at hs
    · rename_i hk
      cases hs
      show W p l e R s m args below meth c H locs cells slots Q (F0 m pc ls (tr s0.heap.size cv (.ref x) :: r.map (tr s0.heap.size cv)))
      have hcat : (tr s0.heap.size cv (.ref x)).category = 1 := tr_cat hB.2.2.2.1 (.ref x)
      have aft := fun ls' h' => k H locs cells slots ls' hW (hl.after1 (v := .ref x) hk rfl hcat h')
      rcases tr_refs hB.2.2.2.1 (B := s0.heap.size) x with h3 | ⟨a, h3⟩
      · rw [h3] at aft ⊢
        exact lv_astore_nN hx hb hd rfl hl.has (Nat.lt_of_lt_of_le hk hl.1.2.1) rfl aft
      · rw [h3] at aft ⊢
        exact lv_astore_n hx hb hd rfl hl.has (Nat.lt_of_lt_of_le hk hl.1.2.1) rfl aft
    · cases hs
  · split at hs
    · rename_i hk
      cases hs
      exact lv_astore_nN hx hb hd rfl hl.has (Nat.lt_of_lt_of_le hk hl.1.2.1) rfl (fun ls' h' => k _ _ _ _ _ hW (hl.after1 (v := .null) hk rfl rfl h'))
    · cases hs
  · cases hs
theorem q_iinc (i : Nat) (n : Int) : SP (.iinc i n) 3 := by
  intro p l e R s s0 m args below meth c H locs cells slots Q D cy cv C pm M0 M pc ls lv ll st g hB hA hd hp hs hW hl hR k
  obtain ⟨hx, hb, hr, hml, hown, hts, hlocks, hini, hwarm, hlow, hsz⟩ := hA
  simp only [stp] at hs
  split at hs
  · rename_i x h1
    cases hs
    have hk : i < lv.length := (List.getElem?_eq_some_iff.mp h1).1
    obtain ⟨j, hj⟩ := List.getElem?_of_mem (prs_v (B := s0.heap.size) (cv := cv) (ll := ll) (hl.lt h1) h1)
    exact lv_iinc hx hb hd hl.has hj rfl (hl.lt h1) rfl (fun ls' h' => k _ _ _ _ _ hW (hl.after1 (v := .int _) hk rfl rfl h'))
  · cases hs
theorem q_iadd : SP .iadd 1 := by
  intro p l e R s s0 m args below meth c H locs cells slots Q D cy cv C pm M0 M pc ls lv ll st g hB hA hd hp hs hW hl hR k
  obtain ⟨hx, hb, hr, hml, hown, hts, hlocks, hini, hwarm, hlow, hsz⟩ := hA
  simp only [stp] at hs
  split at hs
  · cases hs
    exact lv_iadd hx hb hd (k _ _ _ _ _ hW hl)
  · cases hs
theorem q_isub : SP .isub 1 := by
  intro p l e R s s0 m args below meth c H locs cells slots Q D cy cv C pm M0 M pc ls lv ll st g hB hA hd hp hs hW hl hR k
  obtain ⟨hx, hb, hr, hml, hown, hts, hlocks, hini, hwarm, hlow, hsz⟩ := hA
  simp only [stp] at hs
  split at hs
  · cases hs
    exact lv_isub hx hb hd (k _ _ _ _ _ hW hl)
  · cases hs
theorem q_imul : SP .imul 1 := by
  intro p l e R s s0 m args below meth c H locs cells slots Q D cy cv C pm M0 M pc ls lv ll st g hB hA hd hp hs hW hl hR k
  obtain ⟨hx, hb, hr, hml, hown, hts, hlocks, hini, hwarm, hlow, hsz⟩ := hA
  simp only [stp] at hs
  split at hs
  · cases hs
    exact lv_imul hx hb hd (k _ _ _ _ _ hW hl)
  · cases hs
theorem q_ineg : SP .ineg 1 := by
  intro p l e R s s0 m args below meth c H locs cells slots Q D cy cv C pm M0 M pc ls lv ll st g hB hA hd hp hs hW hl hR k
  obtain ⟨hx, hb, hr, hml, hown, hts, hlocks, hini, hwarm, hlow, hsz⟩ := hA
  simp only [stp] at hs
  split at hs
  · cases hs
    exact lv_ineg hx hb hd (k _ _ _ _ _ hW hl)
  · cases hs
theorem q_iand : SP .iand 1 := by
  intro p l e R s s0 m args below meth c H locs cells slots Q D cy cv C pm M0 M pc ls lv ll st g hB hA hd hp hs hW hl hR k
  obtain ⟨hx, hb, hr, hml, hown, hts, hlocks, hini, hwarm, hlow, hsz⟩ := hA
  simp only [stp] at hs
  split at hs
  · cases hs
    exact lv_iand hx hb hd (k _ _ _ _ _ hW hl)
  · cases hs
theorem q_ior : SP .ior 1 := by
  intro p l e R s s0 m args below meth c H locs cells slots Q D cy cv C pm M0 M pc ls lv ll st g hB hA hd hp hs hW hl hR k
  obtain ⟨hx, hb, hr, hml, hown, hts, hlocks, hini, hwarm, hlow, hsz⟩ := hA
  simp only [stp] at hs
  split at hs
  · cases hs
    exact lv_ior hx hb hd (k _ _ _ _ _ hW hl)
  · cases hs
theorem q_ixor : SP .ixor 1 := by
  intro p l e R s s0 m args below meth c H locs cells slots Q D cy cv C pm M0 M pc ls lv ll st g hB hA hd hp hs hW hl hR k
  obtain ⟨hx, hb, hr, hml, hown, hts, hlocks, hini, hwarm, hlow, hsz⟩ := hA
  simp only [stp] at hs
  split at hs
  · cases hs
    exact lv_ixor hx hb hd (k _ _ _ _ _ hW hl)
  · cases hs
theorem q_ishl : SP .ishl 1 := by
  intro p l e R s s0 m args below meth c H locs cells slots Q D cy cv C pm M0 M pc ls lv ll st g hB hA hd hp hs hW hl hR k
  obtain ⟨hx, hb, hr, hml, hown, hts, hlocks, hini, hwarm, hlow, hsz⟩ := hA
  simp only [stp] at hs
  split at hs
  · cases hs
    exact lv_ishl hx hb hd (k _ _ _ _ _ hW hl)
  · cases hs
theorem q_ishr : SP .ishr 1 := by
  intro p l e R s s0 m args below meth c H locs cells slots Q D cy cv C pm M0 M pc ls lv ll st g hB hA hd hp hs hW hl hR k
  obtain ⟨hx, hb, hr, hml, hown, hts, hlocks, hini, hwarm, hlow, hsz⟩ := hA
  simp only [stp] at hs
  split at hs
  · cases hs
    exact lv_ishr hx hb hd (k _ _ _ _ _ hW hl)
  · cases hs
theorem q_ladd : SP .ladd 1 := by
  intro p l e R s s0 m args below meth c H locs cells slots Q D cy cv C pm M0 M pc ls lv ll st g hB hA hd hp hs hW hl hR k
  obtain ⟨hx, hb, hr, hml, hown, hts, hlocks, hini, hwarm, hlow, hsz⟩ := hA
  simp only [stp] at hs
  split at hs
  · cases hs
    exact lv_ladd hx hb hd (k _ _ _ _ _ hW hl)
  · cases hs
theorem q_lmul : SP .lmul 1 := by
  intro p l e R s s0 m args below meth c H locs cells slots Q D cy cv C pm M0 M pc ls lv ll st g hB hA hd hp hs hW hl hR k
  obtain ⟨hx, hb, hr, hml, hown, hts, hlocks, hini, hwarm, hlow, hsz⟩ := hA
  simp only [stp] at hs
  split at hs
  · cases hs
    exact lv_lmul hx hb hd (k _ _ _ _ _ hW hl)
  · cases hs
theorem q_lor : SP .lor 1 := by
  intro p l e R s s0 m args below meth c H locs cells slots Q D cy cv C pm M0 M pc ls lv ll st g hB hA hd hp hs hW hl hR k
  obtain ⟨hx, hb, hr, hml, hown, hts, hlocks, hini, hwarm, hlow, hsz⟩ := hA
  simp only [stp] at hs
  split at hs
  · cases hs
    exact lv_lor hx hb hd (k _ _ _ _ _ hW hl)
  · cases hs
theorem q_lcmp : SP .lcmp 1 := by
  intro p l e R s s0 m args below meth c H locs cells slots Q D cy cv C pm M0 M pc ls lv ll st g hB hA hd hp hs hW hl hR k
  obtain ⟨hx, hb, hr, hml, hown, hts, hlocks, hini, hwarm, hlow, hsz⟩ := hA
  simp only [stp] at hs
  split at hs
  · cases hs
    exact W.lcmp hx hb hd (k _ _ _ _ _ hW hl)
  · cases hs
theorem q_iushr : SP .iushr 1 := by
  intro p l e R s s0 m args below meth c H locs cells slots Q D cy cv C pm M0 M pc ls lv ll st g hB hA hd hp hs hW hl hR k
  obtain ⟨hx, hb, hr, hml, hown, hts, hlocks, hini, hwarm, hlow, hsz⟩ := hA
  simp only [stp] at hs
  split at hs
  · cases hs
    exact lv_iushr hx hb hd rfl (k _ _ _ _ _ hW hl)
  · cases hs
theorem q_i2b : SP .i2b 1 := by
  intro p l e R s s0 m args below meth c H locs cells slots Q D cy cv C pm M0 M pc ls lv ll st g hB hA hd hp hs hW hl hR k
  obtain ⟨hx, hb, hr, hml, hown, hts, hlocks, hini, hwarm, hlow, hsz⟩ := hA
  simp only [stp] at hs
  split at hs
  · cases hs
    exact lv_i2b hx hb hd rfl (k _ _ _ _ _ hW hl)
  · cases hs
theorem q_i2c : SP .i2c 1 := by
  intro p l e R s s0 m args below meth c H locs cells slots Q D cy cv C pm M0 M pc ls lv ll st g hB hA hd hp hs hW hl hR k
  obtain ⟨hx, hb, hr, hml, hown, hts, hlocks, hini, hwarm, hlow, hsz⟩ := hA
  simp only [stp] at hs
  split at hs
  · cases hs
    exact lv_i2c hx hb hd rfl (k _ _ _ _ _ hW hl)
  · cases hs
theorem q_i2l : SP .i2l 1 := by
  intro p l e R s s0 m args below meth c H locs cells slots Q D cy cv C pm M0 M pc ls lv ll st g hB hA hd hp hs hW hl hR k
  obtain ⟨hx, hb, hr, hml, hown, hts, hlocks, hini, hwarm, hlow, hsz⟩ := hA
  simp only [stp] at hs
  split at hs
  · cases hs
    exact lv_i2l hx hb hd rfl (k _ _ _ _ _ hW hl)
  · cases hs
theorem q_lshl : SP .lshl 1 := by
  intro p l e R s s0 m args below meth c H locs cells slots Q D cy cv C pm M0 M pc ls lv ll st g hB hA hd hp hs hW hl hR k
  obtain ⟨hx, hb, hr, hml, hown, hts, hlocks, hini, hwarm, hlow, hsz⟩ := hA
  simp only [stp] at hs
  split at hs
  · cases hs
    exact lv_lshl hx hb hd rfl (k _ _ _ _ _ hW hl)
  · cases hs
theorem q_idiv : SP .idiv 1 := by
  intro p l e R s s0 m args below meth c H locs cells slots Q D cy cv C pm M0 M pc ls lv ll st g hB hA hd hp hs hW hl hR k
  obtain ⟨hx, hb, hr, hml, hown, hts, hlocks, hini, hwarm, hlow, hsz⟩ := hA
  simp only [stp] at hs
  split at hs
  · split at hs
    · cases hs
    · rename_i hy
      cases hs
      exact lv_idiv hx hb hd hy (k _ _ _ _ _ hW hl)
  · cases hs
theorem q_irem : SP .irem 1 := by
  intro p l e R s s0 m args below meth c H locs cells slots Q D cy cv C pm M0 M pc ls lv ll st g hB hA hd hp hs hW hl hR k
  obtain ⟨hx, hb, hr, hml, hown, hts, hlocks, hini, hwarm, hlow, hsz⟩ := hA
  simp only [stp] at hs
  split at hs
  · split at hs
    · cases hs
    · rename_i hy
      cases hs
      exact lv_irem hx hb hd hy (k _ _ _ _ _ hW hl)
  · cases hs
theorem q_pop : SP .pop 1 := by
  intro p l e R s s0 m args below meth c H locs cells slots Q D cy cv C pm M0 M pc ls lv ll st g hB hA hd hp hs hW hl hR k
  obtain ⟨hx, hb, hr, hml, hown, hts, hlocks, hini, hwarm, hlow, hsz⟩ := hA
  simp only [stp] at hs
  split at hs
  · split at hs
    · rename_i hv
      cases hs
      exact lv_pop hx hb hd (by rw [tr_cat hB.2.2.2.1]; exact hv) (k _ _ _ _ _ hW hl)
    · cases hs
  · cases hs
theorem q_dup : SP .dup 1 := by
  intro p l e R s s0 m args below meth c H locs cells slots Q D cy cv C pm M0 M pc ls lv ll st g hB hA hd hp hs hW hl hR k
  obtain ⟨hx, hb, hr, hml, hown, hts, hlocks, hini, hwarm, hlow, hsz⟩ := hA
  simp only [stp] at hs
  split at hs
  · split at hs
    · rename_i hv
      cases hs
      exact lv_dup hx hb hd (by rw [tr_cat hB.2.2.2.1]; exact hv) (k _ _ _ _ _ hW hl)
    · cases hs
  · cases hs
theorem q_dup2 : SP .dup2 1 := by
  intro p l e R s s0 m args below meth c H locs cells slots Q D cy cv C pm M0 M pc ls lv ll st g hB hA hd hp hs hW hl hR k
  obtain ⟨hx, hb, hr, hml, hown, hts, hlocks, hini, hwarm, hlow, hsz⟩ := hA
  simp only [stp] at hs
  split at hs
  · split at hs
    · rename_i hv
      cases hs
      exact lv_dup2_11 hx hb hd (by rw [tr_cat hB.2.2.2.1]; exact hv.1) (by rw [tr_cat hB.2.2.2.1]; exact hv.2) (k _ _ _ _ _ hW hl)
    · cases hs
  · cases hs
theorem q_goto (off : Int) : SP (.goto off) 3 := by
  intro p l e R s s0 m args below meth c H locs cells slots Q D cy cv C pm M0 M pc ls lv ll st g hB hA hd hp hs hW hl hR k
  obtain ⟨hx, hb, hr, hml, hown, hts, hlocks, hini, hwarm, hlow, hsz⟩ := hA
  simp only [stp] at hs
  split at hs
  · rename_i t ht
    cases hs
    exact lv_goto hx hb hd (jmp_some ht) (k _ _ _ _ _ hW hl)
  · cases hs
theorem q_ifCond_eq (off : Int) : SP (.ifCond .eq off) 3 := by
  intro p l e R s s0 m args below meth c H locs cells slots Q D cy cv C pm M0 M pc ls lv ll st g hB hA hd hp hs hW hl hR k
  obtain ⟨hx, hb, hr, hml, hown, hts, hlocks, hini, hwarm, hlow, hsz⟩ := hA
  simp only [stp] at hs
  split at hs
  · obtain ⟨t, ht, h1, h2⟩ := br_some hs
    exact lv_if_eq hx hb hd ht (fun q => by have h3 := h1 q; subst h3; exact k _ _ _ _ _ hW hl) (fun q => by have h3 := h2 q; subst h3; exact k _ _ _ _ _ hW hl)
  · cases hs
theorem q_if_icmp_eq (off : Int) : SP (.if_icmp .eq off) 3 := by
  intro p l e R s s0 m args below meth c H locs cells slots Q D cy cv C pm M0 M pc ls lv ll st g hB hA hd hp hs hW hl hR k
  obtain ⟨hx, hb, hr, hml, hown, hts, hlocks, hini, hwarm, hlow, hsz⟩ := hA
  simp only [stp] at hs
  split at hs
  · obtain ⟨t, ht, h1, h2⟩ := br_some hs
    exact lv_icmp_eq hx hb hd ht (fun q => by have h3 := h1 q; subst h3; exact k _ _ _ _ _ hW hl) (fun q => by have h3 := h2 q; subst h3; exact k _ _ _ _ _ hW hl)
  · cases hs
theorem q_ifCond_ne (off : Int) : SP (.ifCond .ne off) 3 := by
  intro p l e R s s0 m args below meth c H locs cells slots Q D cy cv C pm M0 M pc ls lv ll st g hB hA hd hp hs hW hl hR k
  obtain ⟨hx, hb, hr, hml, hown, hts, hlocks, hini, hwarm, hlow, hsz⟩ := hA
  simp only [stp] at hs
  split at hs
  · obtain ⟨t, ht, h1, h2⟩ := br_some hs
    exact lv_if_ne hx hb hd ht (fun q => by have h3 := h1 q; subst h3; exact k _ _ _ _ _ hW hl) (fun q => by have h3 := h2 (fun z => z q); subst h3; exact k _ _ _ _ _ hW hl)
  · cases hs
theorem q_if_icmp_ne (off : Int) : SP (.if_icmp .ne off) 3 := by
  intro p l e R s s0 m args below meth c H locs cells slots Q D cy cv C pm M0 M pc ls lv ll st g hB hA hd hp hs hW hl hR k
  obtain ⟨hx, hb, hr, hml, hown, hts, hlocks, hini, hwarm, hlow, hsz⟩ := hA
  simp only [stp] at hs
  split at hs
  · obtain ⟨t, ht, h1, h2⟩ := br_some hs
    exact lv_icmp_ne hx hb hd ht (fun q => by have h3 := h1 q; subst h3; exact k _ _ _ _ _ hW hl) (fun q => by have h3 := h2 (fun z => z q); subst h3; exact k _ _ _ _ _ hW hl)
  · cases hs
theorem q_ifCond_lt (off : Int) : SP (.ifCond .lt off) 3 := by
  intro p l e R s s0 m args below meth c H locs cells slots Q D cy cv C pm M0 M pc ls lv ll st g hB hA hd hp hs hW hl hR k
  obtain ⟨hx, hb, hr, hml, hown, hts, hlocks, hini, hwarm, hlow, hsz⟩ := hA
  simp only [stp] at hs
  split at hs
  · obtain ⟨t, ht, h1, h2⟩ := br_some hs
    exact lv_if_lt hx hb hd ht (fun q => by have h3 := h1 q; subst h3; exact k _ _ _ _ _ hW hl) (fun q => by have h3 := h2 q; subst h3; exact k _ _ _ _ _ hW hl)
  · cases hs
theorem q_if_icmp_lt (off : Int) : SP (.if_icmp .lt off) 3 := by
  intro p l e R s s0 m args below meth c H locs cells slots Q D cy cv C pm M0 M pc ls lv ll st g hB hA hd hp hs hW hl hR k
  obtain ⟨hx, hb, hr, hml, hown, hts, hlocks, hini, hwarm, hlow, hsz⟩ := hA
  simp only [stp] at hs
  split at hs
  · obtain ⟨t, ht, h1, h2⟩ := br_some hs
    exact lv_icmp_lt hx hb hd ht (fun q => by have h3 := h1 q; subst h3; exact k _ _ _ _ _ hW hl) (fun q => by have h3 := h2 q; subst h3; exact k _ _ _ _ _ hW hl)
  · cases hs
theorem q_ifCond_ge (off : Int) : SP (.ifCond .ge off) 3 := by
  intro p l e R s s0 m args below meth c H locs cells slots Q D cy cv C pm M0 M pc ls lv ll st g hB hA hd hp hs hW hl hR k
  obtain ⟨hx, hb, hr, hml, hown, hts, hlocks, hini, hwarm, hlow, hsz⟩ := hA
  simp only [stp] at hs
  split at hs
  · obtain ⟨t, ht, h1, h2⟩ := br_some hs
    exact lv_if_ge hx hb hd ht (fun q => by have h3 := h1 q; subst h3; exact k _ _ _ _ _ hW hl) (fun q => by have h3 := h2 q; subst h3; exact k _ _ _ _ _ hW hl)
  · cases hs
theorem q_if_icmp_ge (off : Int) : SP (.if_icmp .ge off) 3 := by
  intro p l e R s s0 m args below meth c H locs cells slots Q D cy cv C pm M0 M pc ls lv ll st g hB hA hd hp hs hW hl hR k
  obtain ⟨hx, hb, hr, hml, hown, hts, hlocks, hini, hwarm, hlow, hsz⟩ := hA
  simp only [stp] at hs
  split at hs
  · obtain ⟨t, ht, h1, h2⟩ := br_some hs
    exact lv_icmp_ge hx hb hd ht (fun q => by have h3 := h1 q; subst h3; exact k _ _ _ _ _ hW hl) (fun q => by have h3 := h2 q; subst h3; exact k _ _ _ _ _ hW hl)
  · cases hs
theorem q_ifCond_gt (off : Int) : SP (.ifCond .gt off) 3 := by
  intro p l e R s s0 m args below meth c H locs cells slots Q D cy cv C pm M0 M pc ls lv ll st g hB hA hd hp hs hW hl hR k
  obtain ⟨hx, hb, hr, hml, hown, hts, hlocks, hini, hwarm, hlow, hsz⟩ := hA
  simp only [stp] at hs
  split at hs
  · obtain ⟨t, ht, h1, h2⟩ := br_some hs
    exact lv_if_gt hx hb hd ht (fun q => by have h3 := h1 q; subst h3; exact k _ _ _ _ _ hW hl) (fun q => by have h3 := h2 q; subst h3; exact k _ _ _ _ _ hW hl)
  · cases hs
theorem q_if_icmp_gt (off : Int) : SP (.if_icmp .gt off) 3 := by
  intro p l e R s s0 m args below meth c H locs cells slots Q D cy cv C pm M0 M pc ls lv ll st g hB hA hd hp hs hW hl hR k
  obtain ⟨hx, hb, hr, hml, hown, hts, hlocks, hini, hwarm, hlow, hsz⟩ := hA
  simp only [stp] at hs
  split at hs
  · obtain ⟨t, ht, h1, h2⟩ := br_some hs
    exact lv_icmp_gt hx hb hd ht (fun q => by have h3 := h1 q; subst h3; exact k _ _ _ _ _ hW hl) (fun q => by have h3 := h2 q; subst h3; exact k _ _ _ _ _ hW hl)
  · cases hs
theorem q_ifCond_le (off : Int) : SP (.ifCond .le off) 3 := by
  intro p l e R s s0 m args below meth c H locs cells slots Q D cy cv C pm M0 M pc ls lv ll st g hB hA hd hp hs hW hl hR k
  obtain ⟨hx, hb, hr, hml, hown, hts, hlocks, hini, hwarm, hlow, hsz⟩ := hA
  simp only [stp] at hs
  split at hs
  · obtain ⟨t, ht, h1, h2⟩ := br_some hs
    exact lv_if_le hx hb hd ht (fun q => by have h3 := h1 q; subst h3; exact k _ _ _ _ _ hW hl) (fun q => by have h3 := h2 q; subst h3; exact k _ _ _ _ _ hW hl)
  · cases hs
theorem q_if_icmp_le (off : Int) : SP (.if_icmp .le off) 3 := by
  intro p l e R s s0 m args below meth c H locs cells slots Q D cy cv C pm M0 M pc ls lv ll st g hB hA hd hp hs hW hl hR k
  obtain ⟨hx, hb, hr, hml, hown, hts, hlocks, hini, hwarm, hlow, hsz⟩ := hA
  simp only [stp] at hs
  split at hs
  · obtain ⟨t, ht, h1, h2⟩ := br_some hs
    exact lv_icmp_le hx hb hd ht (fun q => by have h3 := h1 q; subst h3; exact k _ _ _ _ _ hW hl) (fun q => by have h3 := h2 q; subst h3; exact k _ _ _ _ _ hW hl)
  · cases hs
theorem q_ifnull (off : Int) : SP (.ifnull off) 3 := by
  intro p l e R s s0 m args below meth c H locs cells slots Q D cy cv C pm M0 M pc ls lv ll st g hB hA hd hp hs hW hl hR k
  obtain ⟨hx, hb, hr, hml, hown, hts, hlocks, hini, hwarm, hlow, hsz⟩ := hA
  simp only [stp] at hs
  split at hs
  · rename_i x r
    split at hs
    · rename_i hlt
      cases hs
      show W p l e R s m args below meth c H locs cells slots Q (F0 m pc ls (tr s0.heap.size cv (.ref x) :: r.map (tr s0.heap.size cv)))
      rw [tr_ref hlt]
      exact lv_ifnull hx hb hd (k _ _ _ _ _ hW hl)
    · cases hs
  · obtain ⟨t, ht, h1, h2⟩ := br_some hs
    have h3 := h1 trivial
    subst h3
    exact lv_ifnullN hx hb hd ht (k _ _ _ _ _ hW hl)
  · cases hs
theorem q_ifnonnull (off : Int) : SP (.ifnonnull off) 3 := by
  intro p l e R s s0 m args below meth c H locs cells slots Q D cy cv C pm M0 M pc ls lv ll st g hB hA hd hp hs hW hl hR k
  obtain ⟨hx, hb, hr, hml, hown, hts, hlocks, hini, hwarm, hlow, hsz⟩ := hA
  simp only [stp] at hs
  split at hs
  · rename_i x r
    split at hs
    · rename_i hlt
      obtain ⟨t, ht, h1, h2⟩ := br_some hs
      have h3 := h1 trivial
      subst h3
      show W p l e R s m args below meth c H locs cells slots Q (F0 m pc ls (tr s0.heap.size cv (.ref x) :: r.map (tr s0.heap.size cv)))
      rw [tr_ref hlt]
      exact lv_ifnonnull hx hb hd ht (k _ _ _ _ _ hW hl)
    · cases hs
  · cases hs
    exact lv_ifnonnullN hx hb hd (k _ _ _ _ _ hW hl)
  · cases hs
theorem q_tableswitch (dflt lo hi : Int) (offs : Array Int) (len : Nat) : SP (.tableswitch dflt lo hi offs) len := by
  intro p l e R s s0 m args below meth c H locs cells slots Q D cy cv C pm M0 M pc ls lv ll st g hB hA hd hp hs hW hl hR k
  obtain ⟨hx, hb, hr, hml, hown, hts, hlocks, hini, hwarm, hlow, hsz⟩ := hA
  simp only [stp] at hs
  split at hs
  · split at hs
    · rename_i hout
      split at hs
      · rename_i t ht
        cases hs
        exact lv_tableOut hx hb hd hout (jmp_some ht) (k _ _ _ _ _ hW hl)
      · cases hs
    · rename_i hin
      split at hs
      · rename_i off ho
        split at hs
        · rename_i t ht
          cases hs
          exact lv_tableIn hx hb hd (fun q => hin (Or.inl q)) (fun q => hin (Or.inr q)) ho (jmp_some ht) (k _ _ _ _ _ hW hl)
        · cases hs
      · cases hs
  · cases hs
theorem q_lookupswitch (dflt : Int) (ps : Array (Int × Int)) (len : Nat) : SP (.lookupswitch dflt ps) len := by
  intro p l e R s s0 m args below meth c H locs cells slots Q D cy cv C pm M0 M pc ls lv ll st g hB hA hd hp hs hW hl hR k
  obtain ⟨hx, hb, hr, hml, hown, hts, hlocks, hini, hwarm, hlow, hsz⟩ := hA
  simp only [stp] at hs
  split at hs
  · split at hs
    · rename_i hall
      split at hs
      · rename_i t ht
        cases hs
        exact lv_lookup hx hb hd hall rfl (jmp_some ht) (k _ _ _ _ _ hW hl)
      · cases hs
    · cases hs
  · cases hs
