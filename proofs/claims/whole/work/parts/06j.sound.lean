/-! THE INTERPRETER IS SOUND: what it answers the machine answers -/
def Qv (D : va_G) (cy : Nat → ClassId) (cv : Nat → Value) (s0 : State) (v : Option Value) (Mf : Mm) : Array Value → State → Outcome → State → Prop := fun _ st oc t => oc = .returned (v.map (tr s0.heap.size cv)) ∧ MW D cy s0.heap.size Mf t.heap ∧ va_F (Af s0) st t
def Pv (D : va_G) (cy : Nat → ClassId) (cv : Nat → Value) (s0 : State) (as : List Value) (M : Mm) : Array Value → State → Prop := fun a U => a = (as.map (tr s0.heap.size cv)).toArray ∧ MW D cy s0.heap.size M U.heap ∧ s0.WarmedH U.vm ∧ ∀ q, q < s0.heap.size → U.heap[q]? = s0.heap[q]?
def rmO (pm : PM) (M Mf : Mm) : Room := { frames := pm.2.2.2.2.2.1, cells := Mf.1.length - M.1.length, slots := ssum Mf.1 - ssum M.1, locals := 37 * pm.2.2.2.2.2.1 }
theorem Pv_blind {D : va_G} {cy : Nat → ClassId} {cv : Nat → Value} {s0 : State} {as : List Value} {M : Mm} : FrameBlind (Pv D cy cv s0 as M) := fun _ _ _ _ h => h
section CALL
variable {p : Program} {l : Launch} {e : Env} {R : Room} {s s0 : State} {m : MethodId} {args : Array Value} {below : List Frame} {meth : Method} {c : Code} {H : Heap} {locs : List Loc} {cells slots : Nat} {Q : State → Prop} {D : va_G} {cy : Nat → ClassId} {cv : Nat → Value} {M0 M M1 : Mm} {pc mc ms : Nat} {ls : Array Slot} {st0 rest : List Value} {a : Array Value} {v : Option Value}
theorem W_call (hr : va_Run p l e R s m args below meth c H locs cells slots mc ms (F0 m pc ls st0) rest (Qv D cy cv s0 v M1 a) (Af s0)) (hW : Wd D cy s0 s M0 H locs cells slots M) (hmc : mc + M.1.length = M1.1.length) (hms : ms + ssum M.1 = ssum M1.1)
    (kk : ∀ (H1 : Heap) (locs1 : List Loc), Wd D cy s0 s M0 H1 locs1 (cells + mc) (slots + ms) M1 → W p l e R s m args below meth c H1 locs1 (cells + mc) (slots + ms) Q (F0 m (pc + 3) ls ((v.map (tr s0.heap.size cv)).toList ++ rest))) : W p l e R s m args below meth c H locs cells slots Q (F0 m pc ls st0) := by
  intro T hT X
  obtain ⟨v', st₀, t, T', L, h0, X', hL, e1, e2, ⟨hv, hM, hz, hk⟩, st⟩ := hr T hT X
  cases hv
  rw [h0] at hz hk
  obtain ⟨t2, a1, b1⟩ := kk T'.heap (locs ++ L) ⟨by rw [e1]; exact hM, ⟨Nat.le_trans hW.2.1.1 (by rw [e1]; exact hz), fun q h1 h2 => by
      rw [e1, hk q (Nat.lt_of_lt_of_le h1 hW.2.1.1) h2]
      exact hW.2.1.2.1 q h1 h2, fun q hq => by
      rcases List.mem_append.mp hq with h | h
      · exact hW.2.1.2.2 q h
      · exact hL q h⟩, by have := hW.2.2.1; omega, by have := hW.2.2.2; omega⟩ T' rfl X'
  exact ⟨t2, st t2 a1, b1⟩
/-- the callee's start, at every state that a call may come to -/
theorem Pv_call {as : List Value} (hwarm : s0.WarmedH s.vm) (hlow : ∀ q, q < s0.heap.size → s.heap[q]? = s0.heap[q]?) (hsz : s0.heap.size ≤ s.heap.size) (hW : Wd D cy s0 s M0 H locs cells slots M) : ∀ U : State, U.heap = H → s.WarmedH U.vm → Pv D cy cv s0 as M (as.map (tr s0.heap.size cv)).toArray U := by
  intro U hU hWm
  refine ⟨rfl, by rw [hU]; exact hW.1, State.WarmedH.trans hwarm hWm, fun q hq => ?_⟩
  rw [hU, hW.2.1.2.1 q (Nat.lt_of_lt_of_le hq hsz) (Nat.not_le.mpr hq)]
  exact hlow q hq
end CALL
/-- the words of a method -/
def wsM (pm : PM) : List Cond := .code pm.1 pm.2.1 pm.2.2.1 pm.2.2.2.1 :: BGD
theorem mF_code {pm : PM} (h : mF pm) : Cond.code pm.1 pm.2.1 pm.2.2.1 pm.2.2.2.1 ∈ BGD := by
  obtain ⟨p1, p2, p3, p4, h⟩ := h
  simp only [mOK, Bool.and_eq_true] at h
  exact bgd_in (isW_in h.1) rfl
theorem mF_rest {pm : PM} (h : mF pm) : Cond.initialized pm.1.cls ∈ BGD ∧ plainName pm.1.cls = true ∧ CN pm.2.2.2.2.1 = pm.1.cls ∧ pm.2.2.1 ≤ 18 ∧ (pm.1.cls ≠ "java/lang/invoke/MethodHandle" ∧ pm.1.cls ≠ "java/lang/invoke/VarHandle") ∧
    (pm.2.2.2.2.2.2.2.1 = 0 → Cond.static pm.1 ∈ BGD) ∧ (pm.2.2.2.2.2.2.2.1 = 1 → Cond.instanceMethod pm.1 ∈ BGD ∧ Cond.selects pm.1.cls pm.1 pm.1 ∈ BGD) ∧ (pm.2.2.2.2.2.2.2.1 = 2 → Cond.instanceMethod pm.1 ∈ BGD ∧ pm.1.name = "<init>" ∧ pm.2.2.2.1 = none) := by
  obtain ⟨p1, p2, p3, p4, h⟩ := h
  simp only [mOK, Bool.and_eq_true, decide_eq_true_eq] at h
  obtain ⟨-, h2, h3, h4, h5, h6, h7⟩ := h
  refine ⟨bgd_in (isW_in h2) rfl, h3, h4, h5, h6, fun q => ?_, fun q => ?_, fun q => ?_⟩
  · rw [q] at h7
    exact bgd_in (isW_in h7) rfl
  · rw [q] at h7
    simp only [Bool.and_eq_true] at h7
    exact ⟨bgd_in (isW_in h7.1) rfl, bgd_in (isW_in h7.2) rfl⟩
  · rw [q] at h7
    simp only [Bool.and_eq_true, decide_eq_true_eq] at h7
    refine ⟨bgd_in (isW_in h7.1) rfl, h7.2.1, ?_⟩
    cases hq : pm.2.2.2.1 with
    | none => rfl
    | some x => rw [hq] at h7; exact absurd h7.2.2 (by simp)
theorem wsM_good {pm : PM} (h : mF pm) : GoodIn BGD (wsM pm) := by
  intro w hw
  rcases List.mem_cons.mp hw with rfl | hw
  · exact bgd_good _ (mF_code h)
  · exact bgd_good _ hw
/-- a method's body by the interpreter, from a point on -/
def SW (C : Ct) (n : Nat) : Prop := ∀ (y : Nat) (pm : PM) (g : Cg) (v : Option Value) (Mf : Mm), PGL[y]? = some pm → ev C n y g = some (v, Mf) →
  ∀ (p : Program) (l : Launch) (e : Env) (R : Room) (s s0 : State) (m : MethodId) (args : Array Value) (below : List Frame) (meth : Method) (c : Code) (H : Heap) (locs : List Loc) (cells slots : Nat) (D : va_G) (cy : Nat → ClassId) (cv : Nat → Value) (M0 : Mm) (ls : Array Slot) (mc ms : Nat),
  Base D cy cv C s0 → Act s0 pm p s m args meth c → Wd D cy s0 s M0 H locs cells slots g.2.2.2.2 → lh s0.heap.size cv pm.2.2.1 ls g.2.1 g.2.2.1 → (pm.2.2.2.2.2.1 ≤ R.frames ∧ 37 * pm.2.2.2.2.2.1 ≤ R.locals) ∧ (mc ≤ R.cells ∧ ms ≤ R.slots) ∧ mc + M0.1.length = Mf.1.length ∧ ms + ssum M0.1 = ssum Mf.1 →
    W p l e R s m args below meth c H locs cells slots (MQ below (Qv D cy cv s0 v Mf) args s mc ms (Af s0)) (F0 m g.1 ls (g.2.2.2.1.map (tr s0.heap.size cv)))
/-- a method by its contract -/
theorem SW.met {C : Ct} {n : Nat} (hSW : SW C n) {l : Launch} {s0 : State} {D : va_G} {cy : Nat → ClassId} {cv : Nat → Value} (hB : Base D cy cv C s0) {y : Nat} {pm : PM} {as : List Value} {M Mf : Mm} {v : Option Value} (hy : PGL[y]? = some pm) (hm : mF pm) (hlen : (enV as).length ≤ pm.2.2.1) (hev : ev C n y (0, entV as pm.2.2.1, entL as pm.2.2.1 pm.2.2.2.2.2.2.1, [], M) = some (v, Mf)) :
    Met l pm.1 (wsM pm) (rmO pm M Mf) (Pv D cy cv s0 as M) (Qv D cy cv s0 v Mf) (Mf.1.length - M.1.length) (ssum Mf.1 - ssum M.1) (Af s0) := by
  obtain ⟨hi, hpl, hcn, hml, hmh, -⟩ := mF_rest hm
  refine Met.ofW (cc := pm.2.1) (maxL := pm.2.2.1) (ret := pm.2.2.2.1) hpl rfl ?_
  intro p e s m args below meth c s₁ Bd hmL hv
  obtain ⟨rfl, hM, hwarm, hlow⟩ := hv
  have hts : ∀ w ∈ BGD, w.before (as.map (tr s0.heap.size cv)).toArray s = true := fun w hw => atoms_spec (ws := wsM pm) Bd.pre w (List.mem_cons_of_mem _ hw)
  have hown : s.vm.findClass (CN pm.2.2.2.2.1) = some m.cls := by
    rw [hcn]
    exact findClass_of_methodNamed Bd.named
  have hnm : meth.name = pm.1.name := (name_of_methodNamed Bd.named Bd.method).1
  have hg := ev_grow hev
  dsimp only at hg
  have hsz : s0.heap.size ≤ s.heap.size := by
    rw [hM.1]
    exact Nat.le_add_right _ _
  have := hSW y pm _ v Mf hy hev p l e (rmO pm M Mf) s s0 m (as.map (tr s0.heap.size cv)).toArray below meth c s.heap [] 0 0 D cy cv M _ (Mf.1.length - M.1.length) (ssum Mf.1 - ssum M.1) hB
    ⟨Bd.exec, Bd.bytes, Bd.returns, hmL, hown, hts, Bd.notSynchronized, fun q => hnm.trans q, hwarm, hlow, hsz⟩ ⟨hM, va_S.rf, by dsimp only; omega, by dsimp only; omega⟩ (lh_entry hB.2.2.2.1 hlen) ⟨⟨Nat.le_refl _, Nat.le_refl _⟩, ⟨Nat.le_refl _, Nat.le_refl _⟩, by omega, by omega⟩
  rw [lg_entry_eq]
  exact this
