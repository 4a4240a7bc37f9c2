/-- the law's number among the methods -/
def LAW : Nat := 331
set_option maxRecDepth 100000 in
theorem LAW_at : PGL[LAW]? = some pm_331 := rfl
theorem LAW_is : pm_331.1 = yL_law ∧ pm_331.2.1 = code ∧ pm_331.2.2.1 = 4 ∧ pm_331.2.2.2.1 = ret ∧ pm_331.2.2.2.2.1 = 13 ∧ pm_331.2.2.2.2.2.1 = 13 := ⟨rfl, rfl, rfl, rfl, rfl, rfl⟩
/-- no cell yet -/
def Mem0 : Mm := ([], fun _ _ => 0, fun _ _ => 0, fun _ _ => none)
/-- THE CLAIM OUT OF THE INTERPRETER: where it answers 1 from the law's entry, within the room, the machine does -/
theorem whole_of {p : Program} {e : Env} {s : State} {m : MethodId} {below : List Frame} {meth : Method} {c : Code} (l : Launch) {b L : Nat} {xs : Nat → Int32} (hL : L ≤ 3072) (C0 : lw_At p s m meth c b L xs) {n : Nat} {Mf : Mm} (hev : ev (CT L xs) n LAW (0, [some (.ref 1000300), none, none, none], [], [], Mem0) = some (some (.int 1), Mf)) (hc : Mf.1.length ≤ 600000) (hs : ssum Mf.1 ≤ 7302250) :
    W p l e room_1 s m #[Value.ref b] below meth c s.heap [] 0 0 (lw_Z below #[Value.ref b] s) (entryFrame m ([Value.ref b] : List Value).toArray 4) := by
  obtain ⟨D, cy, cv, hB, hcv⟩ := base_of hL C0
  obtain ⟨hx, hb, hr, hml, hown, hts, hX, hbl, hlocks, hgv⟩ := C0
  have hent := lh_entry (B := s.heap.size) hB.2.2.2.1 (as := [.ref 1000300]) (n := 4) (hl := false) (by decide)
  have e1 : tr s.heap.size cv (.ref 1000300) = .ref b := by rw [tr_con (by omega), hcv]
  have e2 : ([.ref 1000300] : List Value).map (tr s.heap.size cv) = [.ref b] := by rw [List.map_cons, e1]; rfl
  rw [e2] at hent
  have k := SW_all (CT L xs) n LAW pm_331 _ _ _ LAW_at hev p l e room_1 s s m #[Value.ref b] below meth c s.heap [] 0 0 D cy cv Mem0 _ Mf.1.length (ssum Mf.1) hB
    ⟨hx, hb, hr, hml, hown, fun w hw => hts w (List.mem_filter.mp hw).1, hlocks, fun q => absurd q (by decide), State.WarmedH.refl s, fun _ _ => rfl, Nat.le_refl _⟩
    ⟨⟨rfl, by decide, fun i k a h => (by cases h), fun i kd n h => (by cases h)⟩, va_S.rf, rfl, rfl⟩ hent ⟨⟨by decide, by decide⟩, ⟨hc, hs⟩, rfl, rfl⟩
  rw [lg_entry_eq]
  intro T hT X
  obtain ⟨t, a1, o, b1, b2, hQ, Lc, hF, hfr⟩ := k T hT X
  refine ⟨t, a1, o, b1, b2, hQ.1, ?_⟩
  exact ⟨hF.1, hF.2.1, hF.2.2.weaken (fun y hy hlt => absurd hlt (Nat.not_lt.mpr (hfr y hy))) hc hs⟩
