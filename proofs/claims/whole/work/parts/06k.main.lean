theorem lookup_mem {α : Type} {ix : Nat} {x : α} : ∀ (l : List (Nat × α)), l.lookup ix = some x → (ix, x) ∈ l
  | [], h => by cases h
  | a :: l, q => by
    obtain ⟨a1, a2⟩ := a
    rw [List.lookup_cons] at q
    by_cases ha : ix = a1
    · subst ha
      simp at q
      rw [q]
      exact List.mem_cons_self
    · have hb : (ix == a1) = false := by simp [ha]
      rw [hb] at q
      exact List.mem_cons_of_mem _ (lookup_mem l q)
theorem callOf_some {o kd y np : Nat} {ins : Instr} (h : callOf o ins = some (kd, y, np)) : ∃ ix p, lk CRL o ix = some (kd, y, np, p) ∧ ((ins = .invokevirtual ix ∧ kd < 2) ∨ (ins = .invokestatic ix ∧ 2 ≤ kd ∧ kd < 4) ∨ (ins = .invokespecial ix ∧ 4 ≤ kd ∧ kd < 6)) := by
  unfold callOf at h
  split at h
  · rename_i ix
    split at h
    · rename_i k y' n p hlk
      split at h
      · rename_i hk
        cases h
        exact ⟨ix, p, hlk, Or.inl ⟨rfl, hk⟩⟩
      · cases h
    · cases h
  · rename_i ix
    split at h
    · rename_i k y' n p hlk
      split at h
      · rename_i hk
        cases h
        exact ⟨ix, p, hlk, Or.inr (Or.inl ⟨rfl, hk⟩)⟩
      · cases h
    · cases h
  · rename_i ix
    split at h
    · rename_i k y' n p hlk
      split at h
      · rename_i hk
        cases h
        exact ⟨ix, p, hlk, Or.inr (Or.inr ⟨rfl, hk⟩)⟩
      · cases h
    · cases h
  · cases h
theorem cOK_call {o ix k y n p : Nat} (h : lk CRL o ix = some (k, y, n, p)) (hk : k < 6) {pm : PM} (hy : PGL[y]? = some pm) : pm.2.2.2.2.2.2.2.1 = (if k < 2 then 1 else if k < 4 then 0 else 2) ∧ isW p (if k % 2 = 0 then Cond.methodLink (CN o) ix pm.1 else Cond.methodLinkNest (CN o) ix pm.1 "GriefTram") = true ∧ (parseMethodDescriptor pm.1.desc).map (fun d => d.parameters.length) = some n := by
  have h1 := cOK_lk h
  unfold cOK at h1
  rw [if_neg (by omega), if_neg (by omega), if_neg (by omega), if_neg (by omega), if_neg (by omega), hy] at h1
  simp only [Bool.and_eq_true, decide_eq_true_eq] at h1
  exact h1.2
theorem rcv_V {kd oc : Nat} {as : List Value} {M : Mm} (h : rcv kd oc as M = true) (hk : kd < 2) : ∃ r as', as = .ref r :: as' ∧ ((∃ n, M.1[r]? = some (oc, n) ∧ oc < 50) ∨ (oc = 14 ∧ 1000000 ≤ r ∧ r < 1000022)) := by
  unfold rcv at h
  rw [if_neg (by omega)] at h
  split at h
  · rename_i r as'
    rw [if_neg (by omega)] at h
    split at h
    · rename_i c n hT
      obtain ⟨h1, h2⟩ := of_decide_eq_true h
      subst h1
      exact ⟨r, as', rfl, Or.inl ⟨n, hT, h2⟩⟩
    · exact ⟨r, as', rfl, Or.inr (of_decide_eq_true h)⟩
  · cases h
theorem rcv_I {kd oc : Nat} {as : List Value} {M : Mm} (h : rcv kd oc as M = true) (hk : 4 ≤ kd) : ∃ r as', as = .ref r :: as' ∧ r < 1000000 := by
  unfold rcv at h
  rw [if_neg (by omega)] at h
  split at h
  · rename_i r as'
    rw [if_pos hk] at h
    exact ⟨r, as', rfl, of_decide_eq_true h⟩
  · cases h
section CALL2
variable {p : Program} {l : Launch} {e : Env} {R : Room} {s s0 : State} {m : MethodId} {args : Array Value} {below : List Frame} {meth : Method} {c : Code} {H : Heap} {locs : List Loc} {cells slots : Nat} {D : va_G} {cy : Nat → ClassId} {cv : Nat → Value} {C : Ct} {pm pm' : PM} {M0 M M1 : Mm} {pc : Nat} {ls : Array Slot} {v : Option Value}
/-- a call by its kind: the run -/
theorem W_run (hB : Base D cy cv C s0) (hA : Act s0 pm p s m args meth c) (hW : Wd D cy s0 s M0 H locs cells slots M) (hlz : ls.size = pm.2.2.1) (hm : mF pm') {as rest : List Value} (hM : Met l pm'.1 (wsM pm') (rmO pm' M M1) (Pv D cy cv s0 as M) (Qv D cy cv s0 v M1) (M1.1.length - M.1.length) (ssum M1.1 - ssum M.1) (Af s0))
    (hR : pm'.2.2.2.2.2.1 + 1 ≤ R.frames ∧ 8 + (pm'.2.2.1 + 11) + 37 * pm'.2.2.2.2.2.1 ≤ R.locals) (hf : cells + (M1.1.length - M.1.length) ≤ R.cells ∧ slots + (ssum M1.1 - ssum M.1) ≤ R.slots) {ins : Instr} {kd y np : Nat} (hy : PGL[y]? = some pm') (hcall : callOf pm.2.2.2.2.1 ins = some (kd, y, np)) (hd : decode pm.2.1 pc = .ok (ins, 3)) (hrc : rcv kd pm'.2.2.2.2.1 as M = true) (hlen : as.length = npop kd np) (h8 : (rest.map fun v => v.category).sum ≤ 8) :
    ∃ a, va_Run p l e R s m args below meth c H locs cells slots (M1.1.length - M.1.length) (ssum M1.1 - ssum M.1) (F0 m pc ls ((as.reverse ++ rest).map (tr s0.heap.size cv))) (rest.map (tr s0.heap.size cv)) (Qv D cy cv s0 v M1 a) (Af s0) := by
  obtain ⟨hx, hb, hr, hml, hown, hts, hlocks, hini, hwarm, hlow, hsz⟩ := hA
  have hK := hB.K hwarm
  obtain ⟨ix, pp, hlk, hkind⟩ := callOf_some hcall
  obtain ⟨hinit, hpl, hcn, hml18, hmh, hst, hvi, hsp⟩ := mF_rest hm
  obtain ⟨hfl, hlink, hpar⟩ := cOK_call hlk (by omega) hy
  have hPv := Pv_call (cv := cv) (as := as) hwarm hlow hsz hW
  have hS : CallFix p m c pm.2.1 pm.2.2.1 s args BGD (CN pm.2.2.2.2.1) := ⟨hx, hb, hml, hown, hts⟩
  have h8' : ((rest.map (tr s0.heap.size cv)).map fun v => v.category).sum ≤ 8 := by rw [map_cat hB.2.2.2.1]; exact h8
  have cb : ∀ n : Nat, (parseMethodDescriptor pm'.1.desc).map (fun d => d.parameters.length) = some n → kd % 2 = 0 → CallB R s args (CN pm.2.2.2.2.1) ix pm'.1 pm'.2.1 pm'.2.2.1 pm'.2.2.2.1 (wsM pm') (rmO pm' M M1) (M1.1.length - M.1.length) (ssum M1.1 - ssum M.1) n := by
    intro n hn hev
    rw [if_pos hev] at hlink
    exact callB_of n hts (wsM_good hm) rfl rfl rfl (hts _ hinit) (hts _ (bgd_in (isW_in hlink) rfl)) ⟨hmh.1, hmh.2, hn⟩ hR
  have cn : ∀ n : Nat, (parseMethodDescriptor pm'.1.desc).map (fun d => d.parameters.length) = some n → ¬ kd % 2 = 0 → va_CN R s args (CN pm.2.2.2.2.1) ix pm'.1 "GriefTram" pm'.2.1 pm'.2.2.1 pm'.2.2.2.1 (wsM pm') (rmO pm' M M1) (M1.1.length - M.1.length) (ssum M1.1 - ssum M.1) n := by
    intro n hn hev
    rw [if_neg hev] at hlink
    exact va_cnB n hts (wsM_good hm) rfl rfl rfl (va_Nw.warmM hwarm (hB.2.1.1 _ _ _ _ (isW_in hlink))) (hts _ hinit) ⟨hmh.1, hmh.2, hn⟩ hR
  rcases hkind with ⟨rfl, hk⟩ | ⟨rfl, hk⟩ | ⟨rfl, hk⟩
  · -- virtual
    rw [if_pos hk] at hfl
    obtain ⟨hi1, hi2⟩ := hvi hfl
    obtain ⟨r, as', rfl, hrec⟩ := rcv_V hrc hk
    have hnp : as'.length = np := by
      simp [npop] at hlen
      rw [if_neg (by omega)] at hlen
      omega
    have hcell : ∃ b : Nat, tr s0.heap.size cv (.ref r) = .ref b ∧ ∃ cellB : Cell, H[b]? = some cellB ∧ cellB.vm.isStatics = false ∧ s.vm.findClass pm'.1.cls = some cellB.cls := by
      rcases hrec with ⟨n, hT, h50⟩ | ⟨ho, hr1, hr2⟩
      · have h13 : pm'.2.2.2.2.1 < 13 := by
          rcases hW.1.2.2.2 r _ n hT with ⟨q, -⟩ | ⟨⟨q, -⟩, -⟩ <;> omega
        obtain ⟨cell, q1, q2, q3, q4⟩ := hW.1.obj hT h13
        refine ⟨_, tr_ref (hW.1.lt hT), cell, q1, by rw [q3]; rfl, ?_⟩
        rw [← hcn, q2]
        exact (hK.1 _ _ (cls_at h13)).2.1
      · obtain ⟨j, rfl⟩ : ∃ j : Nat, r = 1000000 + j := ⟨r - 1000000, (Nat.add_sub_of_le hr1).symm⟩
        obtain ⟨t, h1, h2, -⟩ := hB.2.2.2.2.2.2 j (Nat.lt_of_add_lt_add_left hr2)
        obtain ⟨cell, c1, c2, c3, c4⟩ := ((h2.moved hwarm.alike).kept (low_kept hlow)).kept hW.2.1.2.1
        refine ⟨t, by rw [tr_con hr1, h1], cell, c1, c2, ?_⟩
        rw [← hcn, ho]
        exact c3
    obtain ⟨b, hbt, hcellB⟩ := hcell
    have hstack : ((Value.ref r :: as').reverse ++ rest).map (tr s0.heap.size cv) = (as'.map (tr s0.heap.size cv)).reverse ++ .ref b :: rest.map (tr s0.heap.size cv) := by
      rw [List.map_append, List.reverse_cons, List.map_append, List.map_reverse]
      simp [hbt]
    have hargs : (Value.ref r :: as').map (tr s0.heap.size cv) = Value.ref b :: as'.map (tr s0.heap.size cv) := by
      rw [List.map_cons, hbt]
    rw [hargs] at hPv
    by_cases hev : kd % 2 = 0
    · exact ⟨_, va_runV (C := pm'.1.cls) hS hM ⟨cb np hpar hev, hts _ hi1, hts _ hi2⟩ ⟨Pv_blind, hcellB, hPv⟩ rfl (by rw [List.length_map]; exact hnp) hlz hstack (lv_room h8') hd hf⟩
    · exact ⟨_, va_runVN (C := pm'.1.cls) hS hM ⟨cn np hpar hev, hts _ hi1, hts _ hi2⟩ ⟨Pv_blind, hcellB, hPv⟩ rfl (by rw [List.length_map]; exact hnp) hlz hstack (lv_room h8') hd hf⟩
  · -- static
    rw [if_neg (by omega), if_pos hk.2] at hfl
    have hst := hst hfl
    have hnp : as.length = np := by
      rw [hlen, npop, if_pos hk]
    have hstack : (as.reverse ++ rest).map (tr s0.heap.size cv) = (as.map (tr s0.heap.size cv)).reverse ++ rest.map (tr s0.heap.size cv) := by
      rw [List.map_append, List.map_reverse]
    by_cases hev : kd % 2 = 0
    · exact ⟨_, va_runS hS hM ⟨cb np hpar hev, hts _ hst⟩ ⟨Pv_blind, hPv⟩ rfl (by rw [List.length_map]; exact hnp) hlz hstack (lv_room h8') hd hf⟩
    · exact ⟨_, va_runSN hS hM ⟨cn np hpar hev, hts _ hst, trivial⟩ ⟨Pv_blind, hPv⟩ rfl (by rw [List.length_map]; exact hnp) hlz hstack (lv_room h8') hd hf⟩
  · -- a constructor
    rw [if_neg (by omega), if_neg (by omega)] at hfl
    obtain ⟨hi1, hi2, hi3⟩ := hsp hfl
    obtain ⟨r, as', rfl, hr1⟩ := rcv_I hrc hk.1
    have hnp : as'.length = np := by
      simp [npop] at hlen
      rw [if_neg (by omega)] at hlen
      omega
    have hbt : tr s0.heap.size cv (.ref r) = .ref (s0.heap.size + r) := tr_ref hr1
    have hstack : ((Value.ref r :: as').reverse ++ rest).map (tr s0.heap.size cv) = (as'.map (tr s0.heap.size cv)).reverse ++ .ref (s0.heap.size + r) :: rest.map (tr s0.heap.size cv) := by
      rw [List.map_append, List.reverse_cons, List.map_append, List.map_reverse]
      simp [hbt]
    have hargs : (Value.ref r :: as').map (tr s0.heap.size cv) = Value.ref (s0.heap.size + r) :: as'.map (tr s0.heap.size cv) := by
      rw [List.map_cons, hbt]
    rw [hargs] at hPv
    rw [hi3] at cb cn
    by_cases hev : kd % 2 = 0
    · exact ⟨_, va_runI hS hM ⟨cb np hpar hev, hi2, hts _ hi1⟩ ⟨Pv_blind, hPv⟩ rfl (by rw [List.length_map]; exact hnp) hlz hstack (lv_room h8') hd hf⟩
    · exact ⟨_, va_runIN hS hM ⟨cn np hpar hev, hi2, hts _ hi1⟩ ⟨Pv_blind, hPv⟩ rfl (by rw [List.length_map]; exact hnp) hlz hstack (lv_room h8') hd hf⟩
end CALL2
