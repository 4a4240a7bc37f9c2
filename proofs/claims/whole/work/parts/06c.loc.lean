/-! locals: the machine's slots hold the words -/
def lh (B : Nat) (cv : Nat → Value) (n : Nat) (ls : Array Slot) (lv : Lv) (ll : Ll) : Prop :=
  (ls.size = n ∧ lv.length ≤ n ∧ ll.length ≤ n ∧ lv_wf ls) ∧ (∀ (k : Nat) (v : Value), lv[k]? = some (some v) → v.category = 1 ∧ (tr B cv v).category = 1 ∧ ls[k]? = some (.val (tr B cv v))) ∧ ∀ (k : Nat) (x : Int64), ll[k]? = some (some x) → ls[k]? = some (.val (.long x))
def prs (B : Nat) (cv : Nat → Value) (n : Nat) (lv : Lv) (ll : Ll) : List (Nat × Value) := (List.range n).flatMap fun k => (match lv[k]? with
  | some (some v) => [(k, tr B cv v)]
  | _ => []) ++ (match ll[k]? with
  | some (some x) => [(k, Value.long x)]
  | _ => [])
theorem prs_v {B : Nat} {cv : Nat → Value} {n : Nat} {lv : Lv} {ll : Ll} {k : Nat} {v : Value} (hk : k < n) (h : lv[k]? = some (some v)) : (k, tr B cv v) ∈ prs B cv n lv ll := by
  refine List.mem_flatMap.mpr ⟨k, List.mem_range.mpr hk, List.mem_append_left _ ?_⟩
  rw [h]
  exact List.mem_singleton.mpr rfl
theorem prs_l {B : Nat} {cv : Nat → Value} {n : Nat} {lv : Lv} {ll : Ll} {k : Nat} {x : Int64} (hk : k < n) (h : ll[k]? = some (some x)) : (k, Value.long x) ∈ prs B cv n lv ll := by
  refine List.mem_flatMap.mpr ⟨k, List.mem_range.mpr hk, List.mem_append_right _ ?_⟩
  rw [h]
  exact List.mem_singleton.mpr rfl
theorem prs_in {B : Nat} {cv : Nat → Value} {n : Nat} {lv : Lv} {ll : Ll} {q : Nat × Value} (h : q ∈ prs B cv n lv ll) : (∃ v, lv[q.1]? = some (some v) ∧ q.2 = tr B cv v) ∨ ∃ x, ll[q.1]? = some (some x) ∧ q.2 = .long x := by
  obtain ⟨k, -, hk⟩ := List.mem_flatMap.mp h
  rcases List.mem_append.mp hk with hk | hk
  · split at hk
    · rename_i v hv
      rw [List.mem_singleton.mp hk]
      exact Or.inl ⟨v, hv, rfl⟩
    · cases hk
  · split at hk
    · rename_i v hv
      rw [List.mem_singleton.mp hk]
      exact Or.inr ⟨v, hv, rfl⟩
    · cases hk
section LH
variable {B : Nat} {cv : Nat → Value} {n : Nat} {ls ls' : Array Slot} {lv : Lv} {ll : Ll} {k : Nat}
theorem lh.lt (h : lh B cv n ls lv ll) {v : Option Value} (e : lv[k]? = some v) : k < n := Nat.lt_of_lt_of_le (List.getElem?_eq_some_iff.mp e).1 h.1.2.1
theorem lh.ltl (h : lh B cv n ls lv ll) {v : Option Int64} (e : ll[k]? = some v) : k < n := Nat.lt_of_lt_of_le (List.getElem?_eq_some_iff.mp e).1 h.1.2.2.1
theorem lh.has (h : lh B cv n ls lv ll) : lv_has ls n (prs B cv n lv ll) := by
  refine ⟨h.1.1, h.1.2.2.2, fun q hq => ?_⟩
  rcases prs_in hq with ⟨v, e1, e2⟩ | ⟨x, e1, e2⟩
  · rw [e2]
    exact (h.2.1 _ _ e1).2.2
  · rw [e2]
    exact h.2.2 _ _ e1
theorem lh.after1 (h : lh B cv n ls lv ll) (hk : k < lv.length) {v : Value} (hv : v.category = 1) (hv2 : (tr B cv v).category = 1)
    (h' : lv_has ls' n ((k, tr B cv v) :: (prs B cv n lv ll).filter (fun q => !(q.1 == k) && !(q.1 + 1 == k && q.2.category == 2)))) : lh B cv n ls' (lv.set k (some v)) (cl1 ll k) := by
  refine ⟨⟨h'.1, by rw [List.length_set]; exact h.1.2.1, by rw [cl1, List.length_set, List.length_set]; exact h.1.2.2.1, h'.2.1⟩, fun j w e => ?_, fun j x e => ?_⟩
  · rw [List.getElem?_set] at e
    by_cases hj : k = j
    · subst hj
      rw [if_pos rfl, if_pos hk] at e
      cases e
      exact ⟨hv, hv2, h'.2.2 (k, tr B cv v) List.mem_cons_self⟩
    · rw [if_neg hj] at e
      obtain ⟨c1, c2, -⟩ := h.2.1 j w e
      refine ⟨c1, c2, h'.2.2 (j, tr B cv w) (List.mem_cons_of_mem _ (List.mem_filter.mpr ⟨prs_v (h.lt e) e, ?_⟩))⟩
      have : ¬ j = k := fun q => hj q.symm
      simp [this, c2]
  · rw [cl1, List.getElem?_set] at e
    by_cases h1 : k - 1 = j
    · rw [if_pos h1] at e
      split at e <;> cases e
    · rw [if_neg h1, List.getElem?_set] at e
      by_cases h2 : k = j
      · rw [if_pos h2] at e
        split at e <;> cases e
      · rw [if_neg h2] at e
        refine h'.2.2 (j, .long x) (List.mem_cons_of_mem _ (List.mem_filter.mpr ⟨prs_l (h.ltl e) e, ?_⟩))
        have a1 : ¬ j = k := fun q => h2 q.symm
        have a2 : ¬ j + 1 = k := by omega
        simp [a1, a2]
theorem lh.after2 (h : lh B cv n ls lv ll) (hk : k + 1 < ll.length) {x : Int64}
    (h' : lv_has ls' n ((k, Value.long x) :: (prs B cv n lv ll).filter (fun q => !(q.1 == k) && (!(q.1 == k + 1) && !(q.1 + 1 == k && q.2.category == 2))))) : lh B cv n ls' ((lv.set k none).set (k + 1) none) (((ll.set (k - 1) none).set (k + 1) none).set k (some x)) := by
  refine ⟨⟨h'.1, by rw [List.length_set, List.length_set]; exact h.1.2.1, by rw [List.length_set, List.length_set, List.length_set]; exact h.1.2.2.1, h'.2.1⟩, fun j w e => ?_, fun j y e => ?_⟩
  · rw [List.getElem?_set] at e
    by_cases h1 : k + 1 = j
    · rw [if_pos h1] at e
      split at e <;> cases e
    · rw [if_neg h1, List.getElem?_set] at e
      by_cases h2 : k = j
      · rw [if_pos h2] at e
        split at e <;> cases e
      · rw [if_neg h2] at e
        obtain ⟨c1, c2, -⟩ := h.2.1 j w e
        refine ⟨c1, c2, h'.2.2 (j, tr B cv w) (List.mem_cons_of_mem _ (List.mem_filter.mpr ⟨prs_v (h.lt e) e, ?_⟩))⟩
        have a1 : ¬ j = k := fun q => h2 q.symm
        have a2 : ¬ j = k + 1 := fun q => h1 q.symm
        simp [a1, a2, c2]
  · rw [List.getElem?_set] at e
    by_cases h0 : k = j
    · subst h0
      rw [if_pos rfl] at e
      split at e
      · cases e
        exact h'.2.2 (k, .long x) List.mem_cons_self
      · cases e
    · rw [if_neg h0, List.getElem?_set] at e
      by_cases h1 : k + 1 = j
      · rw [if_pos h1] at e
        split at e <;> cases e
      · rw [if_neg h1, List.getElem?_set] at e
        by_cases h2 : k - 1 = j
        · rw [if_pos h2] at e
          split at e <;> cases e
        · rw [if_neg h2] at e
          refine h'.2.2 (j, .long y) (List.mem_cons_of_mem _ (List.mem_filter.mpr ⟨prs_l (h.ltl e) e, ?_⟩))
          have a1 : ¬ j = k := fun q => h0 q.symm
          have a2 : ¬ j = k + 1 := fun q => h1 q.symm
          have a3 : ¬ j + 1 = k := by omega
          simp [a1, a2, a3]
end LH
/-! the entry -/
theorem enV_args {B : Nat} {cv : Nat → Value} (hcv : ∀ r, cv r = .null ∨ ∃ a, cv r = .ref a) : ∀ (as : List Value) (i k : Nat) (v : Value), (enV as)[k]? = some (some v) → v.category = 1 ∧ (i + k, tr B cv v) ∈ lv_args i (as.map (tr B cv))
  | [], i, k, v, h => by simp [enV] at h
  | a :: as, i, k, v, h => by
    have hc : (tr B cv a).category = a.category := tr_cat hcv a
    have one : a.category = 1 → enV (a :: as) = some a :: enV as → v.category = 1 ∧ (i + k, tr B cv v) ∈ lv_args i ((a :: as).map (tr B cv)) := by
      intro h1 h2
      rw [h2] at h
      show _ ∧ _ ∈ lv_args i (tr B cv a :: as.map (tr B cv))
      rw [lv_args, hc, h1, if_neg (by decide)]
      cases k with
      | zero =>
        simp at h
        subst h
        exact ⟨h1, List.mem_cons_self⟩
      | succ k =>
        simp at h
        obtain ⟨r1, r2⟩ := enV_args hcv as (i + 1) k v h
        exact ⟨r1, List.mem_cons_of_mem _ (by rw [show i + (k + 1) = i + 1 + k by omega]; exact r2)⟩
    have two : a.category = 2 → enV (a :: as) = none :: none :: enV as → v.category = 1 ∧ (i + k, tr B cv v) ∈ lv_args i ((a :: as).map (tr B cv)) := by
      intro h1 h2
      rw [h2] at h
      show _ ∧ _ ∈ lv_args i (tr B cv a :: as.map (tr B cv))
      rw [lv_args, hc, h1, if_pos rfl]
      cases k with
      | zero => simp at h
      | succ k =>
        cases k with
        | zero => simp at h
        | succ k =>
          simp at h
          obtain ⟨r1, r2⟩ := enV_args hcv as (i + 2) k v h
          exact ⟨r1, List.mem_cons_of_mem _ (by rw [show i + (k + 1 + 1) = i + 2 + k by omega]; exact r2)⟩
    cases a with
    | long x => exact two rfl rfl
    | double x => exact two rfl rfl
    | int x => exact one rfl rfl
    | float x => exact one rfl rfl
    | ref x => exact one rfl rfl
    | null => exact one rfl rfl
    | retAddr x => exact one rfl rfl
theorem enL_args {B : Nat} {cv : Nat → Value} (hcv : ∀ r, cv r = .null ∨ ∃ a, cv r = .ref a) : ∀ (as : List Value) (i k : Nat) (x : Int64), (enL as)[k]? = some (some x) → (i + k, Value.long x) ∈ lv_args i (as.map (tr B cv))
  | [], i, k, v, h => by simp [enL] at h
  | a :: as, i, k, v, h => by
    have hc : (tr B cv a).category = a.category := tr_cat hcv a
    have one : a.category = 1 → enL (a :: as) = none :: enL as → (i + k, Value.long v) ∈ lv_args i ((a :: as).map (tr B cv)) := by
      intro h1 h2
      rw [h2] at h
      show _ ∈ lv_args i (tr B cv a :: as.map (tr B cv))
      rw [lv_args, hc, h1, if_neg (by decide)]
      cases k with
      | zero => simp at h
      | succ k =>
        simp at h
        exact List.mem_cons_of_mem _ (by rw [show i + (k + 1) = i + 1 + k by omega]; exact enL_args hcv as (i + 1) k v h)
    have two : ∀ y : Option Int64, a.category = 2 → enL (a :: as) = y :: none :: enL as → (∀ z, y = some z → a = .long z) → (i + k, Value.long v) ∈ lv_args i ((a :: as).map (tr B cv)) := by
      intro y h1 h2 h3
      rw [h2] at h
      show _ ∈ lv_args i (tr B cv a :: as.map (tr B cv))
      rw [lv_args, hc, h1, if_pos rfl]
      cases k with
      | zero =>
        simp at h
        have h4 := h3 v h
        subst h4
        exact List.mem_cons_self
      | succ k =>
        cases k with
        | zero => simp at h
        | succ k =>
          simp at h
          exact List.mem_cons_of_mem _ (by rw [show i + (k + 1 + 1) = i + 2 + k by omega]; exact enL_args hcv as (i + 2) k v h)
    cases a with
    | long x => exact two (some x) rfl rfl (fun z h => by cases h; rfl)
    | double x => exact two none rfl rfl (fun z h => by cases h)
    | int x => exact one rfl rfl
    | float x => exact one rfl rfl
    | ref x => exact one rfl rfl
    | null => exact one rfl rfl
    | retAddr x => exact one rfl rfl
theorem enV_len : ∀ (as : List Value) (B : Nat) (cv : Nat → Value), (∀ r, cv r = .null ∨ ∃ a, cv r = .ref a) → (lg_sl (as.map (tr B cv))).length = (enV as).length ∧ (enL as).length = (enV as).length
  | [], _, _, _ => ⟨rfl, rfl⟩
  | a :: as, B, cv, hcv => by
    obtain ⟨h1, h2⟩ := enV_len as B cv hcv
    have hc : (tr B cv a).category = a.category := tr_cat hcv a
    have e : (lg_sl ((a :: as).map (tr B cv))).length = a.category + (lg_sl (as.map (tr B cv))).length := by
      rw [← hc]
      show (lg_sl (tr B cv a :: as.map (tr B cv))).length = _
      generalize tr B cv a = w
      cases w <;> simp [lg_sl, Value.category] <;> try omega
    rw [e, h1]
    cases a <;> simp [enV, enL, Value.category, h2] <;> try omega
theorem lh_entry {B : Nat} {cv : Nat → Value} (hcv : ∀ r, cv r = .null ∨ ∃ a, cv r = .ref a) {as : List Value} {n : Nat} {hl : Bool} (h : (enV as).length ≤ n) :
    lh B cv n ((lg_sl (as.map (tr B cv)) ++ List.replicate (n - (lg_sl (as.map (tr B cv))).length) Slot.unset).toArray) (entV as n) (entL as n hl) := by
  obtain ⟨h1, h2⟩ := enV_len as B cv hcv
  have hh := lv_entry (as.map (tr B cv)) (n := n) (by rw [h1]; exact h)
  refine ⟨⟨hh.1, ?_, ?_, hh.2.1⟩, fun k v e => ?_, fun k x e => ?_⟩
  · simp [entV]
    omega
  · unfold entL
    split
    · simp
      omega
    · simp
  · have e1 : (enV as)[k]? = some (some v) := by
      unfold entV at e
      by_cases hk : k < (enV as).length
      · rw [List.getElem?_append_left hk] at e
        exact e
      · rw [List.getElem?_append_right (by omega)] at e
        have := List.eq_of_mem_replicate (List.mem_of_getElem? e)
        cases this
    obtain ⟨r1, r2⟩ := enV_args (B := B) hcv as 0 k v e1
    rw [Nat.zero_add] at r2
    exact ⟨r1, by rw [tr_cat hcv]; exact r1, hh.2.2 _ r2⟩
  · have e1 : (enL as)[k]? = some (some x) := by
      unfold entL at e
      split at e
      · by_cases hk : k < (enL as).length
        · rw [List.getElem?_append_left hk] at e
          exact e
        · rw [List.getElem?_append_right (by omega)] at e
          have := List.eq_of_mem_replicate (List.mem_of_getElem? e)
          cases this
      · simp at e
    have r2 := enL_args (B := B) hcv as 0 k x e1
    rw [Nat.zero_add] at r2
    exact hh.2.2 _ r2
