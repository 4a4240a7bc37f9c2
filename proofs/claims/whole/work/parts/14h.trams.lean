/-! both ways of counting trams, and of finding who is needed -/
theorem sub_iff {a b : Nat} : a &&& b = a ↔ ∀ i, a.testBit i = true → b.testBit i = true := by
  constructor
  · intro h i hi
    have := congrArg (fun z => z.testBit i) h
    rw [Nat.testBit_and, hi] at this
    simpa using this
  · intro h
    apply Nat.eq_of_testBit_eq
    intro i
    rw [Nat.testBit_and]
    cases ha : a.testBit i with
    | false => rfl
    | true => rw [h i ha]; rfl
theorem sub_xor {a j : Nat} (h : j &&& a = j) : (a ^^^ j) &&& a = a ^^^ j := by
  rw [sub_iff] at h ⊢
  intro i hi
  rw [Nat.testBit_xor] at hi
  cases ha : a.testBit i with
  | true => rfl
  | false =>
    rw [ha] at hi
    have hj : j.testBit i = true := by simpa using hi
    rw [h i hj] at ha
    cases ha
theorem sub_xor2 {a b j : Nat} (h1 : a &&& b = a) (h2 : j &&& a = j) : (a ^^^ j) &&& (b ^^^ j) = a ^^^ j := by
  rw [sub_iff] at h1 h2 ⊢
  intro i hi
  rw [Nat.testBit_xor] at hi ⊢
  cases ha : a.testBit i with
  | true =>
    rw [ha] at hi
    rw [h1 i ha]
    exact hi
  | false =>
    rw [ha] at hi
    have hj : j.testBit i = true := by simpa using hi
    rw [h2 i hj] at ha
    cases ha
theorem sub_tr {a b c : Nat} (h1 : a &&& b = a) (h2 : b &&& c = b) : a &&& c = a := by
  rw [sub_iff] at h1 h2 ⊢
  exact fun i hi => h2 i (h1 i hi)
theorem sub_le {a b : Nat} (h : a &&& b = a) : a ≤ b := by
  rw [← h]
  exact Nat.and_le_right
section TR
variable {U : Nat → Bool}
theorem mxT_ge {t : Nat → Nat} {set : Nat} : ∀ m j, j < m → 1 ≤ j → j &&& set = j → U j = true → 1 + t (set ^^^ j) ≤ mxT U t set m
  | 0, j, h, _, _, _ => absurd h (by omega)
  | m + 1, j, h, h1, h2, h3 => by
    rw [mxT]
    by_cases e : j = m
    · subst e
      rw [if_pos ⟨⟨h1, h2⟩, h3⟩]
      exact Nat.le_max_right _ _
    · have ih := mxT_ge (t := t) (set := set) m j (by omega) h1 h2 h3
      split
      · exact Nat.le_trans ih (Nat.le_max_left _ _)
      · exact ih
theorem mxT_ub {t : Nat → Nat} {set B : Nat} : ∀ m, (∀ j, j < m → 1 ≤ j → j &&& set = j → U j = true → 1 + t (set ^^^ j) ≤ B) → mxT U t set m ≤ B
  | 0, _ => Nat.zero_le _
  | m + 1, h => by
    have ih := mxT_ub (t := t) (set := set) m (fun j hj => h j (by omega))
    rw [mxT]
    split
    · rename_i q
      exact Nat.max_le.mpr ⟨ih, h m (by omega) q.1.1 q.1.2 q.2⟩
    · exact ih
theorem tra_at {n s : Nat} (h : s < n) : tra U n s = tra U (s + 1) s := by
  induction n with
  | zero => exact absurd h (by omega)
  | succ n ih =>
    by_cases e : s = n
    · subst e
      rfl
    · show (if s = n then _ else tra U n s) = _
      rw [if_neg e]
      exact ih (by omega)
theorem tra_v {s : Nat} : tra U (s + 1) s = mxT U (tra U s) s (s + 1) := by
  show (if s = s then _ else _) = _
  rw [if_pos rfl]
/-- the most trams of a set -/
def tau (U : Nat → Bool) (s : Nat) : Nat := tra U (s + 1) s
theorem tau_ge {s j : Nat} (hs : s < 256) (h1 : 1 ≤ j) (h2 : j &&& s = j) (h3 : U j = true) : 1 + tau U (s ^^^ j) ≤ tau U s := by
  have hj := sub_le h2
  have hx := xor_lt256 s hs j (by omega) h1 h2
  have := mxT_ge (U := U) (t := tra U s) (set := s) (s + 1) j (by omega) h1 h2 h3
  rw [tra_at hx] at this
  unfold tau
  rw [tra_v (s := s)]
  exact this
theorem tau_ub {s B : Nat} (hs : s < 256) (h : ∀ j, 1 ≤ j → j &&& s = j → U j = true → 1 + tau U (s ^^^ j) ≤ B) : tau U s ≤ B := by
  unfold tau
  rw [tra_v]
  refine mxT_ub (s + 1) (fun j hj h1 h2 h3 => ?_)
  have hx := xor_lt256 s hs j (by omega) h1 h2
  rw [tra_at hx]
  exact h j h1 h2 h3
theorem tau_mono : ∀ a, a < 256 → ∀ b, b < 256 → a &&& b = a → tau U a ≤ tau U b := by
  intro a
  induction a using Nat.strongRecOn with
  | ind a ih =>
    intro ha b hb hab
    refine tau_ub ha (fun j h1 h2 h3 => ?_)
    have hj := sub_le h2
    have hja := sub_tr h2 hab
    have hx := xor_lt256 a ha j (by omega) h1 h2
    have hx2 := xor_lt256 b hb j (by omega) h1 hja
    have i1 := ih (a ^^^ j) hx (by omega) (b ^^^ j) (by omega) (sub_xor2 hab h2)
    have i2 := tau_ge hb h1 hja h3
    omega
theorem mxM_acc {t : Nat → Nat} {set : Nat} : ∀ f s acc, acc ≤ mxM U t set f s acc
  | 0, s, acc => Nat.le_refl _
  | f + 1, s, acc => by
    rw [mxM]
    split
    · exact Nat.le_refl _
    · exact Nat.le_trans (Nat.le_max_left _ _) (mxM_acc f _ _)
theorem mxM_ge {t : Nat → Nat} {set x : Nat} (h0 : 0 < x) : ∀ f s acc, vis set x f s = true → t (set ^^^ (set &&& x)) + (if U x then 1 else 0) ≤ mxM U t set (f + 1) s acc
  | 0, s, acc, h => by cases h
  | f + 1, s, acc, h => by
    have h : (if Nat.beq s x then true else vis set x f (Nat.land (Nat.sub s 1) set)) = true := h
    rw [mxM]
    split at h
    · rename_i q
      have e := Nat.eq_of_beq_eq_true q
      subst e
      rw [if_neg (show ¬ s = 0 by omega)]
      exact Nat.le_trans (Nat.le_max_right _ _) (mxM_acc (f + 1) _ _)
    · by_cases hs : s = 0
      · subst hs
        have : ∀ f, vis set x f 0 = true → False := by
          intro f
          induction f with
          | zero => intro q; cases q
          | succ f ih =>
            intro q
            have q : (if Nat.beq 0 x then true else vis set x f (Nat.land (Nat.sub 0 1) set)) = true := q
            split at q
            · rename_i z
              have := Nat.eq_of_beq_eq_true z
              omega
            · have e : Nat.land (Nat.sub 0 1) set = 0 := Nat.zero_and set
              rw [e] at q
              exact ih q
        have e : Nat.land (Nat.sub 0 1) set = 0 := Nat.zero_and set
        rw [e] at h
        exact absurd (this f h) id
      · rw [if_neg hs]
        exact mxM_ge h0 f _ _ h
theorem mxM_ub {t : Nat → Nat} {set B : Nat} : ∀ f s acc, s ≤ set → s &&& set = s → acc ≤ B → (∀ x, 0 < x → x ≤ set → x &&& set = x → t (set ^^^ (set &&& x)) + (if U x then 1 else 0) ≤ B) → mxM U t set f s acc ≤ B
  | 0, s, acc, _, _, h, _ => h
  | f + 1, s, acc, h1, h2, h3, h4 => by
    rw [mxM]
    split
    · exact h3
    · rename_i hs
      have := nxS_lt (set := set) (show 0 < s by omega)
      exact mxM_ub f _ _ (by omega) nxS_sub (Nat.max_le.mpr ⟨h3, h4 s (by omega) h1 h2⟩) h4
theorem trM_at {n s : Nat} (h : s < n) : trM U n s = trM U (s + 1) s := by
  induction n with
  | zero => exact absurd h (by omega)
  | succ n ih =>
    by_cases e : s = n
    · subst e
      rfl
    · show (if s = n then _ else trM U n s) = _
      rw [if_neg e]
      exact ih (by omega)
theorem trM_v {s : Nat} : trM U (s + 1) s = mxM U (trM U s) s 257 s 0 := by
  show (if s = s then _ else _) = _
  rw [if_pos rfl]
theorem trM_tau : ∀ s, s < 256 → trM U (s + 1) s = tau U s := by
  intro s
  induction s using Nat.strongRecOn with
  | ind s ih =>
    intro hs
    rw [trM_v]
    have key : ∀ x, 0 < x → x ≤ s → x &&& s = x → trM U s (s ^^^ (s &&& x)) = tau U (s ^^^ x) ∧ s ^^^ x < s := by
      intro x h0 h1 h2
      have hx := xor_lt256 s hs x (by omega) h0 h2
      rw [Nat.and_comm s x, h2, trM_at hx]
      exact ⟨ih _ hx (by omega), hx⟩
    apply Nat.le_antisymm
    · refine mxM_ub 257 s 0 (Nat.le_refl s) (Nat.and_self s) (Nat.zero_le _) (fun x h0 h1 h2 => ?_)
      obtain ⟨k1, k2⟩ := key x h0 h1 h2
      rw [k1]
      split
      · rename_i hu
        have := tau_ge hs h0 h2 hu
        omega
      · have := tau_mono (U := U) (s ^^^ x) (by omega) s hs (sub_xor h2)
        omega
    · refine tau_ub hs (fun j h1 h2 h3 => ?_)
      have hj := sub_le h2
      obtain ⟨k1, k2⟩ := key j h1 hj h2
      have : trM U s (s ^^^ (s &&& j)) + (if U j then 1 else 0) ≤ mxM U (trM U s) s 257 s 0 := mxM_ge (U := U) (t := trM U s) (set := s) (x := j) (by omega) 256 s 0 (vis_ok hs (by omega) (by omega) h2)
      rw [k1, if_pos h3] at this
      omega
theorem tra_eq {n s : Nat} (h : s < n) (hn : n ≤ 256) : tra U n s = trM U n s := by
  rw [tra_at h, trM_at h, trM_tau s (by omega)]
  rfl
/-! needed -/
theorem andF_bit {all j : Nat} : ∀ m, (andF U all m).testBit j = (all.testBit j && !canF U j m)
  | 0 => by
    show all.testBit j = (all.testBit j && !false)
    simp
  | m + 1 => by
    have ih := andF_bit (all := all) (j := j) m
    rw [andF, canF]
    cases hu : U m with
    | false =>
      rw [if_neg (by decide), ih]
      simp
    | true =>
      rw [if_pos rfl, Nat.testBit_and, ih]
      cases all.testBit j <;> cases canF U j m <;> cases m.testBit j <;> rfl
theorem ndF_bit {N j : Nat} : ∀ n, (ndF U N n).testBit j = (decide (j < n) && !canF U j N)
  | 0 => by
    show (0 : Nat).testBit j = _
    rw [Nat.zero_testBit]
    simp
  | n + 1 => by
    have ih := ndF_bit (N := N) (j := j) n
    rw [ndF, Nat.testBit_or, ih]
    by_cases e : j = n
    · subst e
      cases canF U j N with
      | false => simp [Nat.testBit_two_pow_self]
      | true => simp
    · have e1 : decide (j < n + 1) = decide (j < n) := by
        by_cases q : j < n
        · rw [decide_eq_true q, decide_eq_true (by omega)]
        · rw [decide_eq_false q, decide_eq_false (by omega)]
      rw [e1]
      split
      · simp
      · rw [Nat.testBit_two_pow_of_ne (fun q => e q.symm)]
        simp
theorem and_nd {n : Nat} : andF U (2 ^ n - 1) (2 ^ n) = ndF U (2 ^ n) n := by
  apply Nat.eq_of_testBit_eq
  intro j
  rw [andF_bit, ndF_bit, Nat.testBit_two_pow_sub_one]
end TR
theorem up_eq {D : Nat → Nat} (hn : D 2 ≤ 8) (x : Int32) : upM D x = upF D x := by
  have hp := pw_le (D 2) (by omega)
  have hp1 := Nat.two_pow_pos (D 2)
  unfold upM upF
  rw [and_nd, tra_eq (by omega) hp]
