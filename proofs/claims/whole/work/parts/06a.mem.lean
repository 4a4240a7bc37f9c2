/-! THE MACHINE'S HEAP HOLDS THE MEMORY. Object i lies at B + i; constants lie where cv says. -/
def tr (B : Nat) (cv : Nat → Value) (v : Value) : Value := match v with
  | .ref r => if r < 1000000 then .ref (B + r) else cv r
  | v => v
theorem tr_int {B : Nat} {cv : Nat → Value} (x : Int32) : tr B cv (.int x) = .int x := rfl
theorem tr_long {B : Nat} {cv : Nat → Value} (x : Int64) : tr B cv (.long x) = .long x := rfl
theorem tr_null {B : Nat} {cv : Nat → Value} : tr B cv .null = .null := rfl
theorem tr_ref {B : Nat} {cv : Nat → Value} {r : Nat} (h : r < 1000000) : tr B cv (.ref r) = .ref (B + r) := if_pos h
theorem tr_con {B : Nat} {cv : Nat → Value} {r : Nat} (h : 1000000 ≤ r) : tr B cv (.ref r) = cv r := if_neg (Nat.not_lt.mpr h)
theorem tr_cat {B : Nat} {cv : Nat → Value} (hcv : ∀ r, cv r = .null ∨ ∃ a, cv r = .ref a) (v : Value) : (tr B cv v).category = v.category := by
  cases v with
  | ref r =>
    unfold tr
    dsimp only
    split
    · rfl
    · rcases hcv r with h | ⟨a, h⟩ <;> rw [h] <;> rfl
  | _ => rfl
theorem tr_rf {B : Nat} {cv : Nat → Value} {q : Option Nat} (h : ∀ a, q = some a → a < 1000000) : tr B cv (va_rf q) = va_rf (q.map (fun a => B + a)) := by
  cases q with
  | none => rfl
  | some a => exact tr_ref (h a rfl)
/-- the type of a row by its kind -/
def tyK (kd : Nat) : FieldType := match kd with
  | 50 => .int
  | 51 => .byte
  | 52 => .boolean
  | 53 => .long
  | 54 => .object "GriefTram$Line"
  | 55 => .object "GriefTram$Ride"
  | 56 => .object "GriefTram$Flow"
  | 57 => .object "GriefTram$Sight"
  | _ => .object "GriefTram$Told"
def TYS (cy : Nat → ClassId) : List (ClassId × FieldType) := [(cy 50, tyK 50), (cy 51, tyK 51), (cy 52, tyK 52), (cy 53, tyK 53), (cy 54, tyK 54), (cy 55, tyK 55), (cy 56, tyK 56), (cy 57, tyK 57), (cy 58, tyK 58)]
theorem TYS_at (cy : Nat → ClassId) {kd : Nat} (h1 : 50 ≤ kd) (h2 : kd ≤ 58) : (TYS cy)[kd - 50]? = some (cy kd, tyK kd) := by
  rcases (show kd = 50 ∨ kd = 51 ∨ kd = 52 ∨ kd = 53 ∨ kd = 54 ∨ kd = 55 ∨ kd = 56 ∨ kd = 57 ∨ kd = 58 by omega) with h | h | h | h | h | h | h | h | h <;> subst h <;> rfl
/-- what a field holds, and a place of a row -/
def fv (B : Nat) (M : Mm) (i c k : Nat) : Value := match fk c k with
  | some 2 => .long (M.2.2.1 i k)
  | some 3 => va_rf ((M.2.2.2 i k).map (fun a => B + a))
  | _ => .int (M.2.1 i k)
def av (B : Nat) (M : Mm) (i kd j : Nat) : Value := if kd = 53 then .long (M.2.2.1 i j) else if 54 ≤ kd then va_rf ((M.2.2.2 i j).map (fun a => B + a)) else .int (M.2.1 i j)
def cellOK (D : va_G) (cy : Nat → ClassId) (B : Nat) (M : Mm) (H : Heap) (i kd n : Nat) : Prop :=
  (kd < 13 ∧ n = szf kd ∧ t_OB (B + i) (D.1 kd) (szf kd) (D.2 kd) H (fun k => fv B M i kd k)) ∨
  ((50 ≤ kd ∧ kd ≤ 58) ∧ H[B + i]? = some (arrV (cy kd) n (fun j => av B M i kd j)) ∧ (kd = 51 → ∀ j, fits .byte (.int (M.2.1 i j)) = true))
def MW (D : va_G) (cy : Nat → ClassId) (B : Nat) (M : Mm) (H : Heap) : Prop :=
  H.size = B + M.1.length ∧ M.1.length ≤ 999999 ∧ (∀ i k a, M.2.2.2 i k = some a → a < 1000000) ∧ ∀ i kd n, M.1[i]? = some (kd, n) → cellOK D cy B M H i kd n
theorem MW.lt {D : va_G} {cy : Nat → ClassId} {B : Nat} {M : Mm} {H : Heap} (h : MW D cy B M H) {i : Nat} {q : Nat × Nat} (e : M.1[i]? = some q) : i < 1000000 := by
  have h1 := (List.getElem?_eq_some_iff.mp e).1
  have := h.2.1
  omega
theorem MW.none {D : va_G} {cy : Nat → ClassId} {B : Nat} {M : Mm} {H : Heap} (h : MW D cy B M H) {i : Nat} (e : 1000000 ≤ i) : M.1[i]? = none := by
  apply List.getElem?_eq_none
  have := h.2.1
  omega
/-- a class's object -/
theorem MW.obj {D : va_G} {cy : Nat → ClassId} {B : Nat} {M : Mm} {H : Heap} (h : MW D cy B M H) {i c n : Nat} (e : M.1[i]? = some (c, n)) (hc : c < 13) : t_OB (B + i) (D.1 c) (szf c) (D.2 c) H (fun k => fv B M i c k) := by
  rcases h.2.2.2 i c n e with ⟨-, -, h3⟩ | ⟨⟨h1, -⟩, -⟩
  · exact h3
  · omega
theorem MW.row {D : va_G} {cy : Nat → ClassId} {B : Nat} {M : Mm} {H : Heap} (h : MW D cy B M H) {i kd n : Nat} (e : M.1[i]? = some (kd, n)) (hk : 50 ≤ kd) : kd ≤ 58 ∧ H[B + i]? = some (arrV (cy kd) n (fun j => av B M i kd j)) ∧ (kd = 51 → ∀ j, fits .byte (.int (M.2.1 i j)) = true) := by
  rcases h.2.2.2 i kd n e with ⟨h1, -⟩ | ⟨⟨-, h2⟩, h3⟩
  · omega
  · exact ⟨h2, h3⟩
theorem cellOK.kept {D : va_G} {cy : Nat → ClassId} {B : Nat} {M M' : Mm} {H H' : Heap} {i kd n : Nat} (h : cellOK D cy B M H i kd n) (hH : H'[B + i]? = H[B + i]?) (h1 : ∀ k, M'.2.1 i k = M.2.1 i k) (h2 : ∀ k, M'.2.2.1 i k = M.2.2.1 i k) (h3 : ∀ k, M'.2.2.2 i k = M.2.2.2 i k) : cellOK D cy B M' H' i kd n := by
  have e1 : (fun k => fv B M' i kd k) = (fun k => fv B M i kd k) := by
    funext k
    unfold fv
    rw [h1, h2, h3]
  have e2 : (fun j => av B M' i kd j) = (fun j => av B M i kd j) := by
    funext k
    unfold av
    rw [h1, h2, h3]
  rcases h with ⟨a1, a2, a3⟩ | ⟨a1, a2, a3⟩
  · refine Or.inl ⟨a1, a2, ?_⟩
    rw [e1]
    exact a3.kept hH
  · refine Or.inr ⟨a1, ?_, fun q j => ?_⟩
    · rw [hH, e2]
      exact a2
    · rw [h1]
      exact a3 q j
/-- one cell is written -/
theorem MW.put {D : va_G} {cy : Nat → ClassId} {B : Nat} {M M' : Mm} {H H' : Heap} {i kd n : Nat} (h : MW D cy B M H) (hT : M'.1 = M.1) (e : M.1[i]? = some (kd, n)) (z : H'.size = H.size) (oq : ∀ q, q ≠ B + i → H'[q]? = H[q]?)
    (h1 : ∀ a, a ≠ i → M'.2.1 a = M.2.1 a) (h2 : ∀ a, a ≠ i → M'.2.2.1 a = M.2.2.1 a) (h3 : ∀ a, a ≠ i → M'.2.2.2 a = M.2.2.2 a) (hr : ∀ k a, M'.2.2.2 i k = some a → a < 1000000) (hc : cellOK D cy B M' H' i kd n) : MW D cy B M' H' := by
  refine ⟨by rw [z, hT]; exact h.1, by rw [hT]; exact h.2.1, fun a k b hb => ?_, fun j kj nj ej => ?_⟩
  · by_cases ha : a = i
    · subst ha
      exact hr k b hb
    · rw [h3 a ha] at hb
      exact h.2.2.1 a k b hb
  · rw [hT] at ej
    by_cases ha : j = i
    · subst ha
      rw [e] at ej
      cases ej
      exact hc
    · exact (h.2.2.2 j kj nj ej).kept (oq _ (by omega)) (fun k => by rw [h1 j ha]) (fun k => by rw [h2 j ha]) (fun k => by rw [h3 j ha])
/-- a new cell -/
theorem MW.push {D : va_G} {cy : Nat → ClassId} {B : Nat} {M M' : Mm} {H H' : Heap} {kd n r : Nat} (h : MW D cy B M H) (hn : nw M kd n = some (r, M')) (z : H'.size = H.size + 1) (oq : ∀ q, q < H.size → H'[q]? = H[q]?) (hc : cellOK D cy B M' H' r kd n) : MW D cy B M' H' ∧ r = M.1.length ∧ B + r = H.size := by
  unfold nw at hn
  split at hn
  · rename_i hq
    cases hn
    have hsz := h.1
    refine ⟨⟨?_, ?_, fun a k b hb => ?_, fun j kj nj ej => ?_⟩, rfl, hsz.symm⟩
    · rw [z, hsz]
      simp
      omega
    · simp
      omega
    · by_cases ha : a = M.1.length
      · simp [up1, ha] at hb
      · simp [up1, ha] at hb
        exact h.2.2.1 a k b hb
    · by_cases hj : j < M.1.length
      · have ej' : M.1[j]? = some (kj, nj) := by
          rw [← ej]
          exact (List.getElem?_append_left hj).symm
        refine (h.2.2.2 j kj nj ej').kept (oq _ (by omega)) (fun k => ?_) (fun k => ?_) (fun k => ?_) <;> (dsimp only [up1]; rw [if_neg (by omega)])
      · have hj2 : j = M.1.length := by
          have := (List.getElem?_eq_some_iff.mp ej).1
          simp at this
          omega
        subst hj2
        simp at ej
        obtain ⟨e1, e2⟩ := ej
        subst e1
        subst e2
        exact hc
  · cases hn
def ssum (T : List (Nat × Nat)) : Nat := (T.map fun q => q.2).sum
theorem ssum_push (T : List (Nat × Nat)) (q : Nat × Nat) : ssum (T ++ [q]) = ssum T + q.2 := by simp [ssum]
theorem nw_len {M M' : Mm} {kd n r : Nat} (h : nw M kd n = some (r, M')) : M'.1 = M.1 ++ [(kd, n)] := by
  unfold nw at h
  split at h
  · cases h; rfl
  · cases h
/-- the classes by their numbers -/
theorem cls_at {c : Nat} (h : c < 13) : vwCl[c]? = some (CN c, FT c, szf c) := by
  rcases (show c = 0 ∨ c = 1 ∨ c = 2 ∨ c = 3 ∨ c = 4 ∨ c = 5 ∨ c = 6 ∨ c = 7 ∨ c = 8 ∨ c = 9 ∨ c = 10 ∨ c = 11 ∨ c = 12 by omega) with h | h | h | h | h | h | h | h | h | h | h | h | h <;> subst h <;> rfl
