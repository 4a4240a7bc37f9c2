/-! every part of a set is met -/
noncomputable def vis (set x : Nat) (f : Nat) : Nat → Bool := Nat.rec (fun _ => false) (fun _ ih s => if Nat.beq s x then true else ih (Nat.land (Nat.sub s 1) set)) f
noncomputable def visAll (set : Nat) (m : Nat) : Bool := Nat.rec true (fun x ih => if Nat.beq x 0 then ih else if Nat.beq (Nat.land x set) x then (if vis set x 256 set then ih else false) else ih) m
noncomputable def visSets (m : Nat) : Bool := Nat.rec true (fun s ih => if visAll s 256 then ih else false) m
theorem vis_sets : visSets 256 = true := by decide +kernel
theorem visAll_of {set : Nat} : ∀ m, visAll set m = true → ∀ x, x < m → 0 < x → x &&& set = x → vis set x 256 set = true
  | 0, _, x, hx, _, _ => absurd hx (by omega)
  | m + 1, h, x, hx, h0, hs => by
    have h : (if Nat.beq m 0 then visAll set m else if Nat.beq (Nat.land m set) m then (if vis set m 256 set then visAll set m else false) else visAll set m) = true := h
    by_cases e : x = m
    · subst e
      rw [if_neg (fun q => by have := Nat.eq_of_beq_eq_true q; omega), if_pos (show Nat.beq (Nat.land x set) x = true from by rw [show Nat.land x set = x from hs]; exact Nat.beq_refl x)] at h
      split at h
      · assumption
      · cases h
    · refine visAll_of m ?_ x (by omega) h0 hs
      split at h
      · exact h
      · split at h
        · split at h
          · exact h
          · cases h
        · exact h
theorem visSets_of : ∀ m, visSets m = true → ∀ s, s < m → visAll s 256 = true
  | 0, _, s, hs => absurd hs (by omega)
  | m + 1, h, s, hs => by
    have h : (if visAll m 256 then visSets m else false) = true := h
    split at h
    · rename_i q
      by_cases e : s = m
      · subst e
        exact q
      · exact visSets_of m h s (by omega)
    · cases h
theorem vis_ok {set x : Nat} (h1 : set < 256) (h2 : x < 256) (h0 : 0 < x) (hs : x &&& set = x) : vis set x 256 set = true := visAll_of 256 (visSets_of 256 vis_sets set h1) x h2 h0 hs
