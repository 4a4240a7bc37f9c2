/-! the reference: text put -/
section MTS
variable {C : Ct} {M M1 : Mm} {s : Sg} {m so : Nat} {E : Nat → Int}
theorem pt_q {X : Nat → Nat → Int32} (q : RMq M M1 s) (hso : so < 4) (hm : m < 2) (hmc : m ≤ s.ct so) (hE : EOs so E) (T : TDm M1 E) (p1 : ∀ i, i ≠ 104 + so → X i = up2 M1.2.1 103 so (nI (max (s.ct so) (m + 1))) i) (p2 : ∀ j, j < wdN so → X (104 + so) (wdN so * m + j) = M1.2.1 108 j) (p3 : ∀ j, j < wdN so * m ∨ wdN so * m + wdN so ≤ j → X (104 + so) j = M1.2.1 (104 + so) j) : RMq M (M1.1, X, M1.2.2.1, M1.2.2.2) (ptF s so m E) := by
  obtain ⟨q1, q2, q3, q4⟩ := q
  have g : ∀ i, i ≠ 103 → i ≠ 104 + so → X i = M1.2.1 i := fun i a b => (p1 i b).trans (up2_ne a)
  have wd : wdN so ≤ 121 := by unfold wdN; split <;> (try split) <;> (try split) <;> omega
  refine ⟨q1.tr ⟨⟨rfl, rfl⟩, fun i hi => ⟨g i (by omega) (by omega), rfl⟩⟩, q2.pt hm hmc hE ⟨?_, ?_, ?_⟩ (fun i => ?_) ?_ (fun i hi hn => ?_) (fun p hp hn => g _ (by omega) (by omega)) (fun j hj => (p2 j hj).trans (T j (by omega))) p3, q3.tr (fun k hk h0 => ?_), (g 130 (by decide) (by omega)).trans q4⟩
  · exact congrFun (g 100 (by decide) (by omega)) 0
  · exact congrFun (g 101 (by decide) (by omega)) 0
  · exact congrFun (g 102 (by decide) (by omega)) 0
  · exact congrFun (g 99 (by decide) (by omega)) i
  · exact (congrFun (p1 103 (by omega)) so).trans up2_s
  · exact (congrFun (p1 103 (by omega)) i).trans (up2_o (fun z => hn z.2) rfl)
  · have g3 : ∀ i, i < 4 → X 103 (4 * k + i) = M1.2.1 103 (4 * k + i) := fun i hi => (congrFun (p1 103 (by omega)) _).trans (up2_o (by omega) rfl)
    have a : ∀ {p w t : Nat}, p < 4 → (p = so → wdN so = w) → 2 * w = t → ∀ i, i < t → X (104 + p) (t * k + i) = M1.2.1 (104 + p) (t * k + i) := fun {p w t} hp hw ht i hi => by
      by_cases z : p = so
      · subst z
        refine p3 _ (Or.inr ?_)
        rw [hw rfl]
        have e1 : w * m ≤ w * 1 := Nat.mul_le_mul_left w (by omega)
        have e2 : t * 1 ≤ t * k := Nat.mul_le_mul_left t (by omega)
        omega
      · exact congrFun (g _ (by omega) (by omega)) _
    exact ⟨⟨congrFun (g 100 (by decide) (by omega)) k, congrFun (g 101 (by decide) (by omega)) k, congrFun (g 102 (by decide) (by omega)) k⟩, fun i _ => Or.inl (congrFun (g 99 (by decide) (by omega)) _), g3, a (p := 0) (w := 39) (by decide) (fun z => by rw [← z]; rfl) rfl, a (p := 1) (w := 121) (by decide) (fun z => by rw [← z]; rfl) rfl, a (p := 2) (w := 25) (by decide) (fun z => by rw [← z]; rfl) rfl, a (p := 3) (w := 32) (by decide) (fun z => by rw [← z]; rfl) rfl⟩
end MTS
