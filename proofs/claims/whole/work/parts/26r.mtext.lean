/-! the reference: text read -/
section MTR
variable {C : Ct} {M H M1 : Mm} {s : Sg} {n so : Nat} {t : Nat → Int}
theorem rd_q {w : Option Value} (q : RMq M H (txE s (0, 0))) (r : RTq t n so H w M1) : RMq M M1 (txE s (rdF t n so).1) := by
  obtain ⟨q1, ⟨⟨h1, h2, h3⟩, ht, hc, hL, hP, hF, hZ⟩, q3, q4⟩ := q
  obtain ⟨_, rF, r1, r2, _, r4⟩ := r
  have g : ∀ i, i ≠ 98 → i ∉ RTo → M1.2.1 i = H.2.1 i := fun i a b => (rF.2.1 i a b).1
  refine ⟨q1.tr ⟨rF.1, fun i hi => rF.2.1 i (by omega) (by unfold RTo; simp; omega)⟩, ?_, q3.tr (fun k hk h0 => ?_), (g 130 (by decide) (by decide)).trans q4⟩
  · unfold MSl
    rw [g 99 (by decide) (by decide), g 100 (by decide) (by decide), g 103 (by decide) (by decide), g 104 (by decide) (by decide), g 105 (by decide) (by decide), g 106 (by decide) (by decide), g 107 (by decide) (by decide)]
    exact ⟨⟨h1, r1, r2⟩, ht, hc, hL, hP, hF, hZ⟩
  · unfold MQk
    rw [g 99 (by decide) (by decide), g 100 (by decide) (by decide), g 103 (by decide) (by decide), g 104 (by decide) (by decide), g 105 (by decide) (by decide), g 106 (by decide) (by decide), g 107 (by decide) (by decide)]
    exact ⟨⟨rfl, (r4 k h0).1, (r4 k h0).2⟩, fun _ _ => Or.inl rfl, fun _ _ => rfl, fun _ _ => rfl, fun _ _ => rfl, fun _ _ => rfl, fun _ _ => rfl⟩
end MTR
