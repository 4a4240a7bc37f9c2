theorem dec_of {pm : PM} (hm : pm ∈ PGL) {pc len : Nat} {ins : Instr} (he : (pc, ins, len) ∈ pm.2.2.2.2.2.2.2.2) : decode pm.2.1 pc = .ok (ins, len) := by
  have h := PGL_dec pm hm
  rw [List.all_eq_true] at h
  have h1 := h _ he
  rw [decide_eq_true_iff] at h1
  exact h1
theorem len_of {pm : PM} (hm : pm ∈ PGL) {pc len : Nat} {ins : Instr} (he : (pc, ins, len) ∈ pm.2.2.2.2.2.2.2.2) : lenOK ins len = true := by
  have h := PGL_len pm hm
  rw [List.all_eq_true] at h
  exact h _ he
theorem put_of {pm : PM} (hm : pm ∈ PGL) {pc len : Nat} {ins : Instr} (he : (pc, ins, len) ∈ pm.2.2.2.2.2.2.2.2) : pO1 pm ins = true := pO1_of (PGL_put pm hm) he
set_option maxHeartbeats 1000000 in
theorem SW_step {C : Ct} {n : Nat} (ih : SW C n) : SW C (n + 1) := by
  intro y pm g v Mf hy hev p l e R s s0 m args below meth c H locs cells slots D cy cv M0 ls mc ms hB hA hW hl hR
  have hev : evB C (ev C n) y g = some (v, Mf) := hev
  have hmem := List.mem_of_getElem? hy
  obtain ⟨pc, lv, ll, st, M⟩ := g
  dsimp only at hW hl ⊢
  unfold evB at hev
  rw [hy] at hev
  dsimp only at hev
  split at hev
  · cases hev
  · rename_i ins len hlk
    have hin := lookup_mem _ hlk
    have hdec : decode pm.2.1 pc = .ok (ins, len) := dec_of hmem hin
    have hp1 : pO1 pm ins = true := put_of hmem hin
    have hlen : lenOK ins len = true := len_of hmem hin
    split at hev
    · -- a return
      rename_i hret
      split at hev
      · rename_i v' hrt
        cases hev
        obtain ⟨hx, hb, hr, hml, hown, hts, hlocks, hini, hwarm, hlow, hsz⟩ := hA
        have hc1 : cells = mc := by have := hW.2.2.1; have := hR.2.2.1; omega
        have hc2 : slots = ms := by have := hW.2.2.2; have := hR.2.2.2; omega
        have hq : ∀ (w : Option Value), w = v.map (tr s0.heap.size cv) → ∀ t : State, t.heap = H → s.WarmedH t.vm → Qv D cy cv s0 v Mf args s (.returned w) t := by
          intro w hw t ht _
          exact ⟨by rw [hw], by rw [ht]; exact hW.1, hW.2.1.F ht⟩
        have hf : ∀ q ∈ locs, Af s0 q.base := hW.2.1.2.2
        rw [← hc1, ← hc2]
        unfold rtn at hrt
        split at hrt
        · rename_i x t hret2
          split at hrt
          · rename_i hn
            cases hrt
            have e : len = 1 := of_decide_eq_true hlen
            subst e
            exact W.zret hx hb (hr.trans hret2) hn (hq _ rfl) hf hdec hlocks
          · cases hrt
        · rename_i x hret2
          cases hrt
          have e : len = 1 := of_decide_eq_true hlen
          subst e
          exact W.lret hx hb (hr.trans hret2) (hq _ rfl) hf hdec hlocks
        · rename_i r t hret2
          cases hrt
          have e : len = 1 := of_decide_eq_true hlen
          subst e
          exact W.aret hx hb (hr.trans hret2) (Or.inl ⟨_, rfl⟩) (tr_refs hB.2.2.2.1 r) (hq _ rfl) hf hdec hlocks
        · rename_i t hret2
          cases hrt
          have e : len = 1 := of_decide_eq_true hlen
          subst e
          exact W.aret hx hb (hr.trans hret2) (Or.inl ⟨_, rfl⟩) (Or.inl rfl) (hq _ rfl) hf hdec hlocks
        · rename_i hret2
          cases hrt
          have e : len = 1 := of_decide_eq_true hlen
          subst e
          exact W.vret hx hb (hr.trans hret2) (hq _ rfl) hf hdec hlocks
        · cases hrt
      · cases hev
    · rename_i hnr
      split at hev
      · -- a call
        rename_i kd y' np hcall
        split at hev
        · cases hev
        · rename_i nm' by' mL' ret' oc dep' hl' fl' tb' hy'
          split at hev
          · rename_i hcond
            split at hev
            · cases hev
            · rename_i v' M1 hev1
              obtain ⟨⟨hdep, hnp⟩, hrc, h8, hfit⟩ := hcond
              have hg1 := ev_grow hev1
              have hg2 := ev_grow hev
              dsimp only at hg1 hg2
              obtain ⟨ix, pp, hlk2, hkind⟩ := callOf_some hcall
              have hm := nl_lk hlk2 hy'
              have hml18 := (mF_rest hm).2.2.2.1
              have hl3 : len = 3 := by
                rcases hkind with ⟨rfl, -⟩ | ⟨rfl, -⟩ | ⟨rfl, -⟩ <;> exact of_decide_eq_true hlen
              subst hl3
              have hM := SW.met ih (l := l) hB hy' hm hfit hev1
              have hst : (st.take (npop kd np)).reverse.reverse ++ st.drop (npop kd np) = st := by
                rw [List.reverse_reverse]
                exact List.take_append_drop _ _
              dsimp only at hml18
              have hfr : dep' + 1 ≤ R.frames := Nat.le_trans hdep hR.1.1
              have hlo : 37 * (dep' + 1) ≤ R.locals := Nat.le_trans (Nat.mul_le_mul_left 37 hdep) hR.1.2
              have hloc : 8 + (mL' + 11) + 37 * dep' ≤ R.locals := by omega
              have hRc := hR.2
              obtain ⟨a, hrun⟩ := W_run (p := p) (l := l) (e := e) (R := R) (below := below) (ls := ls) hB hA hW hl.1.1 hm hM ⟨hfr, hloc⟩ ⟨by have := hW.2.2.1; omega, by have := hW.2.2.2; omega⟩ hy' hcall hdec hrc (by rw [List.length_reverse, List.length_take]; omega) h8
              rw [hst] at hrun
              refine W_call hrun hW (by omega) (by omega) (fun H1 locs1 hW1 => ?_)
              have k := ih y pm _ v Mf hy hev p l e R s s0 m args below meth c H1 locs1 _ _ D cy cv M0 ls mc ms hB hA hW1 hl hR
              have hs : (v'.toList ++ st.drop (npop kd np)).map (tr s0.heap.size cv) = (v'.map (tr s0.heap.size cv)).toList ++ (st.drop (npop kd np)).map (tr s0.heap.size cv) := by
                rw [List.map_append]
                cases v' <;> rfl
              dsimp only at k
              rw [hs] at k
              exact k
          · cases hev
      · split at hev
        · cases hev
        · rename_i g' hst
          have hg2 := ev_grow hev
          refine SP_all ins len hlen p l e R s s0 m args below meth c H locs cells slots _ D cy cv C pm M0 M pc ls lv ll st g' hB hA hdec hp1 hst hW hl ⟨hR.1.1, hR.1.2, by have := hR.2; omega, by have := hR.2; omega⟩ ?_
          intro H' locs' cells' slots' ls' hW' hl'
          exact ih y pm g' v Mf hy hev p l e R s s0 m args below meth c H' locs' cells' slots' D cy cv M0 ls' mc ms hB hA hW' hl' hR
theorem SW_all (C : Ct) : ∀ n, SW C n
  | 0 => fun y pm g v Mf hy hev => by cases hev
  | n + 1 => SW_step (SW_all C n)
