theorem q_ldc (i : Nat) : SP (.ldc i) 2 := by
  intro p l e R s s0 m args below meth c H locs cells slots Q D cy cv C pm M0 M pc ls lv ll st g hB hA hd hp hs hW hl hR k
  obtain ⟨hx, hb, hr, hml, hown, hts, hlocks, hini, hwarm, hlow, hsz⟩ := hA
  have hK := hB.K hwarm
  simp only [stp] at hs
  obtain ⟨w, hw, rfl⟩ := push_some hs
  have kk : W p l e R s m args below meth c H locs cells slots Q (F0 m (pc + 2) ls (tr s0.heap.size cv w :: st.map (tr s0.heap.size cv))) := k H locs cells slots ls hW hl
  have hok := xOK_lk hw
  cases w with
  | int x =>
    simp only [xOK, decide_eq_true_eq] at hok
    exact lv_ldc hx hb hown (hts _ (bgd_in hok rfl)) hd kk
  | ref r =>
    simp only [xOK, Bool.and_eq_true, decide_eq_true_eq] at hok
    obtain ⟨ho, hrr, hix⟩ := hok
    obtain ⟨j, rfl⟩ : ∃ j : Nat, r = 1000000 + j := ⟨r - 1000000, (Nat.add_sub_of_le hrr.1).symm⟩
    obtain ⟨t, h1, h2, h3, h4, h5⟩ := hB.2.2.2.2.2.2 j (Nat.lt_of_add_lt_add_left hrr.2)
    rw [tr_con hrr.1, h1] at kk
    rw [Nat.add_sub_cancel_left] at hix
    rw [hix] at h5
    rw [ho] at hown
    exact va_ldcS hx hb hown (h5.warm hwarm) hd kk
  | _ => cases hok
theorem q_ldc_w (i : Nat) : SP (.ldc_w i) 3 := by
  intro p l e R s s0 m args below meth c H locs cells slots Q D cy cv C pm M0 M pc ls lv ll st g hB hA hd hp hs hW hl hR k
  obtain ⟨hx, hb, hr, hml, hown, hts, hlocks, hini, hwarm, hlow, hsz⟩ := hA
  have hK := hB.K hwarm
  simp only [stp] at hs
  split at hs
  · rename_i x hw
    obtain ⟨w, hw2, rfl⟩ := push_some hs
    cases hw2
    have hok := xOK_lk hw
    simp only [xOK, decide_eq_true_eq] at hok
    exact lv_ldcw hx hb hown (hts _ (bgd_in hok rfl)) hd (k _ _ _ _ _ hW hl)
  · cases hs
theorem q_ldc2_w (i : Nat) : SP (.ldc2_w i) 3 := by
  intro p l e R s s0 m args below meth c H locs cells slots Q D cy cv C pm M0 M pc ls lv ll st g hB hA hd hp hs hW hl hR k
  obtain ⟨hx, hb, hr, hml, hown, hts, hlocks, hini, hwarm, hlow, hsz⟩ := hA
  have hK := hB.K hwarm
  simp only [stp] at hs
  obtain ⟨w, hw, rfl⟩ := push_some hs
  cases hq : lk KLL pm.2.2.2.2.1 i with
  | none => rw [hq] at hw; cases hw
  | some x =>
    rw [hq] at hw
    cases hw
    have hok := kOK_lk hq
    simp only [kOK, decide_eq_true_eq] at hok
    exact lv_ldc2 hx hb hown (hts _ (bgd_in hok rfl)) hd (k _ _ _ _ _ hW hl)
theorem q_getstatic (i : Nat) : SP (.getstatic i) 3 := by
  intro p l e R s s0 m args below meth c H locs cells slots Q D cy cv C pm M0 M pc ls lv ll st g hB hA hd hp hs hW hl hR k
  obtain ⟨hx, hb, hr, hml, hown, hts, hlocks, hini, hwarm, hlow, hsz⟩ := hA
  have hK := hB.K hwarm
  simp only [stp] at hs
  obtain ⟨w, hw, rfl⟩ := push_some hs
  have kk : W p l e R s m args below meth c H locs cells slots Q (F0 m (pc + 3) ls (tr s0.heap.size cv w :: st.map (tr s0.heap.size cv))) := k H locs cells slots ls hW hl
  have hok := tOK_lk hw
  obtain ⟨q, hq, hq2⟩ := List.any_eq_true.mp hok
  simp only [Bool.and_eq_true, decide_eq_true_eq] at hq2
  have hZ := hB.2.2.2.2.1 q hq
  rw [hq2.1] at hZ
  exact va_gets hx hb ((hZ.moved hwarm.alike).kept (low_kept hlow)) hW.2.1 hown (hts _ (bgd_in hq2.2 rfl)) (fun _ h => h) hd kk
/-- an array of the memory or a constant one, to the machine -/
theorem ar_some {C : Ct} {M : Mm} {r kd n : Nat} {f : Nat → Int32} (h : ar C M r = some (kd, n, f)) : (M.1[r]? = some (kd, n) ∧ f = M.2.1 r) ∨ (M.1[r]? = none ∧ C r = some (kd, n, f)) := by
  unfold ar at h
  split at h
  · rename_i kd' n' hT
    cases h
    exact Or.inl ⟨hT, rfl⟩
  · rename_i hT
    exact Or.inr ⟨hT, h⟩
theorem q_iaload : SP .iaload 1 := by
  intro p l e R s s0 m args below meth c H locs cells slots Q D cy cv C pm M0 M pc ls lv ll st g hB hA hd hp hs hW hl hR k
  obtain ⟨hx, hb, hr, hml, hown, hts, hlocks, hini, hwarm, hlow, hsz⟩ := hA
  have hK := hB.K hwarm
  simp only [stp] at hs
  split at hs
  · rename_i j r rest
    split at hs
    · rename_i kd n f har
      split at hs
      · rename_i hin
        cases hs
        show W p l e R s m args below meth c H locs cells slots Q (F0 m pc ls (.int j :: tr s0.heap.size cv (.ref r) :: rest.map (tr s0.heap.size cv)))
        rcases ar_some har with ⟨hT, rfl⟩ | ⟨hT, hC⟩
        · rw [tr_ref (hW.1.lt hT)]
          have hP := hW.1.PI hT (by omega) (by omega)
          obtain ⟨rfl, hin⟩ := hin
          exact va_iald hx hb hK hP 0 0 rfl (TYS_at cy (kd := 50) (by omega) (by omega)) hin hd (k _ _ _ _ _ hW hl)
        · obtain ⟨h1, h2, t, h3, h4⟩ := hB.2.2.2.2.2.1 r kd n f hC
          rw [tr_con h1, h3]
          have hT0 := (h4.moved hwarm.alike).kept (low_kept hlow)
          obtain ⟨rfl, hin⟩ := hin
          exact va_ti hx hb hT0 hW.2.1 hin rfl hd (k _ _ _ _ _ hW hl)
      · cases hs
    · cases hs
  · cases hs
theorem q_baload : SP .baload 1 := by
  intro p l e R s s0 m args below meth c H locs cells slots Q D cy cv C pm M0 M pc ls lv ll st g hB hA hd hp hs hW hl hR k
  obtain ⟨hx, hb, hr, hml, hown, hts, hlocks, hini, hwarm, hlow, hsz⟩ := hA
  have hK := hB.K hwarm
  simp only [stp] at hs
  split at hs
  · rename_i j r rest
    split at hs
    · rename_i kd n f har
      split at hs
      · rename_i hin
        cases hs
        show W p l e R s m args below meth c H locs cells slots Q (F0 m pc ls (.int j :: tr s0.heap.size cv (.ref r) :: rest.map (tr s0.heap.size cv)))
        rcases ar_some har with ⟨hT, rfl⟩ | ⟨hT, hC⟩
        · rw [tr_ref (hW.1.lt hT)]
          have hP := hW.1.PI hT (by omega) (by omega)
          obtain ⟨rfl | rfl, hin⟩ := hin
          · exact va_bald hx hb hK hP 0 1 rfl (TYS_at cy (kd := 51) (by omega) (by omega)) hin hd (k _ _ _ _ _ hW hl)
          · exact va_zald hx hb hK hP 0 2 rfl (TYS_at cy (kd := 52) (by omega) (by omega)) hin hd (k _ _ _ _ _ hW hl)
        · obtain ⟨h1, h2, t, h3, h4⟩ := hB.2.2.2.2.2.1 r kd n f hC
          rw [tr_con h1, h3]
          have hT0 := (h4.moved hwarm.alike).kept (low_kept hlow)
          obtain ⟨rfl | rfl, hin⟩ := hin
          · exact va_tb hx hb hT0 hW.2.1 hin rfl hd (k _ _ _ _ _ hW hl)
          · omega
      · cases hs
    · cases hs
  · cases hs
theorem q_laload : SP .laload 1 := by
  intro p l e R s s0 m args below meth c H locs cells slots Q D cy cv C pm M0 M pc ls lv ll st g hB hA hd hp hs hW hl hR k
  obtain ⟨hx, hb, hr, hml, hown, hts, hlocks, hini, hwarm, hlow, hsz⟩ := hA
  have hK := hB.K hwarm
  simp only [stp] at hs
  split at hs
  · rename_i j r rest
    split at hs
    · rename_i kd n hT
      split at hs
      · rename_i hin
        cases hs
        show W p l e R s m args below meth c H locs cells slots Q (F0 m pc ls (.int j :: tr s0.heap.size cv (.ref r) :: rest.map (tr s0.heap.size cv)))
        obtain ⟨rfl, hin⟩ := hin
        rw [tr_ref (hW.1.lt hT)]
        exact va_lald hx hb hK (hW.1.PL hT) 0 3 rfl (TYS_at cy (kd := 53) (by omega) (by omega)) hin hd (k _ _ _ _ _ hW hl)
      · cases hs
    · cases hs
  · cases hs
theorem q_aaload : SP .aaload 1 := by
  intro p l e R s s0 m args below meth c H locs cells slots Q D cy cv C pm M0 M pc ls lv ll st g hB hA hd hp hs hW hl hR k
  obtain ⟨hx, hb, hr, hml, hown, hts, hlocks, hini, hwarm, hlow, hsz⟩ := hA
  have hK := hB.K hwarm
  simp only [stp] at hs
  split at hs
  · rename_i j r rest
    split at hs
    · rename_i kd n hT
      split at hs
      · rename_i hin
        cases hs
        show W p l e R s m args below meth c H locs cells slots Q (F0 m pc ls (.int j :: tr s0.heap.size cv (.ref r) :: rest.map (tr s0.heap.size cv)))
        obtain ⟨⟨h1, h2⟩, hin⟩ := hin
        rw [tr_ref (hW.1.lt hT)]
        have kk : W p l e R s m args below meth c H locs cells slots Q (F0 m (pc + 1) ls (tr s0.heap.size cv (va_rf (M.2.2.2 r j.toNatClampNeg)) :: rest.map (tr s0.heap.size cv))) := k H locs cells slots ls hW hl
        rw [tr_rf (fun a ha => hW.1.2.2.1 _ _ _ ha)] at kk
        obtain ⟨E, hE⟩ : ∃ E, tyK kd = .object E := by
          rcases (show kd = 54 ∨ kd = 55 ∨ kd = 56 ∨ kd = 57 ∨ kd = 58 by omega) with h | h | h | h | h <;> subst h <;> exact ⟨_, rfl⟩
        have ht := TYS_at cy (kd := kd) (by omega) h2
        rw [hE] at ht
        exact va_aldq hx hb hK (hW.1.PQ hT h1) 0 (kd - 50) rfl ht hin hd kk
      · cases hs
    · cases hs
  · cases hs
theorem q_arraylength : SP .arraylength 1 := by
  intro p l e R s s0 m args below meth c H locs cells slots Q D cy cv C pm M0 M pc ls lv ll st g hB hA hd hp hs hW hl hR k
  obtain ⟨hx, hb, hr, hml, hown, hts, hlocks, hini, hwarm, hlow, hsz⟩ := hA
  have hK := hB.K hwarm
  simp only [stp] at hs
  split at hs
  · rename_i r rest
    split at hs
    · rename_i kd n f har
      split at hs
      · rename_i hkd
        cases hs
        show W p l e R s m args below meth c H locs cells slots Q (F0 m pc ls (tr s0.heap.size cv (.ref r) :: rest.map (tr s0.heap.size cv)))
        rcases ar_some har with ⟨hT, rfl⟩ | ⟨hT, hC⟩
        · rw [tr_ref (hW.1.lt hT)]
          have ht := TYS_at cy hkd.1 hkd.2
          rcases (show kd < 53 ∨ kd = 53 ∨ 54 ≤ kd by omega) with h | h | h
          · exact va_alen hx hb hK (hW.1.PI hT hkd.1 h) 0 (kd - 50) rfl ht rfl hd (k _ _ _ _ _ hW hl)
          · subst h
            exact va_alen hx hb hK (hW.1.PL hT) 0 3 rfl ht rfl hd (k _ _ _ _ _ hW hl)
          · exact va_alen hx hb hK (hW.1.PQ hT h) 0 (kd - 50) rfl ht rfl hd (k _ _ _ _ _ hW hl)
        · obtain ⟨h1, h2, t, h3, h4⟩ := hB.2.2.2.2.2.1 r kd n f hC
          rw [tr_con h1, h3]
          exact va_tlen hx hb ((h4.moved hwarm.alike).kept (low_kept hlow)) hW.2.1 rfl hd (k _ _ _ _ _ hW hl)
      · cases hs
    · cases hs
  · cases hs
theorem av_upI {B : Nat} {M : Mm} {r kd i : Nat} {x : Int32} (h : kd < 53) : updV (fun j => av B M r kd j) i (.int x) = fun j => av B (M.1, up2 M.2.1 r i x, M.2.2.1, M.2.2.2) r kd j := by
  funext j
  have h1 : ¬ kd = 53 := by omega
  have h2 : ¬ 54 ≤ kd := by omega
  by_cases hj : j = i <;> simp [updV, av, h1, h2, up2, hj]
theorem av_upL {B : Nat} {M : Mm} {r i : Nat} {x : Int64} : updV (fun j => av B M r 53 j) i (.long x) = fun j => av B (M.1, M.2.1, up2 M.2.2.1 r i x, M.2.2.2) r 53 j := by
  funext j
  by_cases hj : j = i <;> simp [updV, av, up2, hj]
theorem av_upR {B : Nat} {M : Mm} {r kd i a : Nat} (h : 54 ≤ kd) : updV (fun j => av B M r kd j) i (.ref (B + a)) = fun j => av B (M.1, M.2.1, M.2.2.1, up2 M.2.2.2 r i (some a)) r kd j := by
  funext j
  have h1 : ¬ kd = 53 := by omega
  by_cases hj : j = i <;> simp [updV, av, h1, h, up2, hj, va_rf]
theorem q_iastore : SP .iastore 1 := by
  intro p l e R s s0 m args below meth c H locs cells slots Q D cy cv C pm M0 M pc ls lv ll st g hB hA hd hp hs hW hl hR k
  obtain ⟨hx, hb, hr, hml, hown, hts, hlocks, hini, hwarm, hlow, hsz⟩ := hA
  have hK := hB.K hwarm
  simp only [stp] at hs
  split at hs
  · rename_i x j r rest
    split at hs
    · rename_i kd n hT
      split at hs
      · rename_i hin
        cases hs
        show W p l e R s m args below meth c H locs cells slots Q (F0 m pc ls (.int x :: .int j :: tr s0.heap.size cv (.ref r) :: rest.map (tr s0.heap.size cv)))
        rw [tr_ref (hW.1.lt hT)]
        obtain ⟨rfl, hin⟩ := hin
        have hrow := hW.1.row hT (by omega)
        refine W.iast hx hb hrow.2.1 ((hK.2 _ _ (TYS_at cy (kd := 50) (by omega) (by omega))).1 n _) (fun q => by cases q) (by rw [arrV_size]; exact hin) rfl rfl hd fun H1 e1 z oq => ?_
        rw [arrV_store] at e1
        refine k _ _ _ _ _ (hW.put hT rfl z oq (fun a h => up2_ne h) (fun a h => rfl) (fun _ _ => rfl) (fun k a h => hW.1.2.2.1 _ _ _ h) (Or.inr ⟨⟨by omega, by omega⟩, ?_, ?_⟩)) hl
        · rw [e1]
          exact congrArg (fun z => some (arrV (cy 50) n z)) (av_upI (by omega))
        · exact fun q => absurd q (by omega)
      · cases hs
    · cases hs
  · cases hs
theorem q_lastore : SP .lastore 1 := by
  intro p l e R s s0 m args below meth c H locs cells slots Q D cy cv C pm M0 M pc ls lv ll st g hB hA hd hp hs hW hl hR k
  obtain ⟨hx, hb, hr, hml, hown, hts, hlocks, hini, hwarm, hlow, hsz⟩ := hA
  have hK := hB.K hwarm
  simp only [stp] at hs
  split at hs
  · rename_i x j r rest
    split at hs
    · rename_i kd n hT
      split at hs
      · rename_i hin
        cases hs
        show W p l e R s m args below meth c H locs cells slots Q (F0 m pc ls (.long x :: .int j :: tr s0.heap.size cv (.ref r) :: rest.map (tr s0.heap.size cv)))
        rw [tr_ref (hW.1.lt hT)]
        obtain ⟨rfl, hin⟩ := hin
        have hrow := hW.1.row hT (by omega)
        refine W.last hx hb hrow.2.1 ((hK.2 _ _ (TYS_at cy (kd := 53) (by omega) (by omega))).1 n _) (fun q => by cases q) (by rw [arrV_size]; exact hin) rfl rfl hd fun H1 e1 z oq => ?_
        rw [arrV_store] at e1
        refine k _ _ _ _ _ (hW.put hT rfl z oq (fun a h => rfl) (fun a h => up2_ne h) (fun _ _ => rfl) (fun k a h => hW.1.2.2.1 _ _ _ h) (Or.inr ⟨⟨by omega, by omega⟩, ?_, ?_⟩)) hl
        · rw [e1]
          exact congrArg (fun z => some (arrV (cy 53) n z)) av_upL
        · exact fun q => absurd q (by omega)
      · cases hs
    · cases hs
  · cases hs
theorem i8_fits (x : Int32) : fits .byte (.int x.toInt8.toInt32) = true := by
  simp only [fits, Bool.and_eq_true, decide_eq_true_eq]
  constructor
  · rw [Int32.le_iff_toInt_le, Int8.toInt_toInt32]
    exact Int8.le_toInt _
  · rw [Int32.le_iff_toInt_le, Int8.toInt_toInt32]
    have := Int8.toInt_lt x.toInt8
    show _ ≤ (127 : Int)
    omega
theorem q_bastore : SP .bastore 1 := by
  intro p l e R s s0 m args below meth c H locs cells slots Q D cy cv C pm M0 M pc ls lv ll st g hB hA hd hp hs hW hl hR k
  obtain ⟨hx, hb, hr, hml, hown, hts, hlocks, hini, hwarm, hlow, hsz⟩ := hA
  have hK := hB.K hwarm
  simp only [stp] at hs
  split at hs
  · rename_i x j r rest
    split at hs
    · rename_i kd n hT
      split at hs
      · rename_i hin
        cases hs
        show W p l e R s m args below meth c H locs cells slots Q (F0 m pc ls (.int x :: .int j :: tr s0.heap.size cv (.ref r) :: rest.map (tr s0.heap.size cv)))
        rw [tr_ref (hW.1.lt hT)]
        obtain ⟨hk | hk, hin⟩ := hin
        · subst hk
          rw [if_pos rfl] at k
          have hrow := hW.1.row hT (by omega)
          refine W.bast hx hb hrow.2.1 ((hK.2 _ _ (TYS_at cy (kd := 51) (by omega) (by omega))).1 n _) (fun q => by cases q) (by rw [arrV_size]; exact hin) rfl rfl hd fun H1 e1 z oq => ?_
          rw [arrV_store] at e1
          refine k _ _ _ _ _ (hW.put hT rfl z oq (fun a h => up2_ne h) (fun a h => rfl) (fun _ _ => rfl) (fun k a h => hW.1.2.2.1 _ _ _ h) (Or.inr ⟨⟨by omega, by omega⟩, ?_, ?_⟩)) hl
          · rw [e1]
            exact congrArg (fun z => some (arrV (cy 51) n z)) (av_upI (by omega))
          · intro _ q
            show fits .byte (.int (up2 M.2.1 r j.toNatClampNeg x.toInt8.toInt32 r q)) = true
            rw [up2_at]
            split
            · exact i8_fits x
            · exact hrow.2.2 rfl q
        · subst hk
          rw [if_neg (by decide)] at k
          have hrow := hW.1.row hT (by omega)
          refine W.zast hx hb hrow.2.1 ((hK.2 _ _ (TYS_at cy (kd := 52) (by omega) (by omega))).1 n _) (fun q => by cases q) (by rw [arrV_size]; exact hin) rfl rfl hd fun H1 e1 z oq => ?_
          rw [arrV_store] at e1
          refine k _ _ _ _ _ (hW.put hT rfl z oq (fun a h => up2_ne h) (fun a h => rfl) (fun _ _ => rfl) (fun k a h => hW.1.2.2.1 _ _ _ h) (Or.inr ⟨⟨by omega, by omega⟩, ?_, ?_⟩)) hl
          · rw [e1]
            exact congrArg (fun z => some (arrV (cy 52) n z)) (av_upI (by omega))
          · exact fun q => absurd q (by omega)
      · cases hs
    · cases hs
  · cases hs
