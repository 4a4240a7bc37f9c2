/-! new cells, rows of references, the JDK's own members -/
theorem nw_zero {M M' : Mm} {kd n r : Nat} (h : nw M kd n = some (r, M')) : r = M.1.length ∧ (M'.2.1 r = fun _ => 0) ∧ (M'.2.2.1 r = fun _ => 0) ∧ (M'.2.2.2 r = fun _ => none) ∧ n ≤ 100000 := by
  unfold nw at h
  split at h
  · rename_i hq
    cases h
    exact ⟨rfl, by simp [up1], by simp [up1], by simp [up1], hq.2⟩
  · cases h
theorem Wd.push {D : va_G} {cy : Nat → ClassId} {s0 s : State} {M0 M M' : Mm} {H H' : Heap} {locs : List Loc} {cells slots kd n r : Nat} (hW : Wd D cy s0 s M0 H locs cells slots M) (hn : nw M kd n = some (r, M')) (z : H'.size = H.size + 1) (oq : ∀ q, q < H.size → H'[q]? = H[q]?) (hc : cellOK D cy s0.heap.size M' H' r kd n) :
    Wd D cy s0 s M0 H' locs (cells + 1) (slots + n) M' := by
  obtain ⟨h1, h2, h3⟩ := hW.1.push hn z oq hc
  have e := nw_len hn
  refine ⟨h1, ⟨Nat.le_trans hW.2.1.1 (by omega), fun q g1 g2 => ?_, hW.2.1.2.2⟩, ?_, ?_⟩
  · rw [oq q (Nat.lt_of_lt_of_le g1 hW.2.1.1)]
    exact hW.2.1.2.1 q g1 g2
  · rw [e]
    have := hW.2.2.1
    simp
    omega
  · rw [e, ssum_push]
    have := hW.2.2.2
    omega
theorem MW.size_r {D : va_G} {cy : Nat → ClassId} {B : Nat} {M M' : Mm} {H : Heap} {kd n r : Nat} (h : MW D cy B M H) (hn : nw M kd n = some (r, M')) : H.size = B + r := by
  rw [(nw_zero hn).1]
  exact h.1
theorem RO.cells {pm : PM} {R : Room} {M0 M M' : Mm} {kd n r pc : Nat} {lv : Lv} {ll : Ll} {st : List Value} {cells slots : Nat} (hn : nw M kd n = some (r, M')) (hR : RO pm R M0 (pc, lv, ll, st, M')) (h1 : cells + M0.1.length = M.1.length) (h2 : slots + ssum M0.1 = ssum M.1) : cells + 1 ≤ R.cells ∧ slots + n ≤ R.slots := by
  obtain ⟨-, -, g1, g2⟩ := hR
  dsimp only at g1 g2
  rw [nw_len hn] at g1 g2
  rw [ssum_push] at g2
  simp at g1
  dsimp only at g2
  constructor <;> omega
def atK (t : ArrayType) : Nat := match t with
  | .int => 50
  | .byte => 51
  | .boolean => 52
  | _ => 53
section NW
variable {p : Program} {l : Launch} {e : Env} {R : Room} {s s0 : State} {m : MethodId} {args : Array Value} {below : List Frame} {meth : Method} {c : Code} {H : Heap} {locs : List Loc} {cells slots : Nat} {Q : State → Prop} {D : va_G} {cy : Nat → ClassId} {cc : ByteArray} {M0 M M' : Mm} {pc : Nat} {ls : Array Slot} {rest : List Value}
theorem W_newa (hx : p.tables.exec = Jvm.exec) (hb : c.code = cc) {t : ArrayType} {ty : FieldType} {kd : Nat} (hty : newarray.typeOf t = ty) (hkd : 50 ≤ kd ∧ kd < 54) (harr : (Cond.arrayClass ty).before args s = true) (hfc : s.vm.findClass ("[" ++ ty.toString) = some (cy kd)) (hW : Wd D cy s0 s M0 H locs cells slots M) {n : Int32} {r : Nat} (hn0 : ¬ n < 0) (hn : nw M kd n.toNatClampNeg = some (r, M')) (hcb : componentBytes ty ≤ 8)
    (hdef : defaultValue ty = if kd = 53 then .long 0 else .int 0) (hc : cells + 1 ≤ R.cells ∧ slots + n.toNatClampNeg ≤ R.slots) (hdg : decode cc pc = .ok (.newarray t, 2))
    (kk : ∀ (H' : Heap), Wd D cy s0 s M0 H' locs (cells + 1) (slots + n.toNatClampNeg) M' → W p l e R s m args below meth c H' locs (cells + 1) (slots + n.toNatClampNeg) Q (F0 m (pc + 2) ls (.ref (s0.heap.size + r) :: rest))) : W p l e R s m args below meth c H locs cells slots Q (F0 m pc ls (.int n :: rest)) := by
  subst hty
  obtain ⟨z0, z1, z2, z3, z4⟩ := nw_zero hn
  have hs := hW.1.size_r hn
  refine va_newaK hx hb harr rfl hdg rfl hn0 rfl (Nat.le_trans (Nat.mul_le_mul z4 hcb) (by decide)) hc.1 hc.2 hs fun H' cA e1 zz oq hAr hNm => ?_
  have hcA : cA = cy kd := Option.some.inj (hNm.symm.trans hfc)
  subst hcA
  refine kk H' (hW.push hn (by rw [zz, hs]) (fun q h => oq q (by rw [← hs]; exact h)) (Or.inr ⟨⟨hkd.1, by omega⟩, ?_, fun _ j => ?_⟩))
  · rw [e1]
    congr 2
    funext j
    unfold av
    rw [hdef, z1, z2]
    by_cases h : kd = 53
    · rw [if_pos h, if_pos h]
    · rw [if_neg h, if_neg h, if_neg (by omega)]
  · rw [z1]
    rfl
end NW
theorem q_newarray (t : ArrayType) : SP (.newarray t) 2 := by
  intro p l e R s s0 m args below meth c H locs cells slots Q D cy cv C pm M0 M pc ls lv ll st g hB hA hd hp hs hW hl hR k
  obtain ⟨hx, hb, hr, hml, hown, hts, hlocks, hini, hwarm, hlow, hsz⟩ := hA
  have hK := hB.K hwarm
  simp only [stp] at hs
  split at hs
  · rename_i n rest
    split at hs
    · cases hs
    · rename_i hn0
      split at hs
      · rename_i kd hkd
        split at hs
        · rename_i r M' hn
          cases hs
          have hc := RO.cells hn hR hW.2.2.1 hW.2.2.2
          have hr : r < 1000000 := by
            rw [(nw_zero hn).1]
            have := hW.1.2.1
            omega
          have kk : ∀ (H' : Heap), Wd D cy s0 s M0 H' locs (cells + 1) (slots + n.toNatClampNeg) M' → W p l e R s m args below meth c H' locs (cells + 1) (slots + n.toNatClampNeg) Q (F0 m (pc + 2) ls (.ref (s0.heap.size + r) :: rest.map (tr s0.heap.size cv))) := by
            intro H' hW'
            have k2 : W p l e R s m args below meth c H' locs (cells + 1) (slots + n.toNatClampNeg) Q (F0 m (pc + 2) ls (tr s0.heap.size cv (.ref r) :: rest.map (tr s0.heap.size cv))) := k _ _ _ _ _ hW' hl
            rw [tr_ref hr] at k2
            exact k2
          cases t <;> first | (cases hkd; done) | skip
          all_goals cases hkd
          · exact W_newa hx hb (ty := .boolean) rfl (by omega) (hts _ (bgd_in (isW_in (p := 2150) (by decide +kernel)) rfl)) (hK.2 2 _ rfl).2 hW hn0 hn (by decide) rfl hc hd kk
          · exact W_newa hx hb (ty := .byte) rfl (by omega) (hts _ (bgd_in (isW_in (p := 1105) (by decide +kernel)) rfl)) (hK.2 1 _ rfl).2 hW hn0 hn (by decide) rfl hc hd kk
          · exact W_newa hx hb (ty := .int) rfl (by omega) (hts _ (bgd_in (isW_in (p := 1106) (by decide +kernel)) rfl)) (hK.2 0 _ rfl).2 hW hn0 hn (by decide) rfl hc hd kk
          · exact W_newa hx hb (ty := .long) rfl (by omega) (hts _ (bgd_in (isW_in (p := 7025) (by decide +kernel)) rfl)) (hK.2 3 _ rfl).2 hW hn0 hn (by decide) rfl hc hd kk
        · cases hs
      · cases hs
  · cases hs
theorem kdR_ty {c kd : Nat} (h : kdR c = some kd) : (54 ≤ kd ∧ kd ≤ 58) ∧ c < 13 ∧ tyK kd = .object (CN c) ∧ cmp kd = some c := by
  unfold kdR at h
  split at h <;> cases h <;> exact ⟨⟨by decide, by decide⟩, by decide, rfl, rfl⟩
theorem cmp_ty {c kd : Nat} (h : cmp kd = some c) : (54 ≤ kd ∧ kd ≤ 58) ∧ c < 13 ∧ tyK kd = .object (CN c) := by
  unfold cmp at h
  split at h <;> cases h <;> exact ⟨⟨by decide, by decide⟩, by decide, rfl⟩
theorem q_anewarray (ix : Nat) : SP (.anewarray ix) 3 := by
  intro p l e R s s0 m args below meth c H locs cells slots Q D cy cv C pm M0 M pc ls lv ll st g hB hA hd hp hs hW hl hR k
  obtain ⟨hx, hb, hr, hml, hown, hts, hlocks, hini, hwarm, hlow, hsz⟩ := hA
  have hK := hB.K hwarm
  simp only [stp] at hs
  split at hs
  · rename_i n rest
    split at hs
    · cases hs
    · rename_i hn0
      split at hs
      · rename_i kd hkd
        split at hs
        · rename_i r M' hn
          cases hs
          have hc := RO.cells hn hR hW.2.2.1 hW.2.2.2
          obtain ⟨z0, z1, z2, z3, z4⟩ := nw_zero hn
          have hr : r < 1000000 := by
            rw [z0]
            have := hW.1.2.1
            omega
          obtain ⟨ci, hlk, hci⟩ := Option.bind_eq_some_iff.mp hkd
          obtain ⟨hk1, hk2, hk3, -⟩ := kdR_ty hci
          have hno := nOK_lk hlk
          simp only [nOK, decide_eq_true_eq] at hno
          have hs := hW.1.size_r hn
          have hAO : va_AO (CN ci) s := (hB.2.2.1 ci kd hci).moved hwarm.alike
          refine W.anew hx hb hown (hts _ (bgd_in hno rfl)) (va_AO.use hAO) rfl hd rfl hn0 (Nat.le_trans (Nat.mul_le_mul_right 4 z4) (by decide)) hc.1 hc.2 fun cA kA comp f1 f2 f3 f4 => ?_
          have hra := (hK.2 (kd - 50) _ (TYS_at cy (by omega) hk1.2)).2
          dsimp only at hra
          rw [hk3] at hra
          obtain ⟨_, _, -, -, -, h4⟩ := hra
          have hcA : cA = cy kd := Option.some.inj (f1.symm.trans h4)
          subst hcA
          have k2 := k (H.push { cls := cy kd, slots := Array.replicate n.toNatClampNeg .null, vm := .none }) locs (cells + 1) (slots + n.toNatClampNeg) ls (hW.push hn (by rw [Array.size_push]) (fun q h => by rw [Array.getElem?_push, if_neg (Nat.ne_of_lt h)]) (Or.inr ⟨⟨by omega, hk1.2⟩, ?_, fun q => absurd q (by omega)⟩)) hl
          · have k3 : W p l e R s m args below meth c (H.push { cls := cy kd, slots := Array.replicate n.toNatClampNeg .null, vm := .none }) locs (cells + 1) (slots + n.toNatClampNeg) Q (F0 m (pc + 3) ls (tr s0.heap.size cv (.ref r) :: rest.map (tr s0.heap.size cv))) := k2
            rw [tr_ref hr, ← hs] at k3
            exact k3
          · rw [← hs, Array.getElem?_push_size, arrV_new]
            congr 2
            funext j
            unfold av
            rw [if_neg (by omega), if_pos hk1.1, z3]
            rfl
        · cases hs
      · cases hs
  · cases hs
theorem q_new (ix : Nat) : SP (.new ix) 3 := by
  intro p l e R s s0 m args below meth c H locs cells slots Q D cy cv C pm M0 M pc ls lv ll st g hB hA hd hp hs hW hl hR k
  obtain ⟨hx, hb, hr, hml, hown, hts, hlocks, hini, hwarm, hlow, hsz⟩ := hA
  have hK := hB.K hwarm
  simp only [stp] at hs
  split at hs
  · rename_i ci hlk
    split at hs
    · rename_i hci
      split at hs
      · rename_i r M' hn
        cases hs
        have hc := RO.cells hn hR hW.2.2.1 hW.2.2.2
        obtain ⟨z0, z1, z2, z3, z4⟩ := nw_zero hn
        have hr : r < 1000000 := by
          rw [z0]
          have := hW.1.2.1
          omega
        have hno := nOK_lk hlk
        simp only [nOK, decide_eq_true_eq] at hno
        have hs := hW.1.size_r hn
        obtain ⟨hi1, hi2⟩ := cls_inst hci
        have hKn := hK.1 ci _ (cls_at hci)
        refine W.newcK hx hb hown (hts _ (bgd_in hno rfl)) (hts _ (bgd_in hi1 rfl)) (hts _ (bgd_in hi2 rfl)) rfl hd hc.1 hc.2 hKn.2.1 hs fun H1 kC hkC e1 zz oq => ?_
        have hob := (u_born (Fty ci) hts (cls_ws hci) hKn hkC e1 (cls_ty hci)).to (V' := fun k => fv s0.heap.size M' r ci k) (fun k hk => ?_)
        · have k3 : W p l e R s m args below meth c H1 locs (cells + 1) (slots + szf ci) Q (F0 m (pc + 3) ls (tr s0.heap.size cv (.ref r) :: st.map (tr s0.heap.size cv))) :=
            k H1 locs (cells + 1) (slots + szf ci) ls (hW.push hn (by rw [zz, hs]) (fun q h => oq q (by rw [← hs]; exact h)) (Or.inl ⟨hci, rfl, hob⟩)) hl
          rw [tr_ref hr] at k3
          exact k3
        · obtain ⟨hfk, hok⟩ := cls_fk hci k hk
          unfold fv
          rw [hfk, z1, z2, z3]
          revert hok
          cases Fty ci k <;> simp [kdT, okT, defaultValue, va_rf]
      · cases hs
    · cases hs
  · cases hs
theorem q_aastore : SP .aastore 1 := by
  intro p l e R s s0 m args below meth c H locs cells slots Q D cy cv C pm M0 M pc ls lv ll st g hB hA hd hp hs hW hl hR k
  obtain ⟨hx, hb, hr, hml, hown, hts, hlocks, hini, hwarm, hlow, hsz⟩ := hA
  have hK := hB.K hwarm
  simp only [stp] at hs
  split at hs
  · rename_i a j r rest
    split at hs
    · rename_i kd n kc nc hT hTa
      split at hs
      · rename_i hin
        cases hs
        obtain ⟨⟨hkc, hcmp⟩, hin⟩ := hin
        obtain ⟨hk1, hk2, hk3⟩ := cmp_ty hcmp
        show W p l e R s m args below meth c H locs cells slots Q (F0 m pc ls (tr s0.heap.size cv (.ref a) :: .int j :: tr s0.heap.size cv (.ref r) :: rest.map (tr s0.heap.size cv)))
        rw [tr_ref (hW.1.lt hT), tr_ref (hW.1.lt hTa)]
        have hlt : j.toNatClampNeg < n := Nat.not_le.mp fun q => hin (Or.inr q)
        have h0 : ¬ j < 0 := fun q => hin (Or.inl q)
        obtain ⟨cellV, g1, g2, g3, -⟩ := hW.1.obj hTa hk2
        have hcls := (hK.1 kc _ (cls_at hk2)).2
        have hra := (hK.2 (kd - 50) _ (TYS_at cy (by omega) hk1.2)).2
        dsimp only at hra
        rw [hk3] at hra
        obtain ⟨kA, comp, k1, k2, k3, -⟩ := hra
        have hcomp : comp = D.1 kc := Option.some.inj (k3.symm.trans hcls.1)
        subst hcomp
        obtain ⟨kC, hkC, -⟩ := hcls.2
        have hrow := hW.1.row hT (by omega)
        refine W.aast hx hb hrow.2.1 (fun q h => by cases h) (fun h => by cases h) k1 k2 rfl hkC ⟨h0, by rw [arrV_size]; exact hlt⟩ g1 (fun q h => by rw [g3] at h; cases h) (by rw [g2]; exact hkC) (by rw [g2]; exact va_assign hcls) rfl rfl hd fun H1 e1 z oq => ?_
        rw [arrV_store] at e1
        refine k _ _ _ _ _ (hW.put hT rfl z oq (fun _ _ => rfl) (fun _ _ => rfl) (fun a h => up2_ne h) (up2_ref hW.1.2.2.1 (fun b h => by cases h; exact hW.1.lt hTa)) (Or.inr ⟨⟨by omega, hk1.2⟩, ?_, fun q => absurd q (by omega)⟩)) hl
        rw [e1]
        exact congrArg (fun z => some (arrV (cy kd) n z)) (av_upR hk1.1)
      · cases hs
    · cases hs
  · cases hs
