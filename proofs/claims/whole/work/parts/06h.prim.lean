/-! the JDK's members that are steps of their own -/
section CP
variable {p : Program} {l : Launch} {e : Env} {R : Room} {s s0 : State} {m : MethodId} {args : Array Value} {below : List Frame} {meth : Method} {c : Code} {H : Heap} {locs : List Loc} {cells slots : Nat} {Q : State → Prop} {D : va_G} {cy : Nat → ClassId} {cc : ByteArray} {M0 M : Mm} {pc : Nat} {ls : Array Slot}
theorem W_copy (hexec : p.tables.exec = Jvm.exec) (hb : c.code = cc) (hml : c.maxLocals = ls.size) {own : String} {index : Nat} (hown : s.vm.findClass own = some m.cls) (hlink : (Cond.methodLink own index arraycopyName).before args s = true) (hnat : (Cond.native arraycopyName).before args s = true) (hstat : (Cond.static arraycopyName).before args s = true) (hini : (Cond.initialized "java/lang/System").before args s = true)
    (hK : va_K D vwCl (TYS cy) s) (hW : Wd D cy s0 s M0 H locs cells slots M) {rs rd kd n0 n1 : Nat} (hT0 : M.1[rs]? = some (kd, n0)) (hT1 : M.1[rd]? = some (kd, n1)) (hkd : kd = 50 ∨ kd = 51)
    {sp dp n : Int32} (h1 : ¬ sp < 0) (h2 : ¬ dp < 0) (h3 : ¬ n < 0) (h4 : sp.toNatClampNeg + n.toNatClampNeg ≤ n0) (h5 : dp.toNatClampNeg + n.toNatClampNeg ≤ n1)
    (hframes : 1 ≤ R.frames) (hlocals : nativeFrameWords "java/lang/System" "arraycopy" 5 + 11 ≤ R.locals) (hdg : decode cc pc = .ok (.invokestatic index, 3))
    (kk : ∀ (H1 : Heap) (locs1 : List Loc), Wd D cy s0 s M0 H1 locs1 cells slots (M.1, up1 M.2.1 rd (va_cpy (M.2.1 rs) (M.2.1 rd) sp.toNatClampNeg dp.toNatClampNeg n.toNatClampNeg), M.2.2.1, M.2.2.2) → W p l e R s m args below meth c H1 locs1 cells slots Q (F0 m (pc + 3) ls [])) :
    W p l e R s m args below meth c H locs cells slots Q (F0 m pc ls [.int n, .int dp, .ref (s0.heap.size + rd), .int sp, .ref (s0.heap.size + rs)]) := by
  have nn : ∀ z : Int32, ¬ z < 0 → z.toInt = (z.toNatClampNeg : Int) := by
    intro z hz
    have hz0 : (0 : Int) ≤ z.toInt := by
      have := Int32.not_lt.mp hz
      simpa using Int32.le_iff_toInt_le.mp this
    show z.toInt = ((z.toInt.toNat : Nat) : Int)
    omega
  intro T hT X
  have hc0 : H[s0.heap.size + rs]? = some (vp_cell (cy kd) (n0, .inl (M.2.1 rs))) := hW.1.PI hT0 (by omega) (by omega) 0 _ rfl
  have hc1 : H[s0.heap.size + rd]? = some (vp_cell (cy kd) (n1, .inl (M.2.1 rd))) := hW.1.PI hT1 (by omega) (by omega) 0 _ rfl
  have hty := TYS_at cy (kd := kd) (by omega) (by omega)
  obtain ⟨-, k0, hk0, cm0, hkk0⟩ := (hK.2 _ _ hty).1 n0 (fun j => .int (M.2.1 rs j))
  obtain ⟨-, k1, hk1, cm1, hkk1⟩ := (hK.2 _ _ hty).1 n1 (fun j => .int (M.2.1 rd j))
  have hfit : ∀ i, fits (tyK kd) (.int (M.2.1 rs i)) = true := by
    intro i
    rcases hkd with h | h
    · subst h; rfl
    · subst h; exact (hW.1.row hT0 (by omega)).2.2 rfl i
  have hprim : refKind (tyK kd) = false := by rcases hkd with h | h <;> subst h <;> rfl
  obtain ⟨vm', X', step⟩ := X.arraycopy hexec hown hlink hnat hstat hini (src := s0.heap.size + rs) (dst := s0.heap.size + rd) (cs := vp_cell (cy kd) (n0, .inl (M.2.1 rs))) (cd := vp_cell (cy kd) (n1, .inl (M.2.1 rd))) (srcPos := sp) (destPos := dp) (n := n) (by rw [hT]; exact hc0) (by rw [hT]; exact hc1)
    (fun _ h => by cases h) (fun _ h => by cases h) (fun h => by cases h) (fun h => by cases h) hk0 hk1 hkk0 hkk1 (by simp [hprim]) h1 h2 h3
    (by rw [nn sp h1, nn n h3]; show ¬ _ > ((arrV (cy kd) n0 (fun j => .int (M.2.1 rs j))).slots.size : Int); rw [arrV_size]; omega)
    (by rw [nn dp h2, nn n h3]; show ¬ _ > ((arrV (cy kd) n1 (fun j => .int (M.2.1 rd j))).slots.size : Int); rw [arrV_size]; omega)
    (fun vm₁ _ i hi => by
      have e : (vp_cell (cy kd) (n0, .inl (M.2.1 rs))).slots.getD (sp.toNatClampNeg + i) .null = .int (M.2.1 rs (sp.toNatClampNeg + i)) := by
        show (arrV (cy kd) n0 (fun j => .int (M.2.1 rs j))).slots.getD _ _ = _
        rw [Array.getD_eq_getD_getElem?, arrV_read _ _ (by omega)]
        rfl
      refine ⟨?_, ?_⟩
      · rw [e]
        exact hfit _
      · rw [e]
        exact trivial)
    (g := F0 m pc ls [.int n, .int dp, .ref (s0.heap.size + rd), .int sp, .ref (s0.heap.size + rs)]) rfl (by rw [hml]) (rest := []) rfl (by rw [hb]; exact hdg) hframes (by show 2 * 0 + 0 + _ ≤ _; omega)
  have e1 : copied (vp_cell (cy kd) (n0, .inl (M.2.1 rs))) (vp_cell (cy kd) (n1, .inl (M.2.1 rd))) sp dp n = vp_cell (cy kd) (n1, .inl (va_cpy (M.2.1 rs) (M.2.1 rd) sp.toNatClampNeg dp.toNatClampNeg n.toNatClampNeg)) := va_copied (fun z => .int z) (cy kd) (cy kd) (M.2.1 rs) (M.2.1 rd) h4
  rw [e1] at X' step
  have hl : s0.heap.size + rd < H.size := (Array.getElem?_eq_some_iff.mp hc1).1
  generalize hcell : vp_cell (cy kd) (n1, .inl (va_cpy (M.2.1 rs) (M.2.1 rd) sp.toNatClampNeg dp.toNatClampNeg n.toNatClampNeg)) = cellN at X' step
  have hheap : ((T.setVm vm').setCell (s0.heap.size + rd) cellN).heap = H.setIfInBounds (s0.heap.size + rd) cellN := by rw [← hT]; rfl
  have oq : ∀ q : Nat, q ≠ s0.heap.size + rd → (H.setIfInBounds (s0.heap.size + rd) cellN)[q]? = H[q]? := fun q hq => by simp [Array.getElem?_setIfInBounds, Ne.symm hq]
  have hin : (H.setIfInBounds (s0.heap.size + rd) cellN)[s0.heap.size + rd]? = some cellN := by simp [Array.getElem?_setIfInBounds, hl]
  have hsz : (H.setIfInBounds (s0.heap.size + rd) cellN).size = H.size := by simp
  have hM := hW.1.put (M' := (M.1, up1 M.2.1 rd (va_cpy (M.2.1 rs) (M.2.1 rd) sp.toNatClampNeg dp.toNatClampNeg n.toNatClampNeg), M.2.2.1, M.2.2.2)) rfl hT1 hsz oq (fun a h => by simp [up1, h]) (fun _ _ => rfl) (fun _ _ => rfl) (fun k a h => hW.1.2.2.1 _ _ _ h) (Or.inr ⟨by omega, (by
      rw [hin, ← hcell]
      rw [vp_cell_i]
      congr 2
      funext j
      unfold av
      rw [if_neg (by omega), if_neg (by omega)]
      simp [up1]), fun q j => by
      have hb0 := (hW.1.row hT0 (by omega)).2.2 q
      have hb1 := (hW.1.row hT1 (by omega)).2.2 q
      simp only [up1, if_pos, va_cpy]
      split
      · exact hb0 _
      · exact hb1 _⟩)
  obtain ⟨t, a1, b1⟩ := kk _ _ ⟨hM, ⟨by rw [hsz]; exact hW.2.1.1, fun q g1 g2 => by
      rw [oq q (fun e => g2 (by rw [e]; exact Nat.le_add_right _ _))]
      exact hW.2.1.2.1 q g1 g2, fun q hq => by
      rcases List.mem_append.mp hq with h | h
      · exact hW.2.1.2.2 q h
      · obtain ⟨z, -, hz⟩ := List.mem_map.mp h
        rw [← hz]
        exact Nat.le_add_right _ _⟩, hW.2.2.1, hW.2.2.2⟩ _ hheap X'
  exact ⟨t, step t a1, b1⟩
end CP
theorem RO.le {pm : PM} {R : Room} {M0 M : Mm} {pc : Nat} {lv : Lv} {ll : Ll} {st : List Value} {cells slots : Nat} (hR : RO pm R M0 (pc, lv, ll, st, M)) (h1 : cells + M0.1.length = M.1.length) (h2 : slots + ssum M0.1 = ssum M.1) : cells ≤ R.cells ∧ slots ≤ R.slots := by
  obtain ⟨-, -, g1, g2⟩ := hR
  dsimp only at g1 g2
  constructor <;> omega
theorem map_cat {B : Nat} {cv : Nat → Value} (hcv : ∀ r, cv r = .null ∨ ∃ a, cv r = .ref a) (st : List Value) : ((st.map (tr B cv)).map fun v => v.category) = st.map fun v => v.category := by
  rw [List.map_map]
  apply List.map_congr_left
  intro v _
  exact tr_cat hcv v
theorem q_invokestatic (ix : Nat) : SP (.invokestatic ix) 3 := by
  intro p l e R s s0 m args below meth c H locs cells slots Q D cy cv C pm M0 M pc ls lv ll st g hB hA hd hp hs hW hl hR k
  obtain ⟨hx, hb, hr, hml, hown, hts, hlocks, hini, hwarm, hlow, hsz⟩ := hA
  have hK := hB.K hwarm
  simp only [stp] at hs
  split at hs
  · cases hs
  · rename_i kk y np pos hlk
    have hok := cOK_lk hlk
    simp only [pO1, hlk, decide_eq_true_eq] at hp
    have hmls : c.maxLocals = ls.size := by rw [hml, hl.1.1]
    split at hs
    · rename_i h6
      subst h6
      have hdep1 : 1 ≤ pm.2.2.2.2.2.1 := by omega
      have hdep : 1 ≤ R.frames := Nat.le_trans hdep1 hR.1
      have hlo : 37 ≤ R.locals := Nat.le_trans (Nat.le_trans (by decide) (Nat.mul_le_mul_left 37 hdep1)) hR.2.1
      unfold cOK at hok
      rw [if_pos rfl] at hok
      split at hs
      · rename_i n dp d sp s'
        split at hs
        · rename_i k0 n0 k1 n1 hT0 hT1
          split at hs
          · rename_i hc
            cases hs
            obtain ⟨⟨rfl, hkd⟩, ⟨h1, h2, h3⟩, h4, h5⟩ := hc
            show W p l e R s m args below meth c H locs cells slots Q (F0 m pc ls [.int n, .int dp, tr s0.heap.size cv (.ref d), .int sp, tr s0.heap.size cv (.ref s')])
            rw [tr_ref (hW.1.lt hT0), tr_ref (hW.1.lt hT1)]
            exact W_copy hx hb hmls hown (hts _ (bgd_in (isW_in hok) rfl)) (hts _ (bgd_in (isW_in (p := 3191) (by decide +kernel)) rfl)) (hts _ (bgd_in (isW_in (p := 3190) (by decide +kernel)) rfl)) (hts _ (bgd_in (isW_in (p := 1019) (by decide +kernel)) rfl)) hK hW hT0 hT1 hkd h1 h2 h3 h4 h5 hdep (Nat.le_trans (show _ ≤ 37 by decide) hlo) hd (fun H1 locs1 hW' => k _ _ _ _ _ hW' hl)
          · cases hs
        · cases hs
      · cases hs
    · rename_i n6
      split at hs
      · rename_i h7
        subst h7
        have hdep1 : 1 ≤ pm.2.2.2.2.2.1 := by omega
        have hdep : 1 ≤ R.frames := Nat.le_trans hdep1 hR.1
        have hlo : 37 ≤ R.locals := Nat.le_trans (Nat.le_trans (by decide) (Nat.mul_le_mul_left 37 hdep1)) hR.2.1
        unfold cOK at hok
        rw [if_neg (by decide), if_pos rfl] at hok
        split at hs
        · rename_i y x r
          split at hs
          · rename_i hsum
            cases hs
            have hc := RO.le hR hW.2.2.1 hW.2.2.2
            exact va_mmax hx hb hmls hown (hts _ (bgd_in (isW_in hok) rfl)) (hts _ (bgd_in (isW_in (p := 3011) (by decide +kernel)) rfl)) (hts _ (bgd_in (isW_in (p := 1014) (by decide +kernel)) rfl)) (hts _ (bgd_in (isW_in (p := 3012) (by decide +kernel)) rfl)) hdep (by rw [map_cat hB.2.2.2.1]; omega) hc.1 hc.2 hd (k _ _ _ _ _ hW hl)
          · cases hs
        · cases hs
      · split at hs
        · rename_i h8
          subst h8
          have hdep1 : 1 ≤ pm.2.2.2.2.2.1 := by omega
          have hdep : 1 ≤ R.frames := Nat.le_trans hdep1 hR.1
          have hlo : 37 ≤ R.locals := Nat.le_trans (Nat.le_trans (by decide) (Nat.mul_le_mul_left 37 hdep1)) hR.2.1
          unfold cOK at hok
          rw [if_neg (by decide), if_neg (by decide), if_pos rfl] at hok
          split at hs
          · rename_i y x r
            split at hs
            · rename_i hsum
              cases hs
              have hc := RO.le hR hW.2.2.1 hW.2.2.2
              exact va_mmin hx hb hmls hown (hts _ (bgd_in (isW_in hok) rfl)) (hts _ (bgd_in (isW_in (p := 3008) (by decide +kernel)) rfl)) (hts _ (bgd_in (isW_in (p := 1014) (by decide +kernel)) rfl)) (hts _ (bgd_in (isW_in (p := 3009) (by decide +kernel)) rfl)) hdep (by rw [map_cat hB.2.2.2.1]; omega) hc.1 hc.2 hd (k _ _ _ _ _ hW hl)
            · cases hs
          · cases hs
        · split at hs
          · rename_i h9
            subst h9
            have hdep1 : 1 ≤ pm.2.2.2.2.2.1 := by omega
            have hdep : 1 ≤ R.frames := Nat.le_trans hdep1 hR.1
            have hlo : 37 ≤ R.locals := Nat.le_trans (Nat.le_trans (by decide) (Nat.mul_le_mul_left 37 hdep1)) hR.2.1
            unfold cOK at hok
            rw [if_neg (by decide), if_neg (by decide), if_neg (by decide), if_pos rfl] at hok
            split at hs
            · rename_i x r
              split at hs
              · rename_i hsum
                cases hs
                have hc := RO.le hR hW.2.2.1 hW.2.2.2
                exact va_mabs hx hb hmls hown (hts _ (bgd_in (isW_in hok) rfl)) (hts _ (bgd_in (isW_in (p := 5216) (by decide +kernel)) rfl)) (hts _ (bgd_in (isW_in (p := 1014) (by decide +kernel)) rfl)) (hts _ (bgd_in (isW_in (p := 5217) (by decide +kernel)) rfl)) hdep (by rw [map_cat hB.2.2.2.1]; omega) hc.1 hc.2 hd (k _ _ _ _ _ hW hl)
              · cases hs
            · cases hs
          · cases hs
theorem q_invokespecial (ix : Nat) : SP (.invokespecial ix) 3 := by
  intro p l e R s s0 m args below meth c H locs cells slots Q D cy cv C pm M0 M pc ls lv ll st g hB hA hd hp hs hW hl hR k
  obtain ⟨hx, hb, hr, hml, hown, hts, hlocks, hini, hwarm, hlow, hsz⟩ := hA
  simp only [stp] at hs
  split at hs
  · cases hs
  · rename_i kk y np pos hlk
    have hok := cOK_lk hlk
    simp only [pO1, hlk, decide_eq_true_eq] at hp
    split at hs
    · rename_i h10
      subst h10
      have hdep1 : 1 ≤ pm.2.2.2.2.2.1 := by omega
      have hdep : 1 ≤ R.frames := Nat.le_trans hdep1 hR.1
      have hlo : 37 ≤ R.locals := Nat.le_trans (Nat.le_trans (by decide) (Nat.mul_le_mul_left 37 hdep1)) hR.2.1
      unfold cOK at hok
      rw [if_neg (by decide), if_neg (by decide), if_neg (by decide), if_neg (by decide), if_pos rfl] at hok
      split at hs
      · rename_i a r
        split at hs
        · rename_i hsum
          cases hs
          show W p l e R s m args below meth c H locs cells slots Q (F0 m pc ls (tr s0.heap.size cv (.ref a) :: r.map (tr s0.heap.size cv)))
          rw [tr_ref hsum.2]
          exact W.objInit hx hb hown (hts _ (bgd_in (isW_in hok) rfl)) (hts _ (bgd_in (isW_in (p := 1027) (by decide +kernel)) rfl)) (hts _ (bgd_in (isW_in (p := 1028) (by decide +kernel)) rfl)) rfl (by rw [hml]; exact hl.1.1) rfl hd hdep (by
            show 2 * 0 + ((r.map (tr s0.heap.size cv)).map fun v => v.category).sum + 12 ≤ _
            rw [map_cat hB.2.2.2.1]
            omega) (k _ _ _ _ _ hW hl)
        · cases hs
      · cases hs
    · cases hs
