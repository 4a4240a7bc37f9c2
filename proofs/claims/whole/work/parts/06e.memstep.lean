/-! the steps that read and write the memory -/
theorem MW.P1 {D : va_G} {cy : Nat → ClassId} {B : Nat} {M : Mm} {H : Heap} (h : MW D cy B M H) {r ci n : Nat} (hT : M.1[r]? = some (ci, n)) (hci : ci < 13) : va_P D vwCl [(B + r, .inr (ci, (List.range (szf ci)).map (fun k => fv B M r ci k)))] H := by
  intro k q hq
  have hk : k = 0 := by
    have := (List.getElem?_eq_some_iff.mp hq).1
    simp at this
    omega
  subst hk
  cases hq
  refine ⟨_, cls_at hci, (h.obj hT hci).to (fun j hj => ?_)⟩
  show _ = ((List.range (szf ci)).map (fun k => fv B M r ci k)).getD j .null
  have hj' : j < szf ci := hj
  simp [hj']
theorem rng_at {N k : Nat} {f : Nat → Value} (hk : k < N) : ((List.range N).map f)[k]? = some (f k) := by simp [hk]
theorem va_P.one {D : va_G} {cl : List vw_C} {a : Nat} {e : va_E} {H : Heap} (h : va_at D cl (a, e) H) : va_P D cl [(a, e)] H := by
  intro k q hq
  have hk : k = 0 := by
    have := (List.getElem?_eq_some_iff.mp hq).1
    simp at this
    omega
  subst hk
  cases hq
  exact h
theorem MW.PI {D : va_G} {cy : Nat → ClassId} {B : Nat} {M : Mm} {H : Heap} (h : MW D cy B M H) {r kd n : Nat} (hT : M.1[r]? = some (kd, n)) (h1 : 50 ≤ kd) (h2 : kd < 53) : va_P D vwCl [(B + r, .inl (cy kd, n, .inl (M.2.1 r)))] H := by
  refine va_P.one ?_
  show H[B + r]? = some (arrV (cy kd) n (fun j => .int (M.2.1 r j)))
  rw [(h.row hT h1).2.1]
  congr 2
  funext j
  unfold av
  rw [if_neg (by omega), if_neg (by omega)]
theorem MW.PL {D : va_G} {cy : Nat → ClassId} {B : Nat} {M : Mm} {H : Heap} (h : MW D cy B M H) {r n : Nat} (hT : M.1[r]? = some (53, n)) : va_P D vwCl [(B + r, .inl (cy 53, n, .inr (.inl (M.2.2.1 r))))] H := by
  refine va_P.one ?_
  show H[B + r]? = some (arrV (cy 53) n (fun j => .long (M.2.2.1 r j)))
  rw [(h.row hT (by omega)).2.1]
  congr 2
theorem MW.PQ {D : va_G} {cy : Nat → ClassId} {B : Nat} {M : Mm} {H : Heap} (h : MW D cy B M H) {r kd n : Nat} (hT : M.1[r]? = some (kd, n)) (h1 : 54 ≤ kd) : va_P D vwCl [(B + r, .inl (cy kd, n, .inr (.inr (.inr (.inr (fun j => (M.2.2.2 r j).map (fun a => B + a)))))))] H := by
  refine va_P.one ?_
  show H[B + r]? = some (arrV (cy kd) n (fun j => va_rf ((M.2.2.2 r j).map (fun a => B + a))))
  rw [(h.row hT (by omega)).2.1]
  congr 2
  funext j
  unfold av
  rw [if_neg (by omega), if_pos h1]
theorem Wd.put {D : va_G} {cy : Nat → ClassId} {s0 s : State} {M0 M M' : Mm} {H H' : Heap} {locs : List Loc} {cells slots : Nat} (hW : Wd D cy s0 s M0 H locs cells slots M) {r kd n j : Nat} (hT : M.1[r]? = some (kd, n)) (e1 : M'.1 = M.1) (z : H'.size = H.size) (oq : ∀ q, q ≠ s0.heap.size + r → H'[q]? = H[q]?)
    (h1 : ∀ a, a ≠ r → M'.2.1 a = M.2.1 a) (h2 : ∀ a, a ≠ r → M'.2.2.1 a = M.2.2.1 a) (h3 : ∀ a, a ≠ r → M'.2.2.2 a = M.2.2.2 a) (hr : ∀ k a, M'.2.2.2 r k = some a → a < 1000000) (hc : cellOK D cy s0.heap.size M' H' r kd n) : Wd D cy s0 s M0 H' (locs ++ [⟨s0.heap.size + r, j⟩]) cells slots M' :=
  ⟨hW.1.put e1 hT z oq h1 h2 h3 hr hc, hW.2.1.put z oq (Nat.le_add_right _ _), by rw [e1]; exact hW.2.2.1, by rw [e1]; exact hW.2.2.2⟩
section MS
variable {p : Program} {l : Launch} {e : Env} {R : Room} {s s0 : State} {m : MethodId} {args : Array Value} {below : List Frame} {meth : Method} {c : Code} {H : Heap} {locs : List Loc} {cells slots : Nat} {Q : State → Prop} {D : va_G} {cy : Nat → ClassId} {cc : ByteArray} {M0 M M' : Mm} {pc : Nat} {ls : Array Slot} {rest : List Value}
theorem W_put (hx : p.tables.exec = Jvm.exec) (hb : c.code = cc) {own : String} (hts : ∀ w ∈ BGD, w.before args s = true) (hown : s.vm.findClass own = some m.cls) (hK : va_K D vwCl (TYS cy) s) (hW : Wd D cy s0 s M0 H locs cells slots M) {r ci n k ix : Nat} (hT : M.1[r]? = some (ci, n)) (hci : ci < 13) (hk : k < szf ci)
    (hlink : Cond.fieldLink own ix (CN ci) (FT ci k).2.1 (FT ci k).2.2.1 ∈ lw_tbl) (hfin : (FT ci k).2.2.2 = true → meth.name = "<init>" ∧ CN ci = own) {v : Value} (hn : narrow (Fty ci k) v = v) (hfit : fits (Fty ci k) v = true)
    (e1 : M'.1 = M.1) (h1 : ∀ a, a ≠ r → M'.2.1 a = M.2.1 a) (h2 : ∀ a, a ≠ r → M'.2.2.1 a = M.2.2.1 a) (h3 : ∀ a, a ≠ r → M'.2.2.2 a = M.2.2.2 a) (hr : ∀ k a, M'.2.2.2 r k = some a → a < 1000000) (hv : ∀ j, j < szf ci → updV (fun k => fv s0.heap.size M r ci k) k v j = fv s0.heap.size M' r ci j)
    (hdg : decode cc pc = .ok (.putfield ix, 3)) (kk : ∀ (H' : Heap) (locs' : List Loc), Wd D cy s0 s M0 H' locs' cells slots M' → W p l e R s m args below meth c H' locs' cells slots Q (F0 m (pc + 3) ls rest)) : W p l e R s m args below meth c H locs cells slots Q (F0 m pc ls (v :: .ref (s0.heap.size + r) :: rest)) := by
  have hc := cls_at hci
  have hap := va_apart (own := own) hts (cls_ws hci) (Fty ci) (cls_ty hci) (cls_nm hci) hK hc
  have hnn : n = szf ci := by
    rcases hW.1.2.2.2 r ci n hT with ⟨-, q, -⟩ | ⟨⟨q, -⟩, -⟩
    · exact q
    · omega
  obtain ⟨cell, q1, q2, q3, q4⟩ := hW.1.obj hT hci
  obtain ⟨hS, hfc, kC, hkC, hkind⟩ := hK.1 ci _ hc
  obtain ⟨cf, kf, fi, f, hi, hsl⟩ := hS k hk
  have hlay := hts _ (cls_ws hci _ (u_in_lay hk))
  have hst := (u_facts hfc hkC (u_lays hts (cls_ws hci) hk) hi).1
  have own1 : (FT ci k).1 = CN ci := cls_own hci k hk
  have hi' : s.fieldFound? (CN ci) (FT ci k).2.1 (FT ci k).2.2.1 = some (cf, kf, fi, f) := by rw [← own1]; exact hi
  have fin : ∀ H' : Heap, H'[s0.heap.size + r]? = some (cell.setSlot f.slot v) → H'.size = H.size → (∀ q, q ≠ s0.heap.size + r → H'[q]? = H[q]?) → Wd D cy s0 s M0 H' (locs ++ [⟨s0.heap.size + r, f.slot⟩]) cells slots M' := by
    intro H' g1 g2 g3
    rw [hsl] at g1
    exact hW.put hT e1 g2 g3 h1 h2 h3 hr (Or.inl ⟨hci, hnn, t_OB.to (V := updV (fun k => fv s0.heap.size M r ci k) k v) ⟨_, g1, q2, q3, t_set q4 hap hk v⟩ hv⟩)
  by_cases hf : (FT ci k).2.2.2 = true
  · unfold u_lay at hlay
    rw [if_pos hf] at hlay
    obtain ⟨hin2, hdecl⟩ := hfin hf
    have hcf : m.cls = cf := by
      obtain ⟨_, _, c', _, _, _, -, -, hf', -, -, -, hown2, -⟩ := Cond.laysFinal_spec hlay
      have e1 : c' = cf := by have := hi.symm.trans hf'; simp at this; exact this.1.symm
      rw [own1, hdecl] at hown2
      rw [← e1]
      exact Option.some.inj (hown.symm.trans hown2)
    have h6 := u_fits hfc hkC hkind (Or.inr hlay) hi (cls_ty hci k hk) hn hfit
    exact W.putFinK hx hb hown (hts _ (bgd_in hlink rfl)) hi' hst hcf hin2 (by rw [q2]; exact h6) q1 q3 (by rw [hsl]; exact k2_hasslot (q4 k hk)) rfl rfl hdg fun H' g1 g2 g3 => kk H' _ (fin H' g1 g2 g3)
  · unfold u_lay at hlay
    rw [if_neg hf] at hlay
    have h6 := u_store hfc hkC hkind hlay hi (cls_ty hci k hk) hn hfit
    exact W.putK hx hb (f := f) ⟨hown, hts _ (bgd_in hlink rfl), ⟨_, _, _, hi'⟩, hst⟩ (by rw [q2]; exact h6) q1 q3 (by rw [hsl]; exact k2_hasslot (q4 k hk)) rfl rfl hdg fun H' g1 g2 g3 => kk H' _ (fin H' g1 g2 g3)
end MS
theorem up2_ne {α : Type} {f : Nat → Nat → α} {i k : Nat} {x : α} {a : Nat} (h : a ≠ i) : up2 f i k x a = f a := by
  funext b
  simp [up2, h]
theorem up2_at {α : Type} {f : Nat → Nat → α} {i k : Nat} {x : α} {j : Nat} : up2 f i k x i j = if j = k then x else f i j := by simp [up2]
theorem fv_upI {B : Nat} {M : Mm} {r c k j : Nat} {x : Int32} (h : fk c k = some 0 ∨ fk c k = some 1) : updV (fun k => fv B M r c k) k (.int x) j = fv B (M.1, up2 M.2.1 r k x, M.2.2.1, M.2.2.2) r c j := by
  unfold updV
  by_cases hj : j = k
  · subst hj
    rw [if_pos rfl]
    unfold fv
    rcases h with h | h <;> rw [h] <;> simp [up2]
  · rw [if_neg hj]
    unfold fv
    simp [up2, hj]
theorem fv_upL {B : Nat} {M : Mm} {r c k j : Nat} {x : Int64} (h : fk c k = some 2) : updV (fun k => fv B M r c k) k (.long x) j = fv B (M.1, M.2.1, up2 M.2.2.1 r k x, M.2.2.2) r c j := by
  unfold updV
  by_cases hj : j = k
  · subst hj
    rw [if_pos rfl]
    unfold fv
    rw [h]
    simp [up2]
  · rw [if_neg hj]
    unfold fv
    simp [up2, hj]
theorem fv_upR {B : Nat} {M : Mm} {r c k j : Nat} {x : Option Nat} (h : fk c k = some 3) : updV (fun k => fv B M r c k) k (va_rf (x.map (fun a => B + a))) j = fv B (M.1, M.2.1, M.2.2.1, up2 M.2.2.2 r k x) r c j := by
  unfold updV
  by_cases hj : j = k
  · subst hj
    rw [if_pos rfl]
    unfold fv
    rw [h]
    simp [up2]
  · rw [if_neg hj]
    unfold fv
    simp [up2, hj]
theorem up2_ref {M : Mm} {r k : Nat} {x : Option Nat} (h : ∀ i k a, M.2.2.2 i k = some a → a < 1000000) (hx : ∀ a, x = some a → a < 1000000) : ∀ j a, up2 M.2.2.2 r k x r j = some a → a < 1000000 := by
  intro j a e
  rw [up2_at] at e
  split at e
  · exact hx a e
  · exact h _ _ _ e
theorem Base.K {D : va_G} {cy : Nat → ClassId} {cv : Nat → Value} {C : Ct} {s0 s : State} (hB : Base D cy cv C s0) (hw : s0.WarmedH s.vm) : va_K D vwCl (TYS cy) s := va_K.moved hw.alike hB.1
theorem low_kept {s0 s : State} (hlow : ∀ q, q < s0.heap.size → s.heap[q]? = s0.heap[q]?) : ∀ a : Nat, a < s0.heap.size → ¬ Af s0 a → s.heap[a]? = s0.heap[a]? := fun a h _ => hlow a h
theorem q_getfield (ix : Nat) : SP (.getfield ix) 3 := by
  intro p l e R s s0 m args below meth c H locs cells slots Q D cy cv C pm M0 M pc ls lv ll st g hB hA hd hp hs hW hl hR k
  obtain ⟨hx, hb, hr, hml, hown, hts, hlocks, hini, hwarm, hlow, hsz⟩ := hA
  have hK := hB.K hwarm
  simp only [stp] at hs
  split at hs
  · rename_i r rest
    obtain ⟨w, hw, rfl⟩ := push_some hs
    have kk : W p l e R s m args below meth c H locs cells slots Q (F0 m (pc + 3) ls (tr s0.heap.size cv w :: rest.map (tr s0.heap.size cv))) := k H locs cells slots ls hW hl
    show W p l e R s m args below meth c H locs cells slots Q (F0 m pc ls (tr s0.heap.size cv (.ref r) :: rest.map (tr s0.heap.size cv)))
    unfold gf at hw
    split at hw
    · rename_i ho
      split at hw
      · rename_i hrr
        obtain ⟨i, rfl⟩ : ∃ i : Nat, r = 1000000 + i := ⟨r - 1000000, (Nat.add_sub_of_le hrr.1).symm⟩
        have hi22 : i < 22 := Nat.lt_of_add_lt_add_left hrr.2
        obtain ⟨t, h1, h2, h3, h4, h5⟩ := hB.2.2.2.2.2.2 i hi22
        rw [show 1000100 + i = 1000000 + i + 100 from Nat.add_right_comm 1000000 100 i] at h3
        rw [tr_con hrr.1, h1]
        have hown' : s.vm.findClass "java/lang/String" = some m.cls := by
          rw [ho] at hown
          exact hown
        split at hw
        · rename_i hix
          cases hw
          subst hix
          rw [tr_con (Nat.le_trans hrr.1 (Nat.le_add_right _ _))] at kk
          exact vk_getf hx hb ((h3.moved hwarm.alike).kept (low_kept hlow)) hW.2.1 hown' (hts _ (bgd_in (isW_in (p := 9095) (by decide +kernel)) rfl)) (fun _ h => h) hd kk
        · split at hw
          · rename_i hix
            cases hw
            subst hix
            exact vk_getf hx hb ((h4.moved hwarm.alike).kept (low_kept hlow)) hW.2.1 hown' (hts _ (bgd_in (isW_in (p := 9096) (by decide +kernel)) rfl)) (fun _ h => h) hd kk
          · cases hw
      · cases hw
    · split at hw
      · cases hw
      · rename_i ci kf rst hlk
        obtain ⟨nst, pos⟩ := rst
        split at hw
        · cases hw
        · rename_i kd nf hT
          split at hw
          · rename_i hkd
            subst hkd
            have hok := fOK_lk hlk
            simp only [fOK, Bool.and_eq_true, decide_eq_true_eq] at hok
            obtain ⟨hw1, hci, hkf⟩ := hok
            rw [tr_ref (hW.1.lt hT)]
            have hP := hW.1.P1 hT hci
            have hfv : tr s0.heap.size cv w = fv s0.heap.size M r kd kf := by
              unfold fv
              split at hw
              · rename_i h
                cases hw
                rw [h]
                rfl
              · rename_i h
                cases hw
                rw [h]
                rfl
              · rename_i h
                cases hw
                rw [h]
                rfl
              · rename_i h
                cases hw
                rw [h]
                exact tr_rf (fun a ha => hW.1.2.2.1 _ _ _ ha)
              · cases hw
            rw [hfv] at kk
            have hsame : ∀ x, s.fieldFound? (FT kd kf).1 (FT kd kf).2.1 (FT kd kf).2.2.1 = some x → s.fieldFound? (CN kd) (FT kd kf).2.1 (FT kd kf).2.2.1 = some x := fun x h => by rw [← cls_own hci kf hkf]; exact h
            by_cases hn : nst = 0
            · rw [if_pos hn] at hw1
              exact va_get hx hb hts (cls_ws hci) hown hK hP 0 rfl (cls_at hci) kf hkf (hts _ (bgd_in (isW_in hw1) rfl)) hsame (rng_at hkf) hd kk
            · rw [if_neg hn] at hw1
              exact va_getN hx hb hts (cls_ws hci) hown hK hP 0 rfl (cls_at hci) kf hkf (va_Nw.use rfl (va_Nw.warmF hwarm (hB.2.1.2 _ _ _ _ _ _ (isW_in hw1)))) hsame (rng_at hkf) hd kk
          · cases hw
  · cases hs
theorem q_putfield (ix : Nat) : SP (.putfield ix) 3 := by
  intro p l e R s s0 m args below meth c H locs cells slots Q D cy cv C pm M0 M pc ls lv ll st g hB hA hd hp hs hW hl hR k
  obtain ⟨hx, hb, hr, hml, hown, hts, hlocks, hini, hwarm, hlow, hsz⟩ := hA
  have hK := hB.K hwarm
  simp only [stp] at hs
  split at hs
  · rename_i v r rest
    split at hs
    · rename_i M' hpf
      cases hs
      show W p l e R s m args below meth c H locs cells slots Q (F0 m pc ls (tr s0.heap.size cv v :: tr s0.heap.size cv (.ref r) :: rest.map (tr s0.heap.size cv)))
      unfold pf at hpf
      split at hpf
      · cases hpf
      · rename_i ci kf rst hlk
        obtain ⟨nst, pos⟩ := rst
        split at hpf
        · cases hpf
        · rename_i kd nf hT
          split at hpf
          · rename_i hkd
            subst hkd
            have hok := fOK_lk hlk
            simp only [fOK, Bool.and_eq_true, decide_eq_true_eq] at hok
            obtain ⟨hw1, hci, hkf⟩ := hok
            rw [tr_ref (hW.1.lt hT)]
            simp only [pO1, hlk, Bool.and_eq_true, decide_eq_true_eq, Bool.or_eq_true, Bool.not_eq_true'] at hp
            obtain ⟨hn0, hfin⟩ := hp
            rw [if_pos hn0] at hw1
            have hlink := isW_in hw1
            have hfin' : (FT kd kf).2.2.2 = true → meth.name = "<init>" ∧ CN kd = CN pm.2.2.2.2.1 := by
              intro q
              rcases hfin with h | ⟨h1, h2⟩
              · rw [q] at h
                cases h
              · exact ⟨hini h1, by rw [h2]⟩
            obtain ⟨hfk, hokT⟩ := cls_fk hci kf hkf
            have put := fun (M' : Mm) (v' : Value) a1 a2 (a3 : M'.1 = M.1) a4 a5 a6 a7 a8 kk => W_put (p := p) (l := l) (e := e) (R := R) (m := m) (below := below) (meth := meth) (Q := Q) (M' := M') (ls := ls) (rest := rest.map (tr s0.heap.size cv)) (v := v') hx hb hts hown hK hW hT hci hkf hlink hfin' a1 a2 a3 a4 a5 a6 a7 a8 hd kk
            split at hpf
            · rename_i x h0
              cases hpf
              have hty : Fty kd kf = .int := by
                rw [hfk] at h0
                revert h0 hokT
                cases Fty kd kf <;> simp [kdT, okT]
              exact put (M.1, up2 M.2.1 r kf x, M.2.2.1, M.2.2.2) (.int x) (by rw [hty]; rfl) (by rw [hty]; rfl) rfl (fun a h => up2_ne h) (fun _ _ => rfl) (fun _ _ => rfl) (fun k a h => hW.1.2.2.1 _ _ _ h) (fun j hj => fv_upI (Or.inl h0)) (fun H' locs' hW' => k _ _ _ _ _ hW' hl)
            · rename_i x h0
              split at hpf
              · rename_i h01
                cases hpf
                have hty : Fty kd kf = .boolean := by
                  rw [hfk] at h0
                  revert h0 hokT
                  cases Fty kd kf <;> simp [kdT, okT]
                exact put (M.1, up2 M.2.1 r kf x, M.2.2.1, M.2.2.2) (.int x) (by rw [hty]; rcases h01 with h | h <;> rw [h] <;> rfl) (by rw [hty]; rcases h01 with h | h <;> rw [h] <;> rfl) rfl (fun a h => up2_ne h) (fun _ _ => rfl) (fun _ _ => rfl) (fun k a h => hW.1.2.2.1 _ _ _ h) (fun j hj => fv_upI (Or.inr h0)) (fun H' locs' hW' => k _ _ _ _ _ hW' hl)
              · cases hpf
            · rename_i x h0
              cases hpf
              have hty : Fty kd kf = .long := by
                rw [hfk] at h0
                revert h0 hokT
                cases Fty kd kf <;> simp [kdT, okT]
              exact put (M.1, M.2.1, up2 M.2.2.1 r kf x, M.2.2.2) (.long x) (by rw [hty]; rfl) (by rw [hty]; rfl) rfl (fun _ _ => rfl) (fun a h => up2_ne h) (fun _ _ => rfl) (fun k a h => hW.1.2.2.1 _ _ _ h) (fun j hj => fv_upL h0) (fun H' locs' hW' => k _ _ _ _ _ hW' hl)
            · rename_i a h0
              split at hpf
              · rename_i ha
                cases hpf
                have hty : (∃ n, Fty kd kf = .object n) ∨ ∃ t, Fty kd kf = .array t := by
                  rw [hfk] at h0
                  revert h0 hokT
                  cases Fty kd kf <;> simp [kdT, okT]
                rw [tr_ref ha]
                exact put (M.1, M.2.1, M.2.2.1, up2 M.2.2.2 r kf (some a)) (.ref (s0.heap.size + a)) (by rcases hty with ⟨n, h⟩ | ⟨n, h⟩ <;> rw [h] <;> rfl) (by rcases hty with ⟨n, h⟩ | ⟨n, h⟩ <;> rw [h] <;> rfl) rfl (fun _ _ => rfl) (fun _ _ => rfl) (fun a h => up2_ne h) (up2_ref hW.1.2.2.1 (fun b h => by cases h; exact ha)) (fun j hj => fv_upR (x := some a) h0) (fun H' locs' hW' => k _ _ _ _ _ hW' hl)
              · cases hpf
            · rename_i h0
              cases hpf
              have hty : (∃ n, Fty kd kf = .object n) ∨ ∃ t, Fty kd kf = .array t := by
                rw [hfk] at h0
                revert h0 hokT
                cases Fty kd kf <;> simp [kdT, okT]
              exact put (M.1, M.2.1, M.2.2.1, up2 M.2.2.2 r kf none) .null (by rcases hty with ⟨n, h⟩ | ⟨n, h⟩ <;> rw [h] <;> rfl) (by rcases hty with ⟨n, h⟩ | ⟨n, h⟩ <;> rw [h] <;> rfl) rfl (fun _ _ => rfl) (fun _ _ => rfl) (fun a h => up2_ne h) (up2_ref hW.1.2.2.1 (fun b h => by cases h)) (fun j hj => fv_upR (x := none) h0) (fun H' locs' hW' => k _ _ _ _ _ hW' hl)
            · cases hpf
          · cases hpf
    · cases hs
  · cases hs
