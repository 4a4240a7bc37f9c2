/-- the words that go through calls -/
def BGD : List Cond := lw_tbl.filter goodWord
def TBL (k : Nat) : List Cond := match k with
  | 0 => k2_sels lw_privs
  | 1 => tables_1_1
  | 2 => tables_1_2
  | 3 => tables_1_3
  | 4 => tables_1_4
  | 5 => tables_1_5
  | 6 => tables_1_6
  | 7 => tables_1_7
  | 8 => tables_1_8
  | 9 => tables_1_9
  | _ => []
/-- the word at a place of the tables -/
def isW (p : Nat) (w : Cond) : Bool := decide ((TBL (p / 1000))[p % 1000]? = some w)
theorem tbl_in {k : Nat} {w : Cond} (h : w ∈ TBL k) : w ∈ lw_tbl := by
  unfold TBL at h
  show w ∈ k2_sels lw_privs ++ (tables_1_1 ++ (tables_1_2 ++ (tables_1_3 ++ (tables_1_4 ++ (tables_1_5 ++ (tables_1_6 ++ (tables_1_7 ++ (tables_1_8 ++ tables_1_9))))))))
  split at h <;> first | (exact absurd h List.not_mem_nil) | (simp only [List.mem_append]; simp only [h, true_or, or_true])
theorem isW_in {p : Nat} {w : Cond} (h : isW p w = true) : w ∈ lw_tbl := tbl_in (List.mem_of_getElem? (of_decide_eq_true h))
theorem bgd_in {w : Cond} (h : w ∈ lw_tbl) (g : goodWord w = true) : w ∈ BGD := List.mem_filter.mpr ⟨h, g⟩
theorem bgd_good : GoodIn BGD BGD := fun w h => ⟨h, good_of_word (List.mem_filter.mp h).2⟩
def CN (c : Nat) : String := CNL.getD c ""
/-- a class's fields by its number -/
def FT (c : Nat) : u_T := match c with
  | 0 => TX0
  | 1 => TX1
  | 2 => TX2
  | 3 => TX3
  | 4 => TX4
  | 5 => TX5
  | 6 => TX6
  | 7 => TX7
  | 8 => TX8
  | 9 => TX9
  | 10 => TX10
  | 11 => TX11
  | _ => TX12
def Fty (c : Nat) : Nat → FieldType := match c with
  | 0 => tyX0
  | 1 => tyX1
  | 2 => tyX2
  | 3 => tyX3
  | 4 => tyX4
  | 5 => tyX5
  | 6 => tyX6
  | 7 => tyX7
  | 8 => tyX8
  | 9 => tyX9
  | 10 => tyX10
  | 11 => tyX11
  | _ => tyX12
def fOK (o ix c k n p : Nat) : Bool := isW p (if n = 0 then Cond.fieldLink (CN o) ix (CN c) (FT c k).2.1 (FT c k).2.2.1 else Cond.fieldLinkNest (CN o) ix (CN c) (FT c k).2.1 (FT c k).2.2.1 "GriefTram") && (decide (c < 13) && decide (k < szf c))
set_option maxRecDepth 100000 in
theorem fOK_0 : ((FRL.getD 0 []).all fun e => fOK 0 e.1 e.2.1 e.2.2.1 e.2.2.2.1 e.2.2.2.2) = true := by decide +kernel
set_option maxRecDepth 100000 in
theorem fOK_1 : ((FRL.getD 1 []).all fun e => fOK 1 e.1 e.2.1 e.2.2.1 e.2.2.2.1 e.2.2.2.2) = true := by decide +kernel
set_option maxRecDepth 100000 in
theorem fOK_2 : ((FRL.getD 2 []).all fun e => fOK 2 e.1 e.2.1 e.2.2.1 e.2.2.2.1 e.2.2.2.2) = true := by decide +kernel
set_option maxRecDepth 100000 in
theorem fOK_3 : ((FRL.getD 3 []).all fun e => fOK 3 e.1 e.2.1 e.2.2.1 e.2.2.2.1 e.2.2.2.2) = true := by decide +kernel
set_option maxRecDepth 100000 in
theorem fOK_4 : ((FRL.getD 4 []).all fun e => fOK 4 e.1 e.2.1 e.2.2.1 e.2.2.2.1 e.2.2.2.2) = true := by decide +kernel
set_option maxRecDepth 100000 in
theorem fOK_5 : ((FRL.getD 5 []).all fun e => fOK 5 e.1 e.2.1 e.2.2.1 e.2.2.2.1 e.2.2.2.2) = true := by decide +kernel
set_option maxRecDepth 100000 in
theorem fOK_6 : ((FRL.getD 6 []).all fun e => fOK 6 e.1 e.2.1 e.2.2.1 e.2.2.2.1 e.2.2.2.2) = true := by decide +kernel
set_option maxRecDepth 100000 in
theorem fOK_7 : ((FRL.getD 7 []).all fun e => fOK 7 e.1 e.2.1 e.2.2.1 e.2.2.2.1 e.2.2.2.2) = true := by decide +kernel
set_option maxRecDepth 100000 in
theorem fOK_8 : ((FRL.getD 8 []).all fun e => fOK 8 e.1 e.2.1 e.2.2.1 e.2.2.2.1 e.2.2.2.2) = true := by decide +kernel
set_option maxRecDepth 100000 in
theorem fOK_9 : ((FRL.getD 9 []).all fun e => fOK 9 e.1 e.2.1 e.2.2.1 e.2.2.2.1 e.2.2.2.2) = true := by decide +kernel
set_option maxRecDepth 100000 in
theorem fOK_10 : ((FRL.getD 10 []).all fun e => fOK 10 e.1 e.2.1 e.2.2.1 e.2.2.2.1 e.2.2.2.2) = true := by decide +kernel
set_option maxRecDepth 100000 in
theorem fOK_11 : ((FRL.getD 11 []).all fun e => fOK 11 e.1 e.2.1 e.2.2.1 e.2.2.2.1 e.2.2.2.2) = true := by decide +kernel
set_option maxRecDepth 100000 in
theorem fOK_12 : ((FRL.getD 12 []).all fun e => fOK 12 e.1 e.2.1 e.2.2.1 e.2.2.2.1 e.2.2.2.2) = true := by decide +kernel
set_option maxRecDepth 100000 in
theorem fOK_13 : ((FRL.getD 13 []).all fun e => fOK 13 e.1 e.2.1 e.2.2.1 e.2.2.2.1 e.2.2.2.2) = true := by decide +kernel
set_option maxRecDepth 100000 in
theorem fOK_14 : ((FRL.getD 14 []).all fun e => fOK 14 e.1 e.2.1 e.2.2.1 e.2.2.2.1 e.2.2.2.2) = true := by decide +kernel
set_option maxRecDepth 100000 in
theorem fOK_15 : ((FRL.getD 15 []).all fun e => fOK 15 e.1 e.2.1 e.2.2.1 e.2.2.2.1 e.2.2.2.2) = true := by decide +kernel
set_option maxRecDepth 100000 in
theorem fOK_16 : ((FRL.getD 16 []).all fun e => fOK 16 e.1 e.2.1 e.2.2.1 e.2.2.2.1 e.2.2.2.2) = true := by decide +kernel
set_option maxRecDepth 100000 in
theorem fOK_17 : ((FRL.getD 17 []).all fun e => fOK 17 e.1 e.2.1 e.2.2.1 e.2.2.2.1 e.2.2.2.2) = true := by decide +kernel
theorem lk_all {α : Type} {L : List (List (Nat × α))} {P : Nat → Nat → α → Bool} (h : ∀ o, o < L.length → ((L.getD o []).all fun e => P o e.1 e.2) = true) {o ix : Nat} {x : α} (e : lk L o ix = some x) : P o ix x = true := by
  unfold lk at e
  by_cases ho : o < L.length
  · have h1 := List.all_eq_true.mp (h o ho)
    have key : ∀ (l : List (Nat × α)), l.lookup ix = some x → (ix, x) ∈ l := by
      intro l
      induction l with
      | nil => intro q; cases q
      | cons a l ih =>
        intro q
        obtain ⟨a1, a2⟩ := a
        rw [List.lookup_cons] at q
        by_cases ha : ix = a1
        · subst ha
          simp at q
          rw [q]
          exact List.mem_cons_self
        · have hb : (ix == a1) = false := by simp [ha]
          rw [hb] at q
          exact List.mem_cons_of_mem _ (ih q)
    exact h1 _ (key _ e)
  · rw [List.getD_eq_getElem?_getD, List.getElem?_eq_none (by omega)] at e
    cases e
theorem fOK_all : ∀ o, o < FRL.length → ((FRL.getD o []).all fun e => fOK o e.1 e.2.1 e.2.2.1 e.2.2.2.1 e.2.2.2.2) = true := by
  intro o ho
  have ho : o < 18 := ho
  rcases (show o = 0 ∨ o = 1 ∨ o = 2 ∨ o = 3 ∨ o = 4 ∨ o = 5 ∨ o = 6 ∨ o = 7 ∨ o = 8 ∨ o = 9 ∨ o = 10 ∨ o = 11 ∨ o = 12 ∨ o = 13 ∨ o = 14 ∨ o = 15 ∨ o = 16 ∨ o = 17 by omega) with rfl | rfl | rfl | rfl | rfl | rfl | rfl | rfl | rfl | rfl | rfl | rfl | rfl | rfl | rfl | rfl | rfl | rfl
  · exact fOK_0
  · exact fOK_1
  · exact fOK_2
  · exact fOK_3
  · exact fOK_4
  · exact fOK_5
  · exact fOK_6
  · exact fOK_7
  · exact fOK_8
  · exact fOK_9
  · exact fOK_10
  · exact fOK_11
  · exact fOK_12
  · exact fOK_13
  · exact fOK_14
  · exact fOK_15
  · exact fOK_16
  · exact fOK_17
theorem fOK_lk {o ix c k n p : Nat} (e : lk FRL o ix = some (c, k, n, p)) : fOK o ix c k n p = true := lk_all (P := fun o ix x => fOK o ix x.1 x.2.1 x.2.2.1 x.2.2.2) fOK_all e
/-- what a call of a kind asks of the words -/
def cOK (o ix k y n p : Nat) : Bool := if k = 6 then isW p (Cond.methodLink (CN o) ix arraycopyName) else if k = 7 then isW p (Cond.methodLink (CN o) ix Lib.Math.max.name) else if k = 8 then isW p (Cond.methodLink (CN o) ix Lib.Math.min.name) else if k = 9 then isW p (Cond.methodLink (CN o) ix Lib.Math.abs.name) else if k = 10 then isW p (Cond.methodLink (CN o) ix Lib.objectInit) else match PGL[y]? with
  | none => false
  | some pm => decide (k < 6) && (decide (pm.2.2.2.2.2.2.2.1 = (if k < 2 then 1 else if k < 4 then 0 else 2)) && (isW p (if k % 2 = 0 then Cond.methodLink (CN o) ix pm.1 else Cond.methodLinkNest (CN o) ix pm.1 "GriefTram") && decide ((parseMethodDescriptor pm.1.desc).map (fun d => d.parameters.length) = some n)))
set_option maxRecDepth 100000 in
theorem cOK_0 : ((CRL.getD 0 []).all fun e => cOK 0 e.1 e.2.1 e.2.2.1 e.2.2.2.1 e.2.2.2.2) = true := by decide +kernel
set_option maxRecDepth 100000 in
theorem cOK_1 : ((CRL.getD 1 []).all fun e => cOK 1 e.1 e.2.1 e.2.2.1 e.2.2.2.1 e.2.2.2.2) = true := by decide +kernel
set_option maxRecDepth 100000 in
theorem cOK_2 : ((CRL.getD 2 []).all fun e => cOK 2 e.1 e.2.1 e.2.2.1 e.2.2.2.1 e.2.2.2.2) = true := by decide +kernel
set_option maxRecDepth 100000 in
theorem cOK_3 : ((CRL.getD 3 []).all fun e => cOK 3 e.1 e.2.1 e.2.2.1 e.2.2.2.1 e.2.2.2.2) = true := by decide +kernel
set_option maxRecDepth 100000 in
theorem cOK_4 : ((CRL.getD 4 []).all fun e => cOK 4 e.1 e.2.1 e.2.2.1 e.2.2.2.1 e.2.2.2.2) = true := by decide +kernel
set_option maxRecDepth 100000 in
theorem cOK_5 : ((CRL.getD 5 []).all fun e => cOK 5 e.1 e.2.1 e.2.2.1 e.2.2.2.1 e.2.2.2.2) = true := by decide +kernel
set_option maxRecDepth 100000 in
theorem cOK_6 : ((CRL.getD 6 []).all fun e => cOK 6 e.1 e.2.1 e.2.2.1 e.2.2.2.1 e.2.2.2.2) = true := by decide +kernel
set_option maxRecDepth 100000 in
theorem cOK_7 : ((CRL.getD 7 []).all fun e => cOK 7 e.1 e.2.1 e.2.2.1 e.2.2.2.1 e.2.2.2.2) = true := by decide +kernel
set_option maxRecDepth 100000 in
theorem cOK_8 : ((CRL.getD 8 []).all fun e => cOK 8 e.1 e.2.1 e.2.2.1 e.2.2.2.1 e.2.2.2.2) = true := by decide +kernel
set_option maxRecDepth 100000 in
theorem cOK_9 : ((CRL.getD 9 []).all fun e => cOK 9 e.1 e.2.1 e.2.2.1 e.2.2.2.1 e.2.2.2.2) = true := by decide +kernel
set_option maxRecDepth 100000 in
theorem cOK_10 : ((CRL.getD 10 []).all fun e => cOK 10 e.1 e.2.1 e.2.2.1 e.2.2.2.1 e.2.2.2.2) = true := by decide +kernel
set_option maxRecDepth 100000 in
theorem cOK_11 : ((CRL.getD 11 []).all fun e => cOK 11 e.1 e.2.1 e.2.2.1 e.2.2.2.1 e.2.2.2.2) = true := by decide +kernel
set_option maxRecDepth 100000 in
theorem cOK_12 : ((CRL.getD 12 []).all fun e => cOK 12 e.1 e.2.1 e.2.2.1 e.2.2.2.1 e.2.2.2.2) = true := by decide +kernel
set_option maxRecDepth 100000 in
theorem cOK_13 : ((CRL.getD 13 []).all fun e => cOK 13 e.1 e.2.1 e.2.2.1 e.2.2.2.1 e.2.2.2.2) = true := by decide +kernel
set_option maxRecDepth 100000 in
theorem cOK_14 : ((CRL.getD 14 []).all fun e => cOK 14 e.1 e.2.1 e.2.2.1 e.2.2.2.1 e.2.2.2.2) = true := by decide +kernel
set_option maxRecDepth 100000 in
theorem cOK_15 : ((CRL.getD 15 []).all fun e => cOK 15 e.1 e.2.1 e.2.2.1 e.2.2.2.1 e.2.2.2.2) = true := by decide +kernel
set_option maxRecDepth 100000 in
theorem cOK_16 : ((CRL.getD 16 []).all fun e => cOK 16 e.1 e.2.1 e.2.2.1 e.2.2.2.1 e.2.2.2.2) = true := by decide +kernel
set_option maxRecDepth 100000 in
theorem cOK_17 : ((CRL.getD 17 []).all fun e => cOK 17 e.1 e.2.1 e.2.2.1 e.2.2.2.1 e.2.2.2.2) = true := by decide +kernel
theorem cOK_all : ∀ o, o < CRL.length → ((CRL.getD o []).all fun e => cOK o e.1 e.2.1 e.2.2.1 e.2.2.2.1 e.2.2.2.2) = true := by
  intro o ho
  have ho : o < 18 := ho
  rcases (show o = 0 ∨ o = 1 ∨ o = 2 ∨ o = 3 ∨ o = 4 ∨ o = 5 ∨ o = 6 ∨ o = 7 ∨ o = 8 ∨ o = 9 ∨ o = 10 ∨ o = 11 ∨ o = 12 ∨ o = 13 ∨ o = 14 ∨ o = 15 ∨ o = 16 ∨ o = 17 by omega) with rfl | rfl | rfl | rfl | rfl | rfl | rfl | rfl | rfl | rfl | rfl | rfl | rfl | rfl | rfl | rfl | rfl | rfl
  · exact cOK_0
  · exact cOK_1
  · exact cOK_2
  · exact cOK_3
  · exact cOK_4
  · exact cOK_5
  · exact cOK_6
  · exact cOK_7
  · exact cOK_8
  · exact cOK_9
  · exact cOK_10
  · exact cOK_11
  · exact cOK_12
  · exact cOK_13
  · exact cOK_14
  · exact cOK_15
  · exact cOK_16
  · exact cOK_17
theorem cOK_lk {o ix k y n p : Nat} (e : lk CRL o ix = some (k, y, n, p)) : cOK o ix k y n p = true := lk_all (P := fun o ix x => cOK o ix x.1 x.2.1 x.2.2.1 x.2.2.2) cOK_all e
def nOK (o ix c : Nat) : Bool := decide (Cond.classLink (CN o) ix (CN c) ∈ lw_tbl)
set_option maxRecDepth 100000 in
theorem nOK_0 : ((NRL.getD 0 []).all fun e => nOK 0 e.1 e.2) = true := by decide +kernel
set_option maxRecDepth 100000 in
theorem nOK_1 : ((NRL.getD 1 []).all fun e => nOK 1 e.1 e.2) = true := by decide +kernel
set_option maxRecDepth 100000 in
theorem nOK_2 : ((NRL.getD 2 []).all fun e => nOK 2 e.1 e.2) = true := by decide +kernel
set_option maxRecDepth 100000 in
theorem nOK_3 : ((NRL.getD 3 []).all fun e => nOK 3 e.1 e.2) = true := by decide +kernel
set_option maxRecDepth 100000 in
theorem nOK_4 : ((NRL.getD 4 []).all fun e => nOK 4 e.1 e.2) = true := by decide +kernel
set_option maxRecDepth 100000 in
theorem nOK_5 : ((NRL.getD 5 []).all fun e => nOK 5 e.1 e.2) = true := by decide +kernel
set_option maxRecDepth 100000 in
theorem nOK_6 : ((NRL.getD 6 []).all fun e => nOK 6 e.1 e.2) = true := by decide +kernel
set_option maxRecDepth 100000 in
theorem nOK_7 : ((NRL.getD 7 []).all fun e => nOK 7 e.1 e.2) = true := by decide +kernel
set_option maxRecDepth 100000 in
theorem nOK_8 : ((NRL.getD 8 []).all fun e => nOK 8 e.1 e.2) = true := by decide +kernel
set_option maxRecDepth 100000 in
theorem nOK_9 : ((NRL.getD 9 []).all fun e => nOK 9 e.1 e.2) = true := by decide +kernel
set_option maxRecDepth 100000 in
theorem nOK_10 : ((NRL.getD 10 []).all fun e => nOK 10 e.1 e.2) = true := by decide +kernel
set_option maxRecDepth 100000 in
theorem nOK_11 : ((NRL.getD 11 []).all fun e => nOK 11 e.1 e.2) = true := by decide +kernel
set_option maxRecDepth 100000 in
theorem nOK_12 : ((NRL.getD 12 []).all fun e => nOK 12 e.1 e.2) = true := by decide +kernel
set_option maxRecDepth 100000 in
theorem nOK_13 : ((NRL.getD 13 []).all fun e => nOK 13 e.1 e.2) = true := by decide +kernel
set_option maxRecDepth 100000 in
theorem nOK_14 : ((NRL.getD 14 []).all fun e => nOK 14 e.1 e.2) = true := by decide +kernel
set_option maxRecDepth 100000 in
theorem nOK_15 : ((NRL.getD 15 []).all fun e => nOK 15 e.1 e.2) = true := by decide +kernel
set_option maxRecDepth 100000 in
theorem nOK_16 : ((NRL.getD 16 []).all fun e => nOK 16 e.1 e.2) = true := by decide +kernel
set_option maxRecDepth 100000 in
theorem nOK_17 : ((NRL.getD 17 []).all fun e => nOK 17 e.1 e.2) = true := by decide +kernel
theorem nOK_all : ∀ o, o < NRL.length → ((NRL.getD o []).all fun e => nOK o e.1 e.2) = true := by
  intro o ho
  have ho : o < 18 := ho
  rcases (show o = 0 ∨ o = 1 ∨ o = 2 ∨ o = 3 ∨ o = 4 ∨ o = 5 ∨ o = 6 ∨ o = 7 ∨ o = 8 ∨ o = 9 ∨ o = 10 ∨ o = 11 ∨ o = 12 ∨ o = 13 ∨ o = 14 ∨ o = 15 ∨ o = 16 ∨ o = 17 by omega) with rfl | rfl | rfl | rfl | rfl | rfl | rfl | rfl | rfl | rfl | rfl | rfl | rfl | rfl | rfl | rfl | rfl | rfl
  · exact nOK_0
  · exact nOK_1
  · exact nOK_2
  · exact nOK_3
  · exact nOK_4
  · exact nOK_5
  · exact nOK_6
  · exact nOK_7
  · exact nOK_8
  · exact nOK_9
  · exact nOK_10
  · exact nOK_11
  · exact nOK_12
  · exact nOK_13
  · exact nOK_14
  · exact nOK_15
  · exact nOK_16
  · exact nOK_17
theorem nOK_lk {o ix c : Nat} (e : lk NRL o ix = some c) : nOK o ix c = true := lk_all (P := fun o ix x => nOK o ix x) nOK_all e
def kOK (o ix : Nat) (x : Int64) : Bool := decide (Cond.constantLong (CN o) ix x ∈ lw_tbl)
set_option maxRecDepth 100000 in
theorem kOK_0 : ((KLL.getD 0 []).all fun e => kOK 0 e.1 e.2) = true := by decide +kernel
set_option maxRecDepth 100000 in
theorem kOK_1 : ((KLL.getD 1 []).all fun e => kOK 1 e.1 e.2) = true := by decide +kernel
set_option maxRecDepth 100000 in
theorem kOK_2 : ((KLL.getD 2 []).all fun e => kOK 2 e.1 e.2) = true := by decide +kernel
set_option maxRecDepth 100000 in
theorem kOK_3 : ((KLL.getD 3 []).all fun e => kOK 3 e.1 e.2) = true := by decide +kernel
set_option maxRecDepth 100000 in
theorem kOK_4 : ((KLL.getD 4 []).all fun e => kOK 4 e.1 e.2) = true := by decide +kernel
set_option maxRecDepth 100000 in
theorem kOK_5 : ((KLL.getD 5 []).all fun e => kOK 5 e.1 e.2) = true := by decide +kernel
set_option maxRecDepth 100000 in
theorem kOK_6 : ((KLL.getD 6 []).all fun e => kOK 6 e.1 e.2) = true := by decide +kernel
set_option maxRecDepth 100000 in
theorem kOK_7 : ((KLL.getD 7 []).all fun e => kOK 7 e.1 e.2) = true := by decide +kernel
set_option maxRecDepth 100000 in
theorem kOK_8 : ((KLL.getD 8 []).all fun e => kOK 8 e.1 e.2) = true := by decide +kernel
set_option maxRecDepth 100000 in
theorem kOK_9 : ((KLL.getD 9 []).all fun e => kOK 9 e.1 e.2) = true := by decide +kernel
set_option maxRecDepth 100000 in
theorem kOK_10 : ((KLL.getD 10 []).all fun e => kOK 10 e.1 e.2) = true := by decide +kernel
set_option maxRecDepth 100000 in
theorem kOK_11 : ((KLL.getD 11 []).all fun e => kOK 11 e.1 e.2) = true := by decide +kernel
set_option maxRecDepth 100000 in
theorem kOK_12 : ((KLL.getD 12 []).all fun e => kOK 12 e.1 e.2) = true := by decide +kernel
set_option maxRecDepth 100000 in
theorem kOK_13 : ((KLL.getD 13 []).all fun e => kOK 13 e.1 e.2) = true := by decide +kernel
set_option maxRecDepth 100000 in
theorem kOK_14 : ((KLL.getD 14 []).all fun e => kOK 14 e.1 e.2) = true := by decide +kernel
set_option maxRecDepth 100000 in
theorem kOK_15 : ((KLL.getD 15 []).all fun e => kOK 15 e.1 e.2) = true := by decide +kernel
set_option maxRecDepth 100000 in
theorem kOK_16 : ((KLL.getD 16 []).all fun e => kOK 16 e.1 e.2) = true := by decide +kernel
set_option maxRecDepth 100000 in
theorem kOK_17 : ((KLL.getD 17 []).all fun e => kOK 17 e.1 e.2) = true := by decide +kernel
theorem kOK_all : ∀ o, o < KLL.length → ((KLL.getD o []).all fun e => kOK o e.1 e.2) = true := by
  intro o ho
  have ho : o < 18 := ho
  rcases (show o = 0 ∨ o = 1 ∨ o = 2 ∨ o = 3 ∨ o = 4 ∨ o = 5 ∨ o = 6 ∨ o = 7 ∨ o = 8 ∨ o = 9 ∨ o = 10 ∨ o = 11 ∨ o = 12 ∨ o = 13 ∨ o = 14 ∨ o = 15 ∨ o = 16 ∨ o = 17 by omega) with rfl | rfl | rfl | rfl | rfl | rfl | rfl | rfl | rfl | rfl | rfl | rfl | rfl | rfl | rfl | rfl | rfl | rfl
  · exact kOK_0
  · exact kOK_1
  · exact kOK_2
  · exact kOK_3
  · exact kOK_4
  · exact kOK_5
  · exact kOK_6
  · exact kOK_7
  · exact kOK_8
  · exact kOK_9
  · exact kOK_10
  · exact kOK_11
  · exact kOK_12
  · exact kOK_13
  · exact kOK_14
  · exact kOK_15
  · exact kOK_16
  · exact kOK_17
theorem kOK_lk {o ix : Nat} {x : Int64} (e : lk KLL o ix = some x) : kOK o ix x = true := lk_all (P := fun o ix x => kOK o ix x) kOK_all e
/-- the texts' places in the reader's pool -/
def TXK : List (Nat × String) := [(216, "hill"), (218, "seats"), (219, "rider"), (221, "wear"), (222, "fare"), (224, "board"), (226, "move"), (228, "off"), (230, "tell"), (232, "joke"), (234, "go"), (236, "share"), (238, "back"), (240, "need"), (241, "come"), (242, "many"), (244, "climbed"), (246, "stalled"), (208, "loss"), (210, "love"), (212, "shame"), (214, "false")]
def xOK (o ix : Nat) (v : Value) : Bool := match v with
  | .int x => decide (Cond.constant (CN o) ix x ∈ lw_tbl)
  | .ref r => decide (o = 5) && (decide (1000000 ≤ r ∧ r < 1000022) && decide ((TXK.getD (r - 1000000) (0, "")).1 = ix))
  | _ => false
set_option maxRecDepth 100000 in
theorem xOK_0 : ((KRL.getD 0 []).all fun e => xOK 0 e.1 e.2) = true := by decide +kernel
set_option maxRecDepth 100000 in
theorem xOK_1 : ((KRL.getD 1 []).all fun e => xOK 1 e.1 e.2) = true := by decide +kernel
set_option maxRecDepth 100000 in
theorem xOK_2 : ((KRL.getD 2 []).all fun e => xOK 2 e.1 e.2) = true := by decide +kernel
set_option maxRecDepth 100000 in
theorem xOK_3 : ((KRL.getD 3 []).all fun e => xOK 3 e.1 e.2) = true := by decide +kernel
set_option maxRecDepth 100000 in
theorem xOK_4 : ((KRL.getD 4 []).all fun e => xOK 4 e.1 e.2) = true := by decide +kernel
set_option maxRecDepth 100000 in
theorem xOK_5 : ((KRL.getD 5 []).all fun e => xOK 5 e.1 e.2) = true := by decide +kernel
set_option maxRecDepth 100000 in
theorem xOK_6 : ((KRL.getD 6 []).all fun e => xOK 6 e.1 e.2) = true := by decide +kernel
set_option maxRecDepth 100000 in
theorem xOK_7 : ((KRL.getD 7 []).all fun e => xOK 7 e.1 e.2) = true := by decide +kernel
set_option maxRecDepth 100000 in
theorem xOK_8 : ((KRL.getD 8 []).all fun e => xOK 8 e.1 e.2) = true := by decide +kernel
set_option maxRecDepth 100000 in
theorem xOK_9 : ((KRL.getD 9 []).all fun e => xOK 9 e.1 e.2) = true := by decide +kernel
set_option maxRecDepth 100000 in
theorem xOK_10 : ((KRL.getD 10 []).all fun e => xOK 10 e.1 e.2) = true := by decide +kernel
set_option maxRecDepth 100000 in
theorem xOK_11 : ((KRL.getD 11 []).all fun e => xOK 11 e.1 e.2) = true := by decide +kernel
set_option maxRecDepth 100000 in
theorem xOK_12 : ((KRL.getD 12 []).all fun e => xOK 12 e.1 e.2) = true := by decide +kernel
set_option maxRecDepth 100000 in
theorem xOK_13 : ((KRL.getD 13 []).all fun e => xOK 13 e.1 e.2) = true := by decide +kernel
set_option maxRecDepth 100000 in
theorem xOK_14 : ((KRL.getD 14 []).all fun e => xOK 14 e.1 e.2) = true := by decide +kernel
set_option maxRecDepth 100000 in
theorem xOK_15 : ((KRL.getD 15 []).all fun e => xOK 15 e.1 e.2) = true := by decide +kernel
set_option maxRecDepth 100000 in
theorem xOK_16 : ((KRL.getD 16 []).all fun e => xOK 16 e.1 e.2) = true := by decide +kernel
set_option maxRecDepth 100000 in
theorem xOK_17 : ((KRL.getD 17 []).all fun e => xOK 17 e.1 e.2) = true := by decide +kernel
theorem xOK_all : ∀ o, o < KRL.length → ((KRL.getD o []).all fun e => xOK o e.1 e.2) = true := by
  intro o ho
  have ho : o < 18 := ho
  rcases (show o = 0 ∨ o = 1 ∨ o = 2 ∨ o = 3 ∨ o = 4 ∨ o = 5 ∨ o = 6 ∨ o = 7 ∨ o = 8 ∨ o = 9 ∨ o = 10 ∨ o = 11 ∨ o = 12 ∨ o = 13 ∨ o = 14 ∨ o = 15 ∨ o = 16 ∨ o = 17 by omega) with rfl | rfl | rfl | rfl | rfl | rfl | rfl | rfl | rfl | rfl | rfl | rfl | rfl | rfl | rfl | rfl | rfl | rfl
  · exact xOK_0
  · exact xOK_1
  · exact xOK_2
  · exact xOK_3
  · exact xOK_4
  · exact xOK_5
  · exact xOK_6
  · exact xOK_7
  · exact xOK_8
  · exact xOK_9
  · exact xOK_10
  · exact xOK_11
  · exact xOK_12
  · exact xOK_13
  · exact xOK_14
  · exact xOK_15
  · exact xOK_16
  · exact xOK_17
theorem xOK_lk {o ix : Nat} {x : Value} (e : lk KRL o ix = some x) : xOK o ix x = true := lk_all (P := fun o ix x => xOK o ix x) xOK_all e
/-- the statics: class, name, type, value -/
def STL : List (String × String × String × Value) := [("GriefTram$Reader", "FIRST_FORMS", "[I", .ref 1000200), ("GriefTram$Reader", "FORMS", "[I", .ref 1000201), ("java/lang/String", "COMPACT_STRINGS", "Z", .int 1), ("jdk/internal/util/Preconditions", "SIOOBE_FORMATTER", "Ljava/util/function/BiFunction;", .ref 1000400)]
def tOK (o ix : Nat) (v : Value) : Bool := STL.any fun q => decide (q.2.2.2 = v) && decide (Cond.fieldLink (CN o) ix q.1 q.2.1 q.2.2.1 ∈ lw_tbl)
set_option maxRecDepth 100000 in
theorem tOK_0 : ((SRL.getD 0 []).all fun e => tOK 0 e.1 e.2) = true := by decide +kernel
set_option maxRecDepth 100000 in
theorem tOK_1 : ((SRL.getD 1 []).all fun e => tOK 1 e.1 e.2) = true := by decide +kernel
set_option maxRecDepth 100000 in
theorem tOK_2 : ((SRL.getD 2 []).all fun e => tOK 2 e.1 e.2) = true := by decide +kernel
set_option maxRecDepth 100000 in
theorem tOK_3 : ((SRL.getD 3 []).all fun e => tOK 3 e.1 e.2) = true := by decide +kernel
set_option maxRecDepth 100000 in
theorem tOK_4 : ((SRL.getD 4 []).all fun e => tOK 4 e.1 e.2) = true := by decide +kernel
set_option maxRecDepth 100000 in
theorem tOK_5 : ((SRL.getD 5 []).all fun e => tOK 5 e.1 e.2) = true := by decide +kernel
set_option maxRecDepth 100000 in
theorem tOK_6 : ((SRL.getD 6 []).all fun e => tOK 6 e.1 e.2) = true := by decide +kernel
set_option maxRecDepth 100000 in
theorem tOK_7 : ((SRL.getD 7 []).all fun e => tOK 7 e.1 e.2) = true := by decide +kernel
set_option maxRecDepth 100000 in
theorem tOK_8 : ((SRL.getD 8 []).all fun e => tOK 8 e.1 e.2) = true := by decide +kernel
set_option maxRecDepth 100000 in
theorem tOK_9 : ((SRL.getD 9 []).all fun e => tOK 9 e.1 e.2) = true := by decide +kernel
set_option maxRecDepth 100000 in
theorem tOK_10 : ((SRL.getD 10 []).all fun e => tOK 10 e.1 e.2) = true := by decide +kernel
set_option maxRecDepth 100000 in
theorem tOK_11 : ((SRL.getD 11 []).all fun e => tOK 11 e.1 e.2) = true := by decide +kernel
set_option maxRecDepth 100000 in
theorem tOK_12 : ((SRL.getD 12 []).all fun e => tOK 12 e.1 e.2) = true := by decide +kernel
set_option maxRecDepth 100000 in
theorem tOK_13 : ((SRL.getD 13 []).all fun e => tOK 13 e.1 e.2) = true := by decide +kernel
set_option maxRecDepth 100000 in
theorem tOK_14 : ((SRL.getD 14 []).all fun e => tOK 14 e.1 e.2) = true := by decide +kernel
set_option maxRecDepth 100000 in
theorem tOK_15 : ((SRL.getD 15 []).all fun e => tOK 15 e.1 e.2) = true := by decide +kernel
set_option maxRecDepth 100000 in
theorem tOK_16 : ((SRL.getD 16 []).all fun e => tOK 16 e.1 e.2) = true := by decide +kernel
set_option maxRecDepth 100000 in
theorem tOK_17 : ((SRL.getD 17 []).all fun e => tOK 17 e.1 e.2) = true := by decide +kernel
theorem tOK_all : ∀ o, o < SRL.length → ((SRL.getD o []).all fun e => tOK o e.1 e.2) = true := by
  intro o ho
  have ho : o < 18 := ho
  rcases (show o = 0 ∨ o = 1 ∨ o = 2 ∨ o = 3 ∨ o = 4 ∨ o = 5 ∨ o = 6 ∨ o = 7 ∨ o = 8 ∨ o = 9 ∨ o = 10 ∨ o = 11 ∨ o = 12 ∨ o = 13 ∨ o = 14 ∨ o = 15 ∨ o = 16 ∨ o = 17 by omega) with rfl | rfl | rfl | rfl | rfl | rfl | rfl | rfl | rfl | rfl | rfl | rfl | rfl | rfl | rfl | rfl | rfl | rfl
  · exact tOK_0
  · exact tOK_1
  · exact tOK_2
  · exact tOK_3
  · exact tOK_4
  · exact tOK_5
  · exact tOK_6
  · exact tOK_7
  · exact tOK_8
  · exact tOK_9
  · exact tOK_10
  · exact tOK_11
  · exact tOK_12
  · exact tOK_13
  · exact tOK_14
  · exact tOK_15
  · exact tOK_16
  · exact tOK_17
theorem tOK_lk {o ix : Nat} {x : Value} (e : lk SRL o ix = some x) : tOK o ix x = true := lk_all (P := fun o ix x => tOK o ix x) tOK_all e
