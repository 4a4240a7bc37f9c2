/-- the lengths of the instructions that are met here -/
def lenOf (ins : Instr) : Nat := match ins with
  | .aaload => 1
  | .aastore => 1
  | .aconst_null => 1
  | .aload _ => 2
  | .aload_n _ => 1
  | .anewarray _ => 3
  | .areturn => 1
  | .arraylength => 1
  | .astore _ => 2
  | .astore_n _ => 1
  | .baload => 1
  | .bastore => 1
  | .bipush _ => 2
  | .dup => 1
  | .dup2 => 1
  | .getfield _ => 3
  | .getstatic _ => 3
  | .goto _ => 3
  | .i2b => 1
  | .i2c => 1
  | .i2l => 1
  | .iadd => 1
  | .iaload => 1
  | .iand => 1
  | .iastore => 1
  | .iconst _ => 1
  | .idiv => 1
  | .if_icmp _ _ => 3
  | .ifCond _ _ => 3
  | .ifnonnull _ => 3
  | .ifnull _ => 3
  | .iinc _ _ => 3
  | .iload _ => 2
  | .iload_n _ => 1
  | .imul => 1
  | .ineg => 1
  | .invokespecial _ => 3
  | .invokestatic _ => 3
  | .invokevirtual _ => 3
  | .ior => 1
  | .irem => 1
  | .ireturn => 1
  | .ishl => 1
  | .ishr => 1
  | .istore _ => 2
  | .istore_n _ => 1
  | .isub => 1
  | .iushr => 1
  | .ixor => 1
  | .ladd => 1
  | .laload => 1
  | .lastore => 1
  | .lcmp => 1
  | .lconst _ => 1
  | .ldc _ => 2
  | .ldc_w _ => 3
  | .ldc2_w _ => 3
  | .lload _ => 2
  | .lload_n _ => 1
  | .lmul => 1
  | .lor => 1
  | .lreturn => 1
  | .lshl => 1
  | .lstore _ => 2
  | .lstore_n _ => 1
  | .new _ => 3
  | .newarray _ => 2
  | .pop => 1
  | .putfield _ => 3
  | .return_ => 1
  | .sipush _ => 3
  | _ => 0
def lenOK (ins : Instr) (len : Nat) : Bool := if lenOf ins = 0 then true else decide (len = lenOf ins)
set_option maxRecDepth 100000 in
theorem len_0 : (PG_0.all fun pm => pm.2.2.2.2.2.2.2.2.all fun e => lenOK e.2.1 e.2.2) = true := by decide +kernel
set_option maxRecDepth 100000 in
theorem len_1 : (PG_1.all fun pm => pm.2.2.2.2.2.2.2.2.all fun e => lenOK e.2.1 e.2.2) = true := by decide +kernel
set_option maxRecDepth 100000 in
theorem len_2 : (PG_2.all fun pm => pm.2.2.2.2.2.2.2.2.all fun e => lenOK e.2.1 e.2.2) = true := by decide +kernel
set_option maxRecDepth 100000 in
theorem len_3 : (PG_3.all fun pm => pm.2.2.2.2.2.2.2.2.all fun e => lenOK e.2.1 e.2.2) = true := by decide +kernel
set_option maxRecDepth 100000 in
theorem len_4 : (PG_4.all fun pm => pm.2.2.2.2.2.2.2.2.all fun e => lenOK e.2.1 e.2.2) = true := by decide +kernel
set_option maxRecDepth 100000 in
theorem len_5 : (PG_5.all fun pm => pm.2.2.2.2.2.2.2.2.all fun e => lenOK e.2.1 e.2.2) = true := by decide +kernel
set_option maxRecDepth 100000 in
theorem len_6 : (PG_6.all fun pm => pm.2.2.2.2.2.2.2.2.all fun e => lenOK e.2.1 e.2.2) = true := by decide +kernel
set_option maxRecDepth 100000 in
theorem len_7 : (PG_7.all fun pm => pm.2.2.2.2.2.2.2.2.all fun e => lenOK e.2.1 e.2.2) = true := by decide +kernel
set_option maxRecDepth 100000 in
theorem len_8 : (PG_8.all fun pm => pm.2.2.2.2.2.2.2.2.all fun e => lenOK e.2.1 e.2.2) = true := by decide +kernel
set_option maxRecDepth 100000 in
theorem len_9 : (PG_9.all fun pm => pm.2.2.2.2.2.2.2.2.all fun e => lenOK e.2.1 e.2.2) = true := by decide +kernel
set_option maxRecDepth 100000 in
theorem len_10 : (PG_10.all fun pm => pm.2.2.2.2.2.2.2.2.all fun e => lenOK e.2.1 e.2.2) = true := by decide +kernel
set_option maxRecDepth 100000 in
theorem len_11 : (PG_11.all fun pm => pm.2.2.2.2.2.2.2.2.all fun e => lenOK e.2.1 e.2.2) = true := by decide +kernel
set_option maxRecDepth 100000 in
theorem len_12 : (PG_12.all fun pm => pm.2.2.2.2.2.2.2.2.all fun e => lenOK e.2.1 e.2.2) = true := by decide +kernel
set_option maxRecDepth 100000 in
theorem len_13 : (PG_13.all fun pm => pm.2.2.2.2.2.2.2.2.all fun e => lenOK e.2.1 e.2.2) = true := by decide +kernel
theorem PGL_len : ∀ pm ∈ PGL, (pm.2.2.2.2.2.2.2.2.all fun e => lenOK e.2.1 e.2.2) = true := by
  rw [PGL_eq]
  exact List.forall_mem_append.mpr ⟨List.all_eq_true.mp len_0, List.forall_mem_append.mpr ⟨List.all_eq_true.mp len_1, List.forall_mem_append.mpr ⟨List.all_eq_true.mp len_2, List.forall_mem_append.mpr ⟨List.all_eq_true.mp len_3, List.forall_mem_append.mpr ⟨List.all_eq_true.mp len_4, List.forall_mem_append.mpr ⟨List.all_eq_true.mp len_5, List.forall_mem_append.mpr ⟨List.all_eq_true.mp len_6, List.forall_mem_append.mpr ⟨List.all_eq_true.mp len_7, List.forall_mem_append.mpr ⟨List.all_eq_true.mp len_8, List.forall_mem_append.mpr ⟨List.all_eq_true.mp len_9, List.forall_mem_append.mpr ⟨List.all_eq_true.mp len_10, List.forall_mem_append.mpr ⟨List.all_eq_true.mp len_11, List.forall_mem_append.mpr ⟨List.all_eq_true.mp len_12, List.all_eq_true.mp len_13⟩⟩⟩⟩⟩⟩⟩⟩⟩⟩⟩⟩⟩
set_option maxHeartbeats 4000000 in
theorem SP_all (ins : Instr) (len : Nat) (h : lenOK ins len = true) : SP ins len := by
  cases ins with
  | aaload => 
    have e : len = 1 := of_decide_eq_true h
    subst e
    exact q_aaload
  | aastore => 
    have e : len = 1 := of_decide_eq_true h
    subst e
    exact q_aastore
  | aconst_null => 
    have e : len = 1 := of_decide_eq_true h
    subst e
    exact q_aconst_null
  | aload a0 => 
    have e : len = 2 := of_decide_eq_true h
    subst e
    exact q_aload a0
  | aload_n a0 => 
    have e : len = 1 := of_decide_eq_true h
    subst e
    exact q_aload_n a0
  | anewarray a0 => 
    have e : len = 3 := of_decide_eq_true h
    subst e
    exact q_anewarray a0
  | areturn => 
    intro p l e R s s0 m args below meth c H locs cells slots Q D cy cv C pm M0 M pc ls lv ll st g hB hA hd hp hs
    exact absurd hs (by simp [stp])
  | arraylength => 
    have e : len = 1 := of_decide_eq_true h
    subst e
    exact q_arraylength
  | astore a0 => 
    have e : len = 2 := of_decide_eq_true h
    subst e
    exact q_astore a0
  | astore_n a0 => 
    have e : len = 1 := of_decide_eq_true h
    subst e
    exact q_astore_n a0
  | athrow => 
    intro p l e R s s0 m args below meth c H locs cells slots Q D cy cv C pm M0 M pc ls lv ll st g hB hA hd hp hs
    exact absurd hs (by simp [stp])
  | baload => 
    have e : len = 1 := of_decide_eq_true h
    subst e
    exact q_baload
  | bastore => 
    have e : len = 1 := of_decide_eq_true h
    subst e
    exact q_bastore
  | bipush a0 => 
    have e : len = 2 := of_decide_eq_true h
    subst e
    exact q_bipush a0
  | caload => 
    intro p l e R s s0 m args below meth c H locs cells slots Q D cy cv C pm M0 M pc ls lv ll st g hB hA hd hp hs
    exact absurd hs (by simp [stp])
  | castore => 
    intro p l e R s s0 m args below meth c H locs cells slots Q D cy cv C pm M0 M pc ls lv ll st g hB hA hd hp hs
    exact absurd hs (by simp [stp])
  | checkcast a0 => 
    intro p l e R s s0 m args below meth c H locs cells slots Q D cy cv C pm M0 M pc ls lv ll st g hB hA hd hp hs
    exact absurd hs (by simp [stp])
  | d2f => 
    intro p l e R s s0 m args below meth c H locs cells slots Q D cy cv C pm M0 M pc ls lv ll st g hB hA hd hp hs
    exact absurd hs (by simp [stp])
  | d2i => 
    intro p l e R s s0 m args below meth c H locs cells slots Q D cy cv C pm M0 M pc ls lv ll st g hB hA hd hp hs
    exact absurd hs (by simp [stp])
  | d2l => 
    intro p l e R s s0 m args below meth c H locs cells slots Q D cy cv C pm M0 M pc ls lv ll st g hB hA hd hp hs
    exact absurd hs (by simp [stp])
  | dadd => 
    intro p l e R s s0 m args below meth c H locs cells slots Q D cy cv C pm M0 M pc ls lv ll st g hB hA hd hp hs
    exact absurd hs (by simp [stp])
  | daload => 
    intro p l e R s s0 m args below meth c H locs cells slots Q D cy cv C pm M0 M pc ls lv ll st g hB hA hd hp hs
    exact absurd hs (by simp [stp])
  | dastore => 
    intro p l e R s s0 m args below meth c H locs cells slots Q D cy cv C pm M0 M pc ls lv ll st g hB hA hd hp hs
    exact absurd hs (by simp [stp])
  | dcmp a0 => 
    intro p l e R s s0 m args below meth c H locs cells slots Q D cy cv C pm M0 M pc ls lv ll st g hB hA hd hp hs
    exact absurd hs (by simp [stp])
  | dconst a0 => 
    intro p l e R s s0 m args below meth c H locs cells slots Q D cy cv C pm M0 M pc ls lv ll st g hB hA hd hp hs
    exact absurd hs (by simp [stp])
  | ddiv => 
    intro p l e R s s0 m args below meth c H locs cells slots Q D cy cv C pm M0 M pc ls lv ll st g hB hA hd hp hs
    exact absurd hs (by simp [stp])
  | dload a0 => 
    intro p l e R s s0 m args below meth c H locs cells slots Q D cy cv C pm M0 M pc ls lv ll st g hB hA hd hp hs
    exact absurd hs (by simp [stp])
  | dload_n a0 => 
    intro p l e R s s0 m args below meth c H locs cells slots Q D cy cv C pm M0 M pc ls lv ll st g hB hA hd hp hs
    exact absurd hs (by simp [stp])
  | dmul => 
    intro p l e R s s0 m args below meth c H locs cells slots Q D cy cv C pm M0 M pc ls lv ll st g hB hA hd hp hs
    exact absurd hs (by simp [stp])
  | dneg => 
    intro p l e R s s0 m args below meth c H locs cells slots Q D cy cv C pm M0 M pc ls lv ll st g hB hA hd hp hs
    exact absurd hs (by simp [stp])
  | drem => 
    intro p l e R s s0 m args below meth c H locs cells slots Q D cy cv C pm M0 M pc ls lv ll st g hB hA hd hp hs
    exact absurd hs (by simp [stp])
  | dreturn => 
    intro p l e R s s0 m args below meth c H locs cells slots Q D cy cv C pm M0 M pc ls lv ll st g hB hA hd hp hs
    exact absurd hs (by simp [stp])
  | dstore a0 => 
    intro p l e R s s0 m args below meth c H locs cells slots Q D cy cv C pm M0 M pc ls lv ll st g hB hA hd hp hs
    exact absurd hs (by simp [stp])
  | dstore_n a0 => 
    intro p l e R s s0 m args below meth c H locs cells slots Q D cy cv C pm M0 M pc ls lv ll st g hB hA hd hp hs
    exact absurd hs (by simp [stp])
  | dsub => 
    intro p l e R s s0 m args below meth c H locs cells slots Q D cy cv C pm M0 M pc ls lv ll st g hB hA hd hp hs
    exact absurd hs (by simp [stp])
  | dup => 
    have e : len = 1 := of_decide_eq_true h
    subst e
    exact q_dup
  | dup_x1 => 
    intro p l e R s s0 m args below meth c H locs cells slots Q D cy cv C pm M0 M pc ls lv ll st g hB hA hd hp hs
    exact absurd hs (by simp [stp])
  | dup_x2 => 
    intro p l e R s s0 m args below meth c H locs cells slots Q D cy cv C pm M0 M pc ls lv ll st g hB hA hd hp hs
    exact absurd hs (by simp [stp])
  | dup2 => 
    have e : len = 1 := of_decide_eq_true h
    subst e
    exact q_dup2
  | dup2_x1 => 
    intro p l e R s s0 m args below meth c H locs cells slots Q D cy cv C pm M0 M pc ls lv ll st g hB hA hd hp hs
    exact absurd hs (by simp [stp])
  | dup2_x2 => 
    intro p l e R s s0 m args below meth c H locs cells slots Q D cy cv C pm M0 M pc ls lv ll st g hB hA hd hp hs
    exact absurd hs (by simp [stp])
  | f2d => 
    intro p l e R s s0 m args below meth c H locs cells slots Q D cy cv C pm M0 M pc ls lv ll st g hB hA hd hp hs
    exact absurd hs (by simp [stp])
  | f2i => 
    intro p l e R s s0 m args below meth c H locs cells slots Q D cy cv C pm M0 M pc ls lv ll st g hB hA hd hp hs
    exact absurd hs (by simp [stp])
  | f2l => 
    intro p l e R s s0 m args below meth c H locs cells slots Q D cy cv C pm M0 M pc ls lv ll st g hB hA hd hp hs
    exact absurd hs (by simp [stp])
  | fadd => 
    intro p l e R s s0 m args below meth c H locs cells slots Q D cy cv C pm M0 M pc ls lv ll st g hB hA hd hp hs
    exact absurd hs (by simp [stp])
  | faload => 
    intro p l e R s s0 m args below meth c H locs cells slots Q D cy cv C pm M0 M pc ls lv ll st g hB hA hd hp hs
    exact absurd hs (by simp [stp])
  | fastore => 
    intro p l e R s s0 m args below meth c H locs cells slots Q D cy cv C pm M0 M pc ls lv ll st g hB hA hd hp hs
    exact absurd hs (by simp [stp])
  | fcmp a0 => 
    intro p l e R s s0 m args below meth c H locs cells slots Q D cy cv C pm M0 M pc ls lv ll st g hB hA hd hp hs
    exact absurd hs (by simp [stp])
  | fconst a0 => 
    intro p l e R s s0 m args below meth c H locs cells slots Q D cy cv C pm M0 M pc ls lv ll st g hB hA hd hp hs
    exact absurd hs (by simp [stp])
  | fdiv => 
    intro p l e R s s0 m args below meth c H locs cells slots Q D cy cv C pm M0 M pc ls lv ll st g hB hA hd hp hs
    exact absurd hs (by simp [stp])
  | fload a0 => 
    intro p l e R s s0 m args below meth c H locs cells slots Q D cy cv C pm M0 M pc ls lv ll st g hB hA hd hp hs
    exact absurd hs (by simp [stp])
  | fload_n a0 => 
    intro p l e R s s0 m args below meth c H locs cells slots Q D cy cv C pm M0 M pc ls lv ll st g hB hA hd hp hs
    exact absurd hs (by simp [stp])
  | fmul => 
    intro p l e R s s0 m args below meth c H locs cells slots Q D cy cv C pm M0 M pc ls lv ll st g hB hA hd hp hs
    exact absurd hs (by simp [stp])
  | fneg => 
    intro p l e R s s0 m args below meth c H locs cells slots Q D cy cv C pm M0 M pc ls lv ll st g hB hA hd hp hs
    exact absurd hs (by simp [stp])
  | frem => 
    intro p l e R s s0 m args below meth c H locs cells slots Q D cy cv C pm M0 M pc ls lv ll st g hB hA hd hp hs
    exact absurd hs (by simp [stp])
  | freturn => 
    intro p l e R s s0 m args below meth c H locs cells slots Q D cy cv C pm M0 M pc ls lv ll st g hB hA hd hp hs
    exact absurd hs (by simp [stp])
  | fstore a0 => 
    intro p l e R s s0 m args below meth c H locs cells slots Q D cy cv C pm M0 M pc ls lv ll st g hB hA hd hp hs
    exact absurd hs (by simp [stp])
  | fstore_n a0 => 
    intro p l e R s s0 m args below meth c H locs cells slots Q D cy cv C pm M0 M pc ls lv ll st g hB hA hd hp hs
    exact absurd hs (by simp [stp])
  | fsub => 
    intro p l e R s s0 m args below meth c H locs cells slots Q D cy cv C pm M0 M pc ls lv ll st g hB hA hd hp hs
    exact absurd hs (by simp [stp])
  | getfield a0 => 
    have e : len = 3 := of_decide_eq_true h
    subst e
    exact q_getfield a0
  | getstatic a0 => 
    have e : len = 3 := of_decide_eq_true h
    subst e
    exact q_getstatic a0
  | goto a0 => 
    have e : len = 3 := of_decide_eq_true h
    subst e
    exact q_goto a0
  | goto_w a0 => 
    intro p l e R s s0 m args below meth c H locs cells slots Q D cy cv C pm M0 M pc ls lv ll st g hB hA hd hp hs
    exact absurd hs (by simp [stp])
  | i2b => 
    have e : len = 1 := of_decide_eq_true h
    subst e
    exact q_i2b
  | i2c => 
    have e : len = 1 := of_decide_eq_true h
    subst e
    exact q_i2c
  | i2d => 
    intro p l e R s s0 m args below meth c H locs cells slots Q D cy cv C pm M0 M pc ls lv ll st g hB hA hd hp hs
    exact absurd hs (by simp [stp])
  | i2f => 
    intro p l e R s s0 m args below meth c H locs cells slots Q D cy cv C pm M0 M pc ls lv ll st g hB hA hd hp hs
    exact absurd hs (by simp [stp])
  | i2l => 
    have e : len = 1 := of_decide_eq_true h
    subst e
    exact q_i2l
  | i2s => 
    intro p l e R s s0 m args below meth c H locs cells slots Q D cy cv C pm M0 M pc ls lv ll st g hB hA hd hp hs
    exact absurd hs (by simp [stp])
  | iadd => 
    have e : len = 1 := of_decide_eq_true h
    subst e
    exact q_iadd
  | iaload => 
    have e : len = 1 := of_decide_eq_true h
    subst e
    exact q_iaload
  | iand => 
    have e : len = 1 := of_decide_eq_true h
    subst e
    exact q_iand
  | iastore => 
    have e : len = 1 := of_decide_eq_true h
    subst e
    exact q_iastore
  | iconst a0 => 
    have e : len = 1 := of_decide_eq_true h
    subst e
    exact q_iconst a0
  | idiv => 
    have e : len = 1 := of_decide_eq_true h
    subst e
    exact q_idiv
  | if_acmp a0 a1 => 
    intro p l e R s s0 m args below meth c H locs cells slots Q D cy cv C pm M0 M pc ls lv ll st g hB hA hd hp hs
    exact absurd hs (by simp [stp])
  | if_icmp c off =>
    have e : len = 3 := of_decide_eq_true h
    subst e
    cases c with
    | eq => exact q_if_icmp_eq off
    | ne => exact q_if_icmp_ne off
    | lt => exact q_if_icmp_lt off
    | ge => exact q_if_icmp_ge off
    | gt => exact q_if_icmp_gt off
    | le => exact q_if_icmp_le off
  | ifCond c off =>
    have e : len = 3 := of_decide_eq_true h
    subst e
    cases c with
    | eq => exact q_ifCond_eq off
    | ne => exact q_ifCond_ne off
    | lt => exact q_ifCond_lt off
    | ge => exact q_ifCond_ge off
    | gt => exact q_ifCond_gt off
    | le => exact q_ifCond_le off
  | ifnonnull a0 => 
    have e : len = 3 := of_decide_eq_true h
    subst e
    exact q_ifnonnull a0
  | ifnull a0 => 
    have e : len = 3 := of_decide_eq_true h
    subst e
    exact q_ifnull a0
  | iinc a0 a1 => 
    have e : len = 3 := of_decide_eq_true h
    subst e
    exact q_iinc a0 a1
  | iload a0 => 
    have e : len = 2 := of_decide_eq_true h
    subst e
    exact q_iload a0
  | iload_n a0 => 
    have e : len = 1 := of_decide_eq_true h
    subst e
    exact q_iload_n a0
  | imul => 
    have e : len = 1 := of_decide_eq_true h
    subst e
    exact q_imul
  | ineg => 
    have e : len = 1 := of_decide_eq_true h
    subst e
    exact q_ineg
  | instanceof a0 => 
    intro p l e R s s0 m args below meth c H locs cells slots Q D cy cv C pm M0 M pc ls lv ll st g hB hA hd hp hs
    exact absurd hs (by simp [stp])
  | invokedynamic a0 => 
    intro p l e R s s0 m args below meth c H locs cells slots Q D cy cv C pm M0 M pc ls lv ll st g hB hA hd hp hs
    exact absurd hs (by simp [stp])
  | invokeinterface a0 a1 => 
    intro p l e R s s0 m args below meth c H locs cells slots Q D cy cv C pm M0 M pc ls lv ll st g hB hA hd hp hs
    exact absurd hs (by simp [stp])
  | invokespecial a0 => 
    have e : len = 3 := of_decide_eq_true h
    subst e
    exact q_invokespecial a0
  | invokestatic a0 => 
    have e : len = 3 := of_decide_eq_true h
    subst e
    exact q_invokestatic a0
  | invokevirtual a0 => 
    intro p l e R s s0 m args below meth c H locs cells slots Q D cy cv C pm M0 M pc ls lv ll st g hB hA hd hp hs
    exact absurd hs (by simp [stp])
  | ior => 
    have e : len = 1 := of_decide_eq_true h
    subst e
    exact q_ior
  | irem => 
    have e : len = 1 := of_decide_eq_true h
    subst e
    exact q_irem
  | ireturn => 
    intro p l e R s s0 m args below meth c H locs cells slots Q D cy cv C pm M0 M pc ls lv ll st g hB hA hd hp hs
    exact absurd hs (by simp [stp])
  | ishl => 
    have e : len = 1 := of_decide_eq_true h
    subst e
    exact q_ishl
  | ishr => 
    have e : len = 1 := of_decide_eq_true h
    subst e
    exact q_ishr
  | istore a0 => 
    have e : len = 2 := of_decide_eq_true h
    subst e
    exact q_istore a0
  | istore_n a0 => 
    have e : len = 1 := of_decide_eq_true h
    subst e
    exact q_istore_n a0
  | isub => 
    have e : len = 1 := of_decide_eq_true h
    subst e
    exact q_isub
  | iushr => 
    have e : len = 1 := of_decide_eq_true h
    subst e
    exact q_iushr
  | ixor => 
    have e : len = 1 := of_decide_eq_true h
    subst e
    exact q_ixor
  | jsr a0 => 
    intro p l e R s s0 m args below meth c H locs cells slots Q D cy cv C pm M0 M pc ls lv ll st g hB hA hd hp hs
    exact absurd hs (by simp [stp])
  | jsr_w a0 => 
    intro p l e R s s0 m args below meth c H locs cells slots Q D cy cv C pm M0 M pc ls lv ll st g hB hA hd hp hs
    exact absurd hs (by simp [stp])
  | l2d => 
    intro p l e R s s0 m args below meth c H locs cells slots Q D cy cv C pm M0 M pc ls lv ll st g hB hA hd hp hs
    exact absurd hs (by simp [stp])
  | l2f => 
    intro p l e R s s0 m args below meth c H locs cells slots Q D cy cv C pm M0 M pc ls lv ll st g hB hA hd hp hs
    exact absurd hs (by simp [stp])
  | l2i => 
    intro p l e R s s0 m args below meth c H locs cells slots Q D cy cv C pm M0 M pc ls lv ll st g hB hA hd hp hs
    exact absurd hs (by simp [stp])
  | ladd => 
    have e : len = 1 := of_decide_eq_true h
    subst e
    exact q_ladd
  | laload => 
    have e : len = 1 := of_decide_eq_true h
    subst e
    exact q_laload
  | land => 
    intro p l e R s s0 m args below meth c H locs cells slots Q D cy cv C pm M0 M pc ls lv ll st g hB hA hd hp hs
    exact absurd hs (by simp [stp])
  | lastore => 
    have e : len = 1 := of_decide_eq_true h
    subst e
    exact q_lastore
  | lcmp => 
    have e : len = 1 := of_decide_eq_true h
    subst e
    exact q_lcmp
  | lconst a0 => 
    have e : len = 1 := of_decide_eq_true h
    subst e
    exact q_lconst a0
  | ldc a0 => 
    have e : len = 2 := of_decide_eq_true h
    subst e
    exact q_ldc a0
  | ldc_w a0 => 
    have e : len = 3 := of_decide_eq_true h
    subst e
    exact q_ldc_w a0
  | ldc2_w a0 => 
    have e : len = 3 := of_decide_eq_true h
    subst e
    exact q_ldc2_w a0
  | ldiv => 
    intro p l e R s s0 m args below meth c H locs cells slots Q D cy cv C pm M0 M pc ls lv ll st g hB hA hd hp hs
    exact absurd hs (by simp [stp])
  | lload a0 => 
    have e : len = 2 := of_decide_eq_true h
    subst e
    exact q_lload a0
  | lload_n a0 => 
    have e : len = 1 := of_decide_eq_true h
    subst e
    exact q_lload_n a0
  | lmul => 
    have e : len = 1 := of_decide_eq_true h
    subst e
    exact q_lmul
  | lneg => 
    intro p l e R s s0 m args below meth c H locs cells slots Q D cy cv C pm M0 M pc ls lv ll st g hB hA hd hp hs
    exact absurd hs (by simp [stp])
  | lookupswitch a0 a1 => exact q_lookupswitch a0 a1 len
  | lor => 
    have e : len = 1 := of_decide_eq_true h
    subst e
    exact q_lor
  | lrem => 
    intro p l e R s s0 m args below meth c H locs cells slots Q D cy cv C pm M0 M pc ls lv ll st g hB hA hd hp hs
    exact absurd hs (by simp [stp])
  | lreturn => 
    intro p l e R s s0 m args below meth c H locs cells slots Q D cy cv C pm M0 M pc ls lv ll st g hB hA hd hp hs
    exact absurd hs (by simp [stp])
  | lshl => 
    have e : len = 1 := of_decide_eq_true h
    subst e
    exact q_lshl
  | lshr => 
    intro p l e R s s0 m args below meth c H locs cells slots Q D cy cv C pm M0 M pc ls lv ll st g hB hA hd hp hs
    exact absurd hs (by simp [stp])
  | lstore a0 => 
    have e : len = 2 := of_decide_eq_true h
    subst e
    exact q_lstore a0
  | lstore_n a0 => 
    have e : len = 1 := of_decide_eq_true h
    subst e
    exact q_lstore_n a0
  | lsub => 
    intro p l e R s s0 m args below meth c H locs cells slots Q D cy cv C pm M0 M pc ls lv ll st g hB hA hd hp hs
    exact absurd hs (by simp [stp])
  | lushr => 
    intro p l e R s s0 m args below meth c H locs cells slots Q D cy cv C pm M0 M pc ls lv ll st g hB hA hd hp hs
    exact absurd hs (by simp [stp])
  | lxor => 
    intro p l e R s s0 m args below meth c H locs cells slots Q D cy cv C pm M0 M pc ls lv ll st g hB hA hd hp hs
    exact absurd hs (by simp [stp])
  | monitorenter => 
    intro p l e R s s0 m args below meth c H locs cells slots Q D cy cv C pm M0 M pc ls lv ll st g hB hA hd hp hs
    exact absurd hs (by simp [stp])
  | monitorexit => 
    intro p l e R s s0 m args below meth c H locs cells slots Q D cy cv C pm M0 M pc ls lv ll st g hB hA hd hp hs
    exact absurd hs (by simp [stp])
  | multianewarray a0 a1 => 
    intro p l e R s s0 m args below meth c H locs cells slots Q D cy cv C pm M0 M pc ls lv ll st g hB hA hd hp hs
    exact absurd hs (by simp [stp])
  | new a0 => 
    have e : len = 3 := of_decide_eq_true h
    subst e
    exact q_new a0
  | newarray a0 => 
    have e : len = 2 := of_decide_eq_true h
    subst e
    exact q_newarray a0
  | nop => 
    intro p l e R s s0 m args below meth c H locs cells slots Q D cy cv C pm M0 M pc ls lv ll st g hB hA hd hp hs
    exact absurd hs (by simp [stp])
  | pop => 
    have e : len = 1 := of_decide_eq_true h
    subst e
    exact q_pop
  | pop2 => 
    intro p l e R s s0 m args below meth c H locs cells slots Q D cy cv C pm M0 M pc ls lv ll st g hB hA hd hp hs
    exact absurd hs (by simp [stp])
  | putfield a0 => 
    have e : len = 3 := of_decide_eq_true h
    subst e
    exact q_putfield a0
  | putstatic a0 => 
    intro p l e R s s0 m args below meth c H locs cells slots Q D cy cv C pm M0 M pc ls lv ll st g hB hA hd hp hs
    exact absurd hs (by simp [stp])
  | ret a0 => 
    intro p l e R s s0 m args below meth c H locs cells slots Q D cy cv C pm M0 M pc ls lv ll st g hB hA hd hp hs
    exact absurd hs (by simp [stp])
  | return_ => 
    intro p l e R s s0 m args below meth c H locs cells slots Q D cy cv C pm M0 M pc ls lv ll st g hB hA hd hp hs
    exact absurd hs (by simp [stp])
  | saload => 
    intro p l e R s s0 m args below meth c H locs cells slots Q D cy cv C pm M0 M pc ls lv ll st g hB hA hd hp hs
    exact absurd hs (by simp [stp])
  | sastore => 
    intro p l e R s s0 m args below meth c H locs cells slots Q D cy cv C pm M0 M pc ls lv ll st g hB hA hd hp hs
    exact absurd hs (by simp [stp])
  | sipush a0 => 
    have e : len = 3 := of_decide_eq_true h
    subst e
    exact q_sipush a0
  | swap => 
    intro p l e R s s0 m args below meth c H locs cells slots Q D cy cv C pm M0 M pc ls lv ll st g hB hA hd hp hs
    exact absurd hs (by simp [stp])
  | tableswitch a0 a1 a2 a3 => exact q_tableswitch a0 a1 a2 a3 len
theorem br_T {c : Prop} {hc : Decidable c} {pc : Nat} {off : Int} {lv : Lv} {ll : Ll} {st : List Value} {M : Mm} {g : Cg} (h : br c pc off lv ll st M = some g) : g.2.2.2.2.1 = M.1 := by
  obtain ⟨t, -, h1, h2⟩ := br_some h
  by_cases hc : c
  · rw [h1 hc]
  · rw [h2 hc]
theorem pf_T {o ix r : Nat} {v : Value} {M M' : Mm} (h : pf o ix r v M = some M') : M'.1 = M.1 := by
  unfold pf at h
  split at h
  · cases h
  · split at h
    · cases h
    · split at h
      · split at h
        · cases h; rfl
        · split at h
          · cases h; rfl
          · cases h
        · cases h; rfl
        · split at h
          · cases h; rfl
          · cases h
        · cases h; rfl
        · cases h
      · cases h
theorem push_T {q : Nat} {v : Option Value} {lv : Lv} {ll : Ll} {st : List Value} {M : Mm} {g : Cg} (h : push q v lv ll st M = some g) : g.2.2.2.2.1 = M.1 := by
  obtain ⟨w, -, rfl⟩ := push_some h
  rfl
set_option maxHeartbeats 4000000 in
/-- the kinds of cells only grow -/
theorem stp_T {C : Ct} {o len pc : Nat} {ins : Instr} {lv : Lv} {ll : Ll} {st : List Value} {M : Mm} {g : Cg} (h : stp C o ins len pc lv ll st M = some g) : g.2.2.2.2.1 = M.1 ∨ ∃ q, g.2.2.2.2.1 = M.1 ++ [q] := by
  cases ins with
  | aaload => 
    simp only [stp] at h
    repeat' split at h
    all_goals first
      | exact Or.inl (br_T h)
      | exact Or.inl (push_T h)
      | (cases h; done)
      | (rename_i hn; cases h; exact Or.inl (pf_T hn))
      | (cases h; exact Or.inl rfl)
  | aastore => 
    simp only [stp] at h
    repeat' split at h
    all_goals first
      | exact Or.inl (br_T h)
      | exact Or.inl (push_T h)
      | (cases h; done)
      | (rename_i hn; cases h; exact Or.inl (pf_T hn))
      | (cases h; exact Or.inl rfl)
  | aconst_null => 
    simp only [stp] at h
    exact Or.inl (push_T h)
  | aload a0 => 
    simp only [stp] at h
    exact Or.inl (push_T h)
  | aload_n a0 => 
    simp only [stp] at h
    exact Or.inl (push_T h)
  | anewarray a0 => 
    simp only [stp] at h
    repeat' split at h
    all_goals first
      | (cases h; done)
      | (rename_i hn; cases h; exact Or.inr ⟨_, nw_len hn⟩)
  | areturn => exact absurd h (by simp [stp])
  | arraylength => 
    simp only [stp] at h
    repeat' split at h
    all_goals first
      | exact Or.inl (br_T h)
      | exact Or.inl (push_T h)
      | (cases h; done)
      | (rename_i hn; cases h; exact Or.inl (pf_T hn))
      | (cases h; exact Or.inl rfl)
  | astore a0 => 
    simp only [stp] at h
    repeat' split at h
    all_goals first
      | exact Or.inl (br_T h)
      | exact Or.inl (push_T h)
      | (cases h; done)
      | (rename_i hn; cases h; exact Or.inl (pf_T hn))
      | (cases h; exact Or.inl rfl)
  | astore_n a0 => 
    simp only [stp] at h
    repeat' split at h
    all_goals first
      | exact Or.inl (br_T h)
      | exact Or.inl (push_T h)
      | (cases h; done)
      | (rename_i hn; cases h; exact Or.inl (pf_T hn))
      | (cases h; exact Or.inl rfl)
  | athrow => exact absurd h (by simp [stp])
  | baload => 
    simp only [stp] at h
    repeat' split at h
    all_goals first
      | exact Or.inl (br_T h)
      | exact Or.inl (push_T h)
      | (cases h; done)
      | (rename_i hn; cases h; exact Or.inl (pf_T hn))
      | (cases h; exact Or.inl rfl)
  | bastore => 
    simp only [stp] at h
    repeat' split at h
    all_goals first
      | exact Or.inl (br_T h)
      | exact Or.inl (push_T h)
      | (cases h; done)
      | (rename_i hn; cases h; exact Or.inl (pf_T hn))
      | (cases h; exact Or.inl rfl)
  | bipush a0 => 
    simp only [stp] at h
    exact Or.inl (push_T h)
  | caload => exact absurd h (by simp [stp])
  | castore => exact absurd h (by simp [stp])
  | checkcast a0 => exact absurd h (by simp [stp])
  | d2f => exact absurd h (by simp [stp])
  | d2i => exact absurd h (by simp [stp])
  | d2l => exact absurd h (by simp [stp])
  | dadd => exact absurd h (by simp [stp])
  | daload => exact absurd h (by simp [stp])
  | dastore => exact absurd h (by simp [stp])
  | dcmp a0 => exact absurd h (by simp [stp])
  | dconst a0 => exact absurd h (by simp [stp])
  | ddiv => exact absurd h (by simp [stp])
  | dload a0 => exact absurd h (by simp [stp])
  | dload_n a0 => exact absurd h (by simp [stp])
  | dmul => exact absurd h (by simp [stp])
  | dneg => exact absurd h (by simp [stp])
  | drem => exact absurd h (by simp [stp])
  | dreturn => exact absurd h (by simp [stp])
  | dstore a0 => exact absurd h (by simp [stp])
  | dstore_n a0 => exact absurd h (by simp [stp])
  | dsub => exact absurd h (by simp [stp])
  | dup => 
    simp only [stp] at h
    repeat' split at h
    all_goals first
      | exact Or.inl (br_T h)
      | exact Or.inl (push_T h)
      | (cases h; done)
      | (rename_i hn; cases h; exact Or.inl (pf_T hn))
      | (cases h; exact Or.inl rfl)
  | dup_x1 => exact absurd h (by simp [stp])
  | dup_x2 => exact absurd h (by simp [stp])
  | dup2 => 
    simp only [stp] at h
    repeat' split at h
    all_goals first
      | exact Or.inl (br_T h)
      | exact Or.inl (push_T h)
      | (cases h; done)
      | (rename_i hn; cases h; exact Or.inl (pf_T hn))
      | (cases h; exact Or.inl rfl)
  | dup2_x1 => exact absurd h (by simp [stp])
  | dup2_x2 => exact absurd h (by simp [stp])
  | f2d => exact absurd h (by simp [stp])
  | f2i => exact absurd h (by simp [stp])
  | f2l => exact absurd h (by simp [stp])
  | fadd => exact absurd h (by simp [stp])
  | faload => exact absurd h (by simp [stp])
  | fastore => exact absurd h (by simp [stp])
  | fcmp a0 => exact absurd h (by simp [stp])
  | fconst a0 => exact absurd h (by simp [stp])
  | fdiv => exact absurd h (by simp [stp])
  | fload a0 => exact absurd h (by simp [stp])
  | fload_n a0 => exact absurd h (by simp [stp])
  | fmul => exact absurd h (by simp [stp])
  | fneg => exact absurd h (by simp [stp])
  | frem => exact absurd h (by simp [stp])
  | freturn => exact absurd h (by simp [stp])
  | fstore a0 => exact absurd h (by simp [stp])
  | fstore_n a0 => exact absurd h (by simp [stp])
  | fsub => exact absurd h (by simp [stp])
  | getfield a0 => 
    simp only [stp] at h
    repeat' split at h
    all_goals first
      | exact Or.inl (br_T h)
      | exact Or.inl (push_T h)
      | (cases h; done)
      | (rename_i hn; cases h; exact Or.inl (pf_T hn))
      | (cases h; exact Or.inl rfl)
  | getstatic a0 => 
    simp only [stp] at h
    exact Or.inl (push_T h)
  | goto a0 => 
    simp only [stp] at h
    repeat' split at h
    all_goals first
      | exact Or.inl (br_T h)
      | exact Or.inl (push_T h)
      | (cases h; done)
      | (rename_i hn; cases h; exact Or.inl (pf_T hn))
      | (cases h; exact Or.inl rfl)
  | goto_w a0 => exact absurd h (by simp [stp])
  | i2b => 
    simp only [stp] at h
    repeat' split at h
    all_goals first
      | exact Or.inl (br_T h)
      | exact Or.inl (push_T h)
      | (cases h; done)
      | (rename_i hn; cases h; exact Or.inl (pf_T hn))
      | (cases h; exact Or.inl rfl)
  | i2c => 
    simp only [stp] at h
    repeat' split at h
    all_goals first
      | exact Or.inl (br_T h)
      | exact Or.inl (push_T h)
      | (cases h; done)
      | (rename_i hn; cases h; exact Or.inl (pf_T hn))
      | (cases h; exact Or.inl rfl)
  | i2d => exact absurd h (by simp [stp])
  | i2f => exact absurd h (by simp [stp])
  | i2l => 
    simp only [stp] at h
    repeat' split at h
    all_goals first
      | exact Or.inl (br_T h)
      | exact Or.inl (push_T h)
      | (cases h; done)
      | (rename_i hn; cases h; exact Or.inl (pf_T hn))
      | (cases h; exact Or.inl rfl)
  | i2s => exact absurd h (by simp [stp])
  | iadd => 
    simp only [stp] at h
    repeat' split at h
    all_goals first
      | exact Or.inl (br_T h)
      | exact Or.inl (push_T h)
      | (cases h; done)
      | (rename_i hn; cases h; exact Or.inl (pf_T hn))
      | (cases h; exact Or.inl rfl)
  | iaload => 
    simp only [stp] at h
    repeat' split at h
    all_goals first
      | exact Or.inl (br_T h)
      | exact Or.inl (push_T h)
      | (cases h; done)
      | (rename_i hn; cases h; exact Or.inl (pf_T hn))
      | (cases h; exact Or.inl rfl)
  | iand => 
    simp only [stp] at h
    repeat' split at h
    all_goals first
      | exact Or.inl (br_T h)
      | exact Or.inl (push_T h)
      | (cases h; done)
      | (rename_i hn; cases h; exact Or.inl (pf_T hn))
      | (cases h; exact Or.inl rfl)
  | iastore => 
    simp only [stp] at h
    repeat' split at h
    all_goals first
      | exact Or.inl (br_T h)
      | exact Or.inl (push_T h)
      | (cases h; done)
      | (rename_i hn; cases h; exact Or.inl (pf_T hn))
      | (cases h; exact Or.inl rfl)
  | iconst a0 => 
    simp only [stp] at h
    exact Or.inl (push_T h)
  | idiv => 
    simp only [stp] at h
    repeat' split at h
    all_goals first
      | exact Or.inl (br_T h)
      | exact Or.inl (push_T h)
      | (cases h; done)
      | (rename_i hn; cases h; exact Or.inl (pf_T hn))
      | (cases h; exact Or.inl rfl)
  | if_acmp a0 a1 => exact absurd h (by simp [stp])
  | if_icmp c off =>
    simp only [stp] at h
    split at h
    · cases c <;> exact Or.inl (br_T h)
    · cases h
  | ifCond c off =>
    simp only [stp] at h
    split at h
    · cases c <;> exact Or.inl (br_T h)
    · cases h
  | ifnonnull a0 => 
    simp only [stp] at h
    repeat' split at h
    all_goals first
      | exact Or.inl (br_T h)
      | exact Or.inl (push_T h)
      | (cases h; done)
      | (rename_i hn; cases h; exact Or.inl (pf_T hn))
      | (cases h; exact Or.inl rfl)
  | ifnull a0 => 
    simp only [stp] at h
    repeat' split at h
    all_goals first
      | exact Or.inl (br_T h)
      | exact Or.inl (push_T h)
      | (cases h; done)
      | (rename_i hn; cases h; exact Or.inl (pf_T hn))
      | (cases h; exact Or.inl rfl)
  | iinc a0 a1 => 
    simp only [stp] at h
    repeat' split at h
    all_goals first
      | exact Or.inl (br_T h)
      | exact Or.inl (push_T h)
      | (cases h; done)
      | (rename_i hn; cases h; exact Or.inl (pf_T hn))
      | (cases h; exact Or.inl rfl)
  | iload a0 => 
    simp only [stp] at h
    exact Or.inl (push_T h)
  | iload_n a0 => 
    simp only [stp] at h
    exact Or.inl (push_T h)
  | imul => 
    simp only [stp] at h
    repeat' split at h
    all_goals first
      | exact Or.inl (br_T h)
      | exact Or.inl (push_T h)
      | (cases h; done)
      | (rename_i hn; cases h; exact Or.inl (pf_T hn))
      | (cases h; exact Or.inl rfl)
  | ineg => 
    simp only [stp] at h
    repeat' split at h
    all_goals first
      | exact Or.inl (br_T h)
      | exact Or.inl (push_T h)
      | (cases h; done)
      | (rename_i hn; cases h; exact Or.inl (pf_T hn))
      | (cases h; exact Or.inl rfl)
  | instanceof a0 => exact absurd h (by simp [stp])
  | invokedynamic a0 => exact absurd h (by simp [stp])
  | invokeinterface a0 a1 => exact absurd h (by simp [stp])
  | invokespecial a0 => 
    simp only [stp] at h
    repeat' split at h
    all_goals first
      | exact Or.inl (br_T h)
      | exact Or.inl (push_T h)
      | (cases h; done)
      | (rename_i hn; cases h; exact Or.inl (pf_T hn))
      | (cases h; exact Or.inl rfl)
  | invokestatic a0 => 
    simp only [stp] at h
    repeat' split at h
    all_goals first
      | exact Or.inl (br_T h)
      | exact Or.inl (push_T h)
      | (cases h; done)
      | (rename_i hn; cases h; exact Or.inl (pf_T hn))
      | (cases h; exact Or.inl rfl)
  | invokevirtual a0 => exact absurd h (by simp [stp])
  | ior => 
    simp only [stp] at h
    repeat' split at h
    all_goals first
      | exact Or.inl (br_T h)
      | exact Or.inl (push_T h)
      | (cases h; done)
      | (rename_i hn; cases h; exact Or.inl (pf_T hn))
      | (cases h; exact Or.inl rfl)
  | irem => 
    simp only [stp] at h
    repeat' split at h
    all_goals first
      | exact Or.inl (br_T h)
      | exact Or.inl (push_T h)
      | (cases h; done)
      | (rename_i hn; cases h; exact Or.inl (pf_T hn))
      | (cases h; exact Or.inl rfl)
  | ireturn => exact absurd h (by simp [stp])
  | ishl => 
    simp only [stp] at h
    repeat' split at h
    all_goals first
      | exact Or.inl (br_T h)
      | exact Or.inl (push_T h)
      | (cases h; done)
      | (rename_i hn; cases h; exact Or.inl (pf_T hn))
      | (cases h; exact Or.inl rfl)
  | ishr => 
    simp only [stp] at h
    repeat' split at h
    all_goals first
      | exact Or.inl (br_T h)
      | exact Or.inl (push_T h)
      | (cases h; done)
      | (rename_i hn; cases h; exact Or.inl (pf_T hn))
      | (cases h; exact Or.inl rfl)
  | istore a0 => 
    simp only [stp] at h
    repeat' split at h
    all_goals first
      | exact Or.inl (br_T h)
      | exact Or.inl (push_T h)
      | (cases h; done)
      | (rename_i hn; cases h; exact Or.inl (pf_T hn))
      | (cases h; exact Or.inl rfl)
  | istore_n a0 => 
    simp only [stp] at h
    repeat' split at h
    all_goals first
      | exact Or.inl (br_T h)
      | exact Or.inl (push_T h)
      | (cases h; done)
      | (rename_i hn; cases h; exact Or.inl (pf_T hn))
      | (cases h; exact Or.inl rfl)
  | isub => 
    simp only [stp] at h
    repeat' split at h
    all_goals first
      | exact Or.inl (br_T h)
      | exact Or.inl (push_T h)
      | (cases h; done)
      | (rename_i hn; cases h; exact Or.inl (pf_T hn))
      | (cases h; exact Or.inl rfl)
  | iushr => 
    simp only [stp] at h
    repeat' split at h
    all_goals first
      | exact Or.inl (br_T h)
      | exact Or.inl (push_T h)
      | (cases h; done)
      | (rename_i hn; cases h; exact Or.inl (pf_T hn))
      | (cases h; exact Or.inl rfl)
  | ixor => 
    simp only [stp] at h
    repeat' split at h
    all_goals first
      | exact Or.inl (br_T h)
      | exact Or.inl (push_T h)
      | (cases h; done)
      | (rename_i hn; cases h; exact Or.inl (pf_T hn))
      | (cases h; exact Or.inl rfl)
  | jsr a0 => exact absurd h (by simp [stp])
  | jsr_w a0 => exact absurd h (by simp [stp])
  | l2d => exact absurd h (by simp [stp])
  | l2f => exact absurd h (by simp [stp])
  | l2i => exact absurd h (by simp [stp])
  | ladd => 
    simp only [stp] at h
    repeat' split at h
    all_goals first
      | exact Or.inl (br_T h)
      | exact Or.inl (push_T h)
      | (cases h; done)
      | (rename_i hn; cases h; exact Or.inl (pf_T hn))
      | (cases h; exact Or.inl rfl)
  | laload => 
    simp only [stp] at h
    repeat' split at h
    all_goals first
      | exact Or.inl (br_T h)
      | exact Or.inl (push_T h)
      | (cases h; done)
      | (rename_i hn; cases h; exact Or.inl (pf_T hn))
      | (cases h; exact Or.inl rfl)
  | land => exact absurd h (by simp [stp])
  | lastore => 
    simp only [stp] at h
    repeat' split at h
    all_goals first
      | exact Or.inl (br_T h)
      | exact Or.inl (push_T h)
      | (cases h; done)
      | (rename_i hn; cases h; exact Or.inl (pf_T hn))
      | (cases h; exact Or.inl rfl)
  | lcmp => 
    simp only [stp] at h
    repeat' split at h
    all_goals first
      | exact Or.inl (br_T h)
      | exact Or.inl (push_T h)
      | (cases h; done)
      | (rename_i hn; cases h; exact Or.inl (pf_T hn))
      | (cases h; exact Or.inl rfl)
  | lconst a0 => 
    simp only [stp] at h
    exact Or.inl (push_T h)
  | ldc a0 => 
    simp only [stp] at h
    exact Or.inl (push_T h)
  | ldc_w a0 => 
    simp only [stp] at h
    repeat' split at h
    all_goals first
      | exact Or.inl (br_T h)
      | exact Or.inl (push_T h)
      | (cases h; done)
      | (rename_i hn; cases h; exact Or.inl (pf_T hn))
      | (cases h; exact Or.inl rfl)
  | ldc2_w a0 => 
    simp only [stp] at h
    exact Or.inl (push_T h)
  | ldiv => exact absurd h (by simp [stp])
  | lload a0 => 
    simp only [stp] at h
    exact Or.inl (push_T h)
  | lload_n a0 => 
    simp only [stp] at h
    exact Or.inl (push_T h)
  | lmul => 
    simp only [stp] at h
    repeat' split at h
    all_goals first
      | exact Or.inl (br_T h)
      | exact Or.inl (push_T h)
      | (cases h; done)
      | (rename_i hn; cases h; exact Or.inl (pf_T hn))
      | (cases h; exact Or.inl rfl)
  | lneg => exact absurd h (by simp [stp])
  | lookupswitch a0 a1 => 
    simp only [stp] at h
    repeat' split at h
    all_goals first
      | exact Or.inl (br_T h)
      | exact Or.inl (push_T h)
      | (cases h; done)
      | (rename_i hn; cases h; exact Or.inl (pf_T hn))
      | (cases h; exact Or.inl rfl)
  | lor => 
    simp only [stp] at h
    repeat' split at h
    all_goals first
      | exact Or.inl (br_T h)
      | exact Or.inl (push_T h)
      | (cases h; done)
      | (rename_i hn; cases h; exact Or.inl (pf_T hn))
      | (cases h; exact Or.inl rfl)
  | lrem => exact absurd h (by simp [stp])
  | lreturn => exact absurd h (by simp [stp])
  | lshl => 
    simp only [stp] at h
    repeat' split at h
    all_goals first
      | exact Or.inl (br_T h)
      | exact Or.inl (push_T h)
      | (cases h; done)
      | (rename_i hn; cases h; exact Or.inl (pf_T hn))
      | (cases h; exact Or.inl rfl)
  | lshr => exact absurd h (by simp [stp])
  | lstore a0 => 
    simp only [stp] at h
    repeat' split at h
    all_goals first
      | exact Or.inl (br_T h)
      | exact Or.inl (push_T h)
      | (cases h; done)
      | (rename_i hn; cases h; exact Or.inl (pf_T hn))
      | (cases h; exact Or.inl rfl)
  | lstore_n a0 => 
    simp only [stp] at h
    repeat' split at h
    all_goals first
      | exact Or.inl (br_T h)
      | exact Or.inl (push_T h)
      | (cases h; done)
      | (rename_i hn; cases h; exact Or.inl (pf_T hn))
      | (cases h; exact Or.inl rfl)
  | lsub => exact absurd h (by simp [stp])
  | lushr => exact absurd h (by simp [stp])
  | lxor => exact absurd h (by simp [stp])
  | monitorenter => exact absurd h (by simp [stp])
  | monitorexit => exact absurd h (by simp [stp])
  | multianewarray a0 a1 => exact absurd h (by simp [stp])
  | new a0 => 
    simp only [stp] at h
    repeat' split at h
    all_goals first
      | (cases h; done)
      | (rename_i hn; cases h; exact Or.inr ⟨_, nw_len hn⟩)
  | newarray a0 => 
    simp only [stp] at h
    repeat' split at h
    all_goals first
      | (cases h; done)
      | (rename_i hn; cases h; exact Or.inr ⟨_, nw_len hn⟩)
  | nop => exact absurd h (by simp [stp])
  | pop => 
    simp only [stp] at h
    repeat' split at h
    all_goals first
      | exact Or.inl (br_T h)
      | exact Or.inl (push_T h)
      | (cases h; done)
      | (rename_i hn; cases h; exact Or.inl (pf_T hn))
      | (cases h; exact Or.inl rfl)
  | pop2 => exact absurd h (by simp [stp])
  | putfield a0 => 
    simp only [stp] at h
    repeat' split at h
    all_goals first
      | exact Or.inl (br_T h)
      | exact Or.inl (push_T h)
      | (cases h; done)
      | (rename_i hn; cases h; exact Or.inl (pf_T hn))
      | (cases h; exact Or.inl rfl)
  | putstatic a0 => exact absurd h (by simp [stp])
  | ret a0 => exact absurd h (by simp [stp])
  | return_ => exact absurd h (by simp [stp])
  | saload => exact absurd h (by simp [stp])
  | sastore => exact absurd h (by simp [stp])
  | sipush a0 => 
    simp only [stp] at h
    exact Or.inl (push_T h)
  | swap => exact absurd h (by simp [stp])
  | tableswitch a0 a1 a2 a3 => 
    simp only [stp] at h
    repeat' split at h
    all_goals first
      | exact Or.inl (br_T h)
      | exact Or.inl (push_T h)
      | (cases h; done)
      | (rename_i hn; cases h; exact Or.inl (pf_T hn))
      | (cases h; exact Or.inl rfl)
theorem stp_grow {C : Ct} {o len pc : Nat} {ins : Instr} {lv : Lv} {ll : Ll} {st : List Value} {M : Mm} {g : Cg} (h : stp C o ins len pc lv ll st M = some g) : M.1.length ≤ g.2.2.2.2.1.length ∧ ssum M.1 ≤ ssum g.2.2.2.2.1 := by
  rcases stp_T h with e | ⟨q, e⟩
  · rw [e]
    exact ⟨Nat.le_refl _, Nat.le_refl _⟩
  · rw [e, ssum_push]
    simp
theorem ev_grow {C : Ct} {n : Nat} : ∀ {y : Nat} {g : Cg} {v : Option Value} {Mf : Mm}, ev C n y g = some (v, Mf) → g.2.2.2.2.1.length ≤ Mf.1.length ∧ ssum g.2.2.2.2.1 ≤ ssum Mf.1 := by
  induction n with
  | zero => intro y g v Mf h; cases h
  | succ n ih =>
    intro y g v Mf h
    have h : evB C (ev C n) y g = some (v, Mf) := h
    unfold evB at h
    split at h
    · cases h
    · split at h
      · cases h
      · split at h
        · split at h
          · cases h
            exact ⟨Nat.le_refl _, Nat.le_refl _⟩
          · cases h
        · split at h
          · split at h
            · cases h
            · split at h
              · split at h
                · cases h
                · rename_i h1
                  obtain ⟨a1, a2⟩ := ih h1
                  obtain ⟨b1, b2⟩ := ih h
                  exact ⟨Nat.le_trans a1 b1, Nat.le_trans a2 b2⟩
              · cases h
          · split at h
            · cases h
            · rename_i h1
              obtain ⟨a1, a2⟩ := stp_grow h1
              obtain ⟨b1, b2⟩ := ih h
              exact ⟨Nat.le_trans a1 b1, Nat.le_trans a2 b2⟩
set_option maxRecDepth 100000 in
theorem nl_0 : ((CRL.getD 0 []).all fun e => match PGL[e.2.2.1]? with
  | some pm => decide (pm.1 ≠ yL_law)
  | none => true) = true := by decide +kernel
set_option maxRecDepth 100000 in
theorem nl_1 : ((CRL.getD 1 []).all fun e => match PGL[e.2.2.1]? with
  | some pm => decide (pm.1 ≠ yL_law)
  | none => true) = true := by decide +kernel
set_option maxRecDepth 100000 in
theorem nl_2 : ((CRL.getD 2 []).all fun e => match PGL[e.2.2.1]? with
  | some pm => decide (pm.1 ≠ yL_law)
  | none => true) = true := by decide +kernel
set_option maxRecDepth 100000 in
theorem nl_3 : ((CRL.getD 3 []).all fun e => match PGL[e.2.2.1]? with
  | some pm => decide (pm.1 ≠ yL_law)
  | none => true) = true := by decide +kernel
set_option maxRecDepth 100000 in
theorem nl_4 : ((CRL.getD 4 []).all fun e => match PGL[e.2.2.1]? with
  | some pm => decide (pm.1 ≠ yL_law)
  | none => true) = true := by decide +kernel
set_option maxRecDepth 100000 in
theorem nl_5 : ((CRL.getD 5 []).all fun e => match PGL[e.2.2.1]? with
  | some pm => decide (pm.1 ≠ yL_law)
  | none => true) = true := by decide +kernel
set_option maxRecDepth 100000 in
theorem nl_6 : ((CRL.getD 6 []).all fun e => match PGL[e.2.2.1]? with
  | some pm => decide (pm.1 ≠ yL_law)
  | none => true) = true := by decide +kernel
set_option maxRecDepth 100000 in
theorem nl_7 : ((CRL.getD 7 []).all fun e => match PGL[e.2.2.1]? with
  | some pm => decide (pm.1 ≠ yL_law)
  | none => true) = true := by decide +kernel
set_option maxRecDepth 100000 in
theorem nl_8 : ((CRL.getD 8 []).all fun e => match PGL[e.2.2.1]? with
  | some pm => decide (pm.1 ≠ yL_law)
  | none => true) = true := by decide +kernel
set_option maxRecDepth 100000 in
theorem nl_9 : ((CRL.getD 9 []).all fun e => match PGL[e.2.2.1]? with
  | some pm => decide (pm.1 ≠ yL_law)
  | none => true) = true := by decide +kernel
set_option maxRecDepth 100000 in
theorem nl_10 : ((CRL.getD 10 []).all fun e => match PGL[e.2.2.1]? with
  | some pm => decide (pm.1 ≠ yL_law)
  | none => true) = true := by decide +kernel
set_option maxRecDepth 100000 in
theorem nl_11 : ((CRL.getD 11 []).all fun e => match PGL[e.2.2.1]? with
  | some pm => decide (pm.1 ≠ yL_law)
  | none => true) = true := by decide +kernel
set_option maxRecDepth 100000 in
theorem nl_12 : ((CRL.getD 12 []).all fun e => match PGL[e.2.2.1]? with
  | some pm => decide (pm.1 ≠ yL_law)
  | none => true) = true := by decide +kernel
set_option maxRecDepth 100000 in
theorem nl_13 : ((CRL.getD 13 []).all fun e => match PGL[e.2.2.1]? with
  | some pm => decide (pm.1 ≠ yL_law)
  | none => true) = true := by decide +kernel
set_option maxRecDepth 100000 in
theorem nl_14 : ((CRL.getD 14 []).all fun e => match PGL[e.2.2.1]? with
  | some pm => decide (pm.1 ≠ yL_law)
  | none => true) = true := by decide +kernel
set_option maxRecDepth 100000 in
theorem nl_15 : ((CRL.getD 15 []).all fun e => match PGL[e.2.2.1]? with
  | some pm => decide (pm.1 ≠ yL_law)
  | none => true) = true := by decide +kernel
set_option maxRecDepth 100000 in
theorem nl_16 : ((CRL.getD 16 []).all fun e => match PGL[e.2.2.1]? with
  | some pm => decide (pm.1 ≠ yL_law)
  | none => true) = true := by decide +kernel
set_option maxRecDepth 100000 in
theorem nl_17 : ((CRL.getD 17 []).all fun e => match PGL[e.2.2.1]? with
  | some pm => decide (pm.1 ≠ yL_law)
  | none => true) = true := by decide +kernel
theorem nl_all : ∀ o, o < CRL.length → ((CRL.getD o []).all fun e => match PGL[e.2.2.1]? with
  | some pm => decide (pm.1 ≠ yL_law)
  | none => true) = true := by
  intro o ho
  have ho : o < 18 := ho
  rcases (show o = 0 ∨ o = 1 ∨ o = 2 ∨ o = 3 ∨ o = 4 ∨ o = 5 ∨ o = 6 ∨ o = 7 ∨ o = 8 ∨ o = 9 ∨ o = 10 ∨ o = 11 ∨ o = 12 ∨ o = 13 ∨ o = 14 ∨ o = 15 ∨ o = 16 ∨ o = 17 by omega) with rfl | rfl | rfl | rfl | rfl | rfl | rfl | rfl | rfl | rfl | rfl | rfl | rfl | rfl | rfl | rfl | rfl | rfl
  · exact nl_0
  · exact nl_1
  · exact nl_2
  · exact nl_3
  · exact nl_4
  · exact nl_5
  · exact nl_6
  · exact nl_7
  · exact nl_8
  · exact nl_9
  · exact nl_10
  · exact nl_11
  · exact nl_12
  · exact nl_13
  · exact nl_14
  · exact nl_15
  · exact nl_16
  · exact nl_17
theorem nl_lk {o ix k y n p : Nat} (e : lk CRL o ix = some (k, y, n, p)) {pm : PM} (h : PGL[y]? = some pm) : mF pm := by
  have h1 := lk_all (P := fun o ix x => match PGL[x.2.1]? with
    | some pm => decide (pm.1 ≠ yL_law)
    | none => true) nl_all e
  dsimp only at h1
  rw [h] at h1
  rcases PGL_ok pm (List.mem_of_getElem? h) with g | g
  · exact g
  · exact absurd g (of_decide_eq_true h1)
