set_option maxRecDepth 100000 in
theorem cw_0 : ∀ k, k < 7 → isW (([2164, 2166, 2168, 2170, 2172, 2174, 2176] : List Nat).getD k 0) (u_lay (CN 0) (FT 0) k) = true := by decide +kernel
theorem ci_0 : isW 2152 (Cond.instantiable (CN 0) (szf 0)) = true ∧ isW 1011 (Cond.initialized (CN 0)) = true := by decide +kernel
set_option maxRecDepth 100000 in
theorem ck_0 : ∀ k, k < 7 → (FT 0 k).1 = CN 0 := by decide +kernel
set_option maxRecDepth 100000 in
theorem cw_1 : ∀ k, k < 3 → isW (([2118, 2120, 2122] : List Nat).getD k 0) (u_lay (CN 1) (FT 1) k) = true := by decide +kernel
theorem ci_1 : isW 2109 (Cond.instantiable (CN 1) (szf 1)) = true ∧ isW 1009 (Cond.initialized (CN 1)) = true := by decide +kernel
set_option maxRecDepth 100000 in
theorem ck_1 : ∀ k, k < 3 → (FT 1 k).1 = CN 1 := by decide +kernel
set_option maxRecDepth 100000 in
theorem cw_2 : ∀ k, k < 5 → isW (([1148, 1150, 1152, 1154, 1156] : List Nat).getD k 0) (u_lay (CN 2) (FT 2) k) = true := by decide +kernel
theorem ci_2 : isW 1131 (Cond.instantiable (CN 2) (szf 2)) = true ∧ isW 1005 (Cond.initialized (CN 2)) = true := by decide +kernel
set_option maxRecDepth 100000 in
theorem ck_2 : ∀ k, k < 5 → (FT 2 k).1 = CN 2 := by decide +kernel
set_option maxRecDepth 100000 in
theorem cw_3 : ∀ k, k < 3 → isW (([2188, 2190, 2192] : List Nat).getD k 0) (u_lay (CN 3) (FT 3) k) = true := by decide +kernel
theorem ci_3 : isW 2180 (Cond.instantiable (CN 3) (szf 3)) = true ∧ isW 1012 (Cond.initialized (CN 3)) = true := by decide +kernel
set_option maxRecDepth 100000 in
theorem ck_3 : ∀ k, k < 3 → (FT 3 k).1 = CN 3 := by decide +kernel
set_option maxRecDepth 100000 in
theorem cw_4 : ∀ k, k < 9 → isW (([1086, 1088, 1090, 1092, 1094, 1096, 1098, 1100, 1102] : List Nat).getD k 0) (u_lay (CN 4) (FT 4) k) = true := by decide +kernel
theorem ci_4 : isW 1043 (Cond.instantiable (CN 4) (szf 4)) = true ∧ isW 1003 (Cond.initialized (CN 4)) = true := by decide +kernel
set_option maxRecDepth 100000 in
theorem ck_4 : ∀ k, k < 9 → (FT 4 k).1 = CN 4 := by decide +kernel
set_option maxRecDepth 100000 in
theorem cw_5 : ∀ k, k < 14 → isW (([2045, 2047, 2049, 2051, 2053, 2055, 2057, 2059, 2061, 2063, 2065, 2067, 2069, 2071] : List Nat).getD k 0) (u_lay (CN 5) (FT 5) k) = true := by decide +kernel
theorem ci_5 : isW 2011 (Cond.instantiable (CN 5) (szf 5)) = true ∧ isW 1007 (Cond.initialized (CN 5)) = true := by decide +kernel
set_option maxRecDepth 100000 in
theorem ck_5 : ∀ k, k < 14 → (FT 5 k).1 = CN 5 := by decide +kernel
set_option maxRecDepth 100000 in
theorem cw_6 : ∀ k, k < 4 → isW (([1122, 1124, 1126, 1128] : List Nat).getD k 0) (u_lay (CN 6) (FT 6) k) = true := by decide +kernel
theorem ci_6 : isW 1107 (Cond.instantiable (CN 6) (szf 6)) = true ∧ isW 1004 (Cond.initialized (CN 6)) = true := by decide +kernel
set_option maxRecDepth 100000 in
theorem ck_6 : ∀ k, k < 4 → (FT 6 k).1 = CN 6 := by decide +kernel
set_option maxRecDepth 100000 in
theorem cw_7 : ∀ k, k < 10 → isW (([1191, 1193, 1195, 1197, 1199, 1201, 1203, 1205, 1207, 1209] : List Nat).getD k 0) (u_lay (CN 7) (FT 7) k) = true := by decide +kernel
theorem ci_7 : isW 1159 (Cond.instantiable (CN 7) (szf 7)) = true ∧ isW 1006 (Cond.initialized (CN 7)) = true := by decide +kernel
set_option maxRecDepth 100000 in
theorem ck_7 : ∀ k, k < 10 → (FT 7 k).1 = CN 7 := by decide +kernel
set_option maxRecDepth 100000 in
theorem cw_8 : ∀ k, k < 9 → isW (([1230, 1232, 1234, 1236, 1238, 2000, 2002, 2004, 2006] : List Nat).getD k 0) (u_lay (CN 8) (FT 8) k) = true := by decide +kernel
theorem ci_8 : isW 1030 (Cond.instantiable (CN 8) (szf 8)) = true ∧ isW 1002 (Cond.initialized (CN 8)) = true := by decide +kernel
set_option maxRecDepth 100000 in
theorem ck_8 : ∀ k, k < 9 → (FT 8 k).1 = CN 8 := by decide +kernel
set_option maxRecDepth 100000 in
theorem cw_9 : ∀ k, k < 9 → isW (([2089, 2091, 2093, 2095, 2097, 2099, 2101, 2103, 2105] : List Nat).getD k 0) (u_lay (CN 9) (FT 9) k) = true := by decide +kernel
theorem ci_9 : isW 2075 (Cond.instantiable (CN 9) (szf 9)) = true ∧ isW 1008 (Cond.initialized (CN 9)) = true := by decide +kernel
set_option maxRecDepth 100000 in
theorem ck_9 : ∀ k, k < 9 → (FT 9 k).1 = CN 9 := by decide +kernel
set_option maxRecDepth 100000 in
theorem cw_10 : ∀ k, k < 6 → isW (([2137, 2139, 2141, 2143, 2145, 2147] : List Nat).getD k 0) (u_lay (CN 10) (FT 10) k) = true := by decide +kernel
theorem ci_10 : isW 2126 (Cond.instantiable (CN 10) (szf 10)) = true ∧ isW 1010 (Cond.initialized (CN 10)) = true := by decide +kernel
set_option maxRecDepth 100000 in
theorem ck_10 : ∀ k, k < 6 → (FT 10 k).1 = CN 10 := by decide +kernel
set_option maxRecDepth 100000 in
theorem cw_11 : ∀ k, k < 8 → isW (([2203, 2205, 2207, 2209, 2211, 2213, 2215, 2217] : List Nat).getD k 0) (u_lay (CN 11) (FT 11) k) = true := by decide +kernel
theorem ci_11 : isW 1022 (Cond.instantiable (CN 11) (szf 11)) = true ∧ isW 1001 (Cond.initialized (CN 11)) = true := by decide +kernel
set_option maxRecDepth 100000 in
theorem ck_11 : ∀ k, k < 8 → (FT 11 k).1 = CN 11 := by decide +kernel
set_option maxRecDepth 100000 in
theorem cw_12 : ∀ k, k < 58 → isW (([6148, 6150, 6152, 6154, 6156, 6158, 6160, 6162, 6164, 6166, 6168, 6170, 6172, 6174, 6176, 6178, 6180, 6182, 6184, 6186, 6188, 6190, 6192, 6194, 6196, 6198, 6200, 6202, 6204, 6206, 6208, 6210, 6212, 6214, 6216, 6218, 6220, 6222, 6224, 6226, 6228, 6230, 6232, 6234, 6236, 6238, 7000, 7002, 7004, 7006, 7008, 7010, 7012, 7014, 7016, 7018, 7020, 7022] : List Nat).getD k 0) (u_lay (CN 12) (FT 12) k) = true := by decide +kernel
theorem ci_12 : isW 6085 (Cond.instantiable (CN 12) (szf 12)) = true ∧ isW 1013 (Cond.initialized (CN 12)) = true := by decide +kernel
set_option maxRecDepth 100000 in
theorem ck_12 : ∀ k, k < 58 → (FT 12 k).1 = CN 12 := by decide +kernel
def kdT (t : FieldType) : Nat := match t with
  | .int => 0
  | .boolean => 1
  | .long => 2
  | _ => 3
/-- the types that fields have here -/
def okT (t : FieldType) : Bool := match t with
  | .int => true
  | .boolean => true
  | .long => true
  | .object _ => true
  | .array _ => true
  | _ => false
set_option maxRecDepth 100000 in
theorem cf_0 : ∀ k, k < 7 → fk 0 k = some (kdT (Fty 0 k)) ∧ okT (Fty 0 k) = true := by decide +kernel
set_option maxRecDepth 100000 in
theorem cf_1 : ∀ k, k < 3 → fk 1 k = some (kdT (Fty 1 k)) ∧ okT (Fty 1 k) = true := by decide +kernel
set_option maxRecDepth 100000 in
theorem cf_2 : ∀ k, k < 5 → fk 2 k = some (kdT (Fty 2 k)) ∧ okT (Fty 2 k) = true := by decide +kernel
set_option maxRecDepth 100000 in
theorem cf_3 : ∀ k, k < 3 → fk 3 k = some (kdT (Fty 3 k)) ∧ okT (Fty 3 k) = true := by decide +kernel
set_option maxRecDepth 100000 in
theorem cf_4 : ∀ k, k < 9 → fk 4 k = some (kdT (Fty 4 k)) ∧ okT (Fty 4 k) = true := by decide +kernel
set_option maxRecDepth 100000 in
theorem cf_5 : ∀ k, k < 14 → fk 5 k = some (kdT (Fty 5 k)) ∧ okT (Fty 5 k) = true := by decide +kernel
set_option maxRecDepth 100000 in
theorem cf_6 : ∀ k, k < 4 → fk 6 k = some (kdT (Fty 6 k)) ∧ okT (Fty 6 k) = true := by decide +kernel
set_option maxRecDepth 100000 in
theorem cf_7 : ∀ k, k < 10 → fk 7 k = some (kdT (Fty 7 k)) ∧ okT (Fty 7 k) = true := by decide +kernel
set_option maxRecDepth 100000 in
theorem cf_8 : ∀ k, k < 9 → fk 8 k = some (kdT (Fty 8 k)) ∧ okT (Fty 8 k) = true := by decide +kernel
set_option maxRecDepth 100000 in
theorem cf_9 : ∀ k, k < 9 → fk 9 k = some (kdT (Fty 9 k)) ∧ okT (Fty 9 k) = true := by decide +kernel
set_option maxRecDepth 100000 in
theorem cf_10 : ∀ k, k < 6 → fk 10 k = some (kdT (Fty 10 k)) ∧ okT (Fty 10 k) = true := by decide +kernel
set_option maxRecDepth 100000 in
theorem cf_11 : ∀ k, k < 8 → fk 11 k = some (kdT (Fty 11 k)) ∧ okT (Fty 11 k) = true := by decide +kernel
set_option maxRecDepth 100000 in
theorem cf_12 : ∀ k, k < 58 → fk 12 k = some (kdT (Fty 12 k)) ∧ okT (Fty 12 k) = true := by decide +kernel
theorem cls_lay {c : Nat} (h : c < 13) : ∀ k, k < szf c → u_lay (CN c) (FT c) k ∈ lw_tbl := by
  rcases (show c = 0 ∨ c = 1 ∨ c = 2 ∨ c = 3 ∨ c = 4 ∨ c = 5 ∨ c = 6 ∨ c = 7 ∨ c = 8 ∨ c = 9 ∨ c = 10 ∨ c = 11 ∨ c = 12 by omega) with rfl | rfl | rfl | rfl | rfl | rfl | rfl | rfl | rfl | rfl | rfl | rfl | rfl
  · exact fun k hk => isW_in (cw_0 k hk)
  · exact fun k hk => isW_in (cw_1 k hk)
  · exact fun k hk => isW_in (cw_2 k hk)
  · exact fun k hk => isW_in (cw_3 k hk)
  · exact fun k hk => isW_in (cw_4 k hk)
  · exact fun k hk => isW_in (cw_5 k hk)
  · exact fun k hk => isW_in (cw_6 k hk)
  · exact fun k hk => isW_in (cw_7 k hk)
  · exact fun k hk => isW_in (cw_8 k hk)
  · exact fun k hk => isW_in (cw_9 k hk)
  · exact fun k hk => isW_in (cw_10 k hk)
  · exact fun k hk => isW_in (cw_11 k hk)
  · exact fun k hk => isW_in (cw_12 k hk)
theorem cls_inst {c : Nat} (h : c < 13) : Cond.instantiable (CN c) (szf c) ∈ lw_tbl ∧ Cond.initialized (CN c) ∈ lw_tbl := by
  rcases (show c = 0 ∨ c = 1 ∨ c = 2 ∨ c = 3 ∨ c = 4 ∨ c = 5 ∨ c = 6 ∨ c = 7 ∨ c = 8 ∨ c = 9 ∨ c = 10 ∨ c = 11 ∨ c = 12 by omega) with rfl | rfl | rfl | rfl | rfl | rfl | rfl | rfl | rfl | rfl | rfl | rfl | rfl
  · exact ⟨isW_in ci_0.1, isW_in ci_0.2⟩
  · exact ⟨isW_in ci_1.1, isW_in ci_1.2⟩
  · exact ⟨isW_in ci_2.1, isW_in ci_2.2⟩
  · exact ⟨isW_in ci_3.1, isW_in ci_3.2⟩
  · exact ⟨isW_in ci_4.1, isW_in ci_4.2⟩
  · exact ⟨isW_in ci_5.1, isW_in ci_5.2⟩
  · exact ⟨isW_in ci_6.1, isW_in ci_6.2⟩
  · exact ⟨isW_in ci_7.1, isW_in ci_7.2⟩
  · exact ⟨isW_in ci_8.1, isW_in ci_8.2⟩
  · exact ⟨isW_in ci_9.1, isW_in ci_9.2⟩
  · exact ⟨isW_in ci_10.1, isW_in ci_10.2⟩
  · exact ⟨isW_in ci_11.1, isW_in ci_11.2⟩
  · exact ⟨isW_in ci_12.1, isW_in ci_12.2⟩
theorem cls_own {c : Nat} (h : c < 13) : ∀ k, k < szf c → (FT c k).1 = CN c := by
  rcases (show c = 0 ∨ c = 1 ∨ c = 2 ∨ c = 3 ∨ c = 4 ∨ c = 5 ∨ c = 6 ∨ c = 7 ∨ c = 8 ∨ c = 9 ∨ c = 10 ∨ c = 11 ∨ c = 12 by omega) with rfl | rfl | rfl | rfl | rfl | rfl | rfl | rfl | rfl | rfl | rfl | rfl | rfl
  · exact ck_0
  · exact ck_1
  · exact ck_2
  · exact ck_3
  · exact ck_4
  · exact ck_5
  · exact ck_6
  · exact ck_7
  · exact ck_8
  · exact ck_9
  · exact ck_10
  · exact ck_11
  · exact ck_12
theorem cls_fk {c : Nat} (h : c < 13) : ∀ k, k < szf c → fk c k = some (kdT (Fty c k)) ∧ okT (Fty c k) = true := by
  rcases (show c = 0 ∨ c = 1 ∨ c = 2 ∨ c = 3 ∨ c = 4 ∨ c = 5 ∨ c = 6 ∨ c = 7 ∨ c = 8 ∨ c = 9 ∨ c = 10 ∨ c = 11 ∨ c = 12 by omega) with rfl | rfl | rfl | rfl | rfl | rfl | rfl | rfl | rfl | rfl | rfl | rfl | rfl
  · exact cf_0
  · exact cf_1
  · exact cf_2
  · exact cf_3
  · exact cf_4
  · exact cf_5
  · exact cf_6
  · exact cf_7
  · exact cf_8
  · exact cf_9
  · exact cf_10
  · exact cf_11
  · exact cf_12
theorem cls_ty {c : Nat} (h : c < 13) : ∀ k, k < szf c → parseFieldDescriptor (FT c k).2.2.1 = some (Fty c k) := by
  rcases (show c = 0 ∨ c = 1 ∨ c = 2 ∨ c = 3 ∨ c = 4 ∨ c = 5 ∨ c = 6 ∨ c = 7 ∨ c = 8 ∨ c = 9 ∨ c = 10 ∨ c = 11 ∨ c = 12 by omega) with rfl | rfl | rfl | rfl | rfl | rfl | rfl | rfl | rfl | rfl | rfl | rfl | rfl
  · exact tyX0_ok
  · exact tyX1_ok
  · exact tyX2_ok
  · exact tyX3_ok
  · exact tyX4_ok
  · exact tyX5_ok
  · exact tyX6_ok
  · exact tyX7_ok
  · exact tyX8_ok
  · exact tyX9_ok
  · exact tyX10_ok
  · exact tyX11_ok
  · exact tyX12_ok
theorem cls_nm {c : Nat} (h : c < 13) : ∀ a, a < szf c → ∀ b, b < szf c → a ≠ b → (FT c a).2.1 ≠ (FT c b).2.1 := by
  rcases (show c = 0 ∨ c = 1 ∨ c = 2 ∨ c = 3 ∨ c = 4 ∨ c = 5 ∨ c = 6 ∨ c = 7 ∨ c = 8 ∨ c = 9 ∨ c = 10 ∨ c = 11 ∨ c = 12 by omega) with rfl | rfl | rfl | rfl | rfl | rfl | rfl | rfl | rfl | rfl | rfl | rfl | rfl
  · exact nmX0
  · exact nmX1
  · exact nmX2
  · exact nmX3
  · exact nmX4
  · exact nmX5
  · exact nmX6
  · exact nmX7
  · exact nmX8
  · exact nmX9
  · exact nmX10
  · exact nmX11
  · exact nmX12
theorem lay_good {C : String} {T : u_T} {k : Nat} : goodWord (u_lay C T k) = true := by
  unfold u_lay
  split <;> rfl
theorem cls_ws {c : Nat} (h : c < 13) : ∀ w ∈ u_ws (CN c) (FT c) (szf c), w ∈ BGD := by
  intro w hw
  obtain ⟨k, hk, rfl⟩ := List.mem_map.mp hw
  exact bgd_in (cls_lay h k (List.mem_range.mp hk)) lay_good
theorem fk_lt {c k : Nat} {x : Nat} (h : fk c k = some x) : k < szf c := (List.getElem?_eq_some_iff.mp h).1
