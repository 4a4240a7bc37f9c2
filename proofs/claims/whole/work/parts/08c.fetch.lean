set_option maxRecDepth 100000 in
theorem f_0_0 : fe 0 0 = some (.aload_n 0, 1, 0, none) := fe_of pg_0 rfl
set_option maxRecDepth 100000 in
theorem f_0_1 : fe 0 1 = some (.invokespecial 3, 3, 0, none) := fe_of pg_0 rfl
set_option maxRecDepth 100000 in
theorem f_0_4 : fe 0 4 = some (.aload_n 0, 1, 0, none) := fe_of pg_0 rfl
set_option maxRecDepth 100000 in
theorem f_0_5 : fe 0 5 = some (.bipush 6, 2, 0, none) := fe_of pg_0 rfl
set_option maxRecDepth 100000 in
theorem f_0_7 : fe 0 7 = some (.newarray .int, 2, 0, none) := fe_of pg_0 rfl
set_option maxRecDepth 100000 in
theorem f_0_9 : fe 0 9 = some (.putfield 9, 3, 0, none) := fe_of pg_0 rfl
set_option maxRecDepth 100000 in
theorem f_0_12 : fe 0 12 = some (.aload_n 0, 1, 0, none) := fe_of pg_0 rfl
set_option maxRecDepth 100000 in
theorem f_0_13 : fe 0 13 = some (.bipush 6, 2, 0, none) := fe_of pg_0 rfl
set_option maxRecDepth 100000 in
theorem f_0_15 : fe 0 15 = some (.newarray .int, 2, 0, none) := fe_of pg_0 rfl
set_option maxRecDepth 100000 in
theorem f_0_17 : fe 0 17 = some (.putfield 15, 3, 0, none) := fe_of pg_0 rfl
set_option maxRecDepth 100000 in
theorem f_0_20 : fe 0 20 = some (.aload_n 0, 1, 0, none) := fe_of pg_0 rfl
set_option maxRecDepth 100000 in
theorem f_0_21 : fe 0 21 = some (.bipush 8, 2, 0, none) := fe_of pg_0 rfl
set_option maxRecDepth 100000 in
theorem f_0_23 : fe 0 23 = some (.newarray .int, 2, 0, none) := fe_of pg_0 rfl
set_option maxRecDepth 100000 in
theorem f_0_25 : fe 0 25 = some (.putfield 18, 3, 0, none) := fe_of pg_0 rfl
set_option maxRecDepth 100000 in
theorem f_0_28 : fe 0 28 = some (.aload_n 0, 1, 0, none) := fe_of pg_0 rfl
set_option maxRecDepth 100000 in
theorem f_0_29 : fe 0 29 = some (.sipush 256, 3, 0, none) := fe_of pg_0 rfl
set_option maxRecDepth 100000 in
theorem f_0_32 : fe 0 32 = some (.newarray .int, 2, 0, none) := fe_of pg_0 rfl
set_option maxRecDepth 100000 in
theorem f_0_34 : fe 0 34 = some (.putfield 21, 3, 0, none) := fe_of pg_0 rfl
set_option maxRecDepth 100000 in
theorem f_0_37 : fe 0 37 = some (.return_, 1, 0, none) := fe_of pg_0 rfl
set_option maxRecDepth 100000 in
theorem f_1_0 : fe 1 0 = some (.aload_n 0, 1, 0, none) := fe_of pg_1 rfl
set_option maxRecDepth 100000 in
theorem f_1_1 : fe 1 1 = some (.aload_n 1, 1, 0, none) := fe_of pg_1 rfl
set_option maxRecDepth 100000 in
theorem f_1_2 : fe 1 2 = some (.iload_n 2, 1, 0, none) := fe_of pg_1 rfl
set_option maxRecDepth 100000 in
theorem f_1_3 : fe 1 3 = some (.invokevirtual 24, 3, 0, none) := fe_of pg_1 rfl
set_option maxRecDepth 100000 in
theorem f_1_6 : fe 1 6 = some (.aload_n 0, 1, 0, none) := fe_of pg_1 rfl
set_option maxRecDepth 100000 in
theorem f_1_7 : fe 1 7 = some (.iconst 0, 1, 0, none) := fe_of pg_1 rfl
set_option maxRecDepth 100000 in
theorem f_1_8 : fe 1 8 = some (.putfield 28, 3, 0, none) := fe_of pg_1 rfl
set_option maxRecDepth 100000 in
theorem f_1_11 : fe 1 11 = some (.iconst 0, 1, 0, none) := fe_of pg_1 rfl
set_option maxRecDepth 100000 in
theorem f_1_12 : fe 1 12 = some (.istore 4, 2, 0, none) := fe_of pg_1 rfl
set_option maxRecDepth 100000 in
theorem f_1_14 : fe 1 14 = some (.iload 4, 2, 0, none) := fe_of pg_1 rfl
set_option maxRecDepth 100000 in
theorem f_1_16 : fe 1 16 = some (.sipush 720, 3, 0, none) := fe_of pg_1 rfl
set_option maxRecDepth 100000 in
theorem f_1_19 : fe 1 19 = some (.if_icmp .ge 82, 3, 0, none) := fe_of pg_1 rfl
set_option maxRecDepth 100000 in
theorem f_1_22 : fe 1 22 = some (.aload_n 0, 1, 0, none) := fe_of pg_1 rfl
set_option maxRecDepth 100000 in
theorem f_1_23 : fe 1 23 = some (.aload_n 1, 1, 0, none) := fe_of pg_1 rfl
set_option maxRecDepth 100000 in
theorem f_1_24 : fe 1 24 = some (.iload_n 3, 1, 0, none) := fe_of pg_1 rfl
set_option maxRecDepth 100000 in
theorem f_1_25 : fe 1 25 = some (.invokevirtual 32, 3, 0, none) := fe_of pg_1 rfl
set_option maxRecDepth 100000 in
theorem f_1_28 : fe 1 28 = some (.istore 5, 2, 0, none) := fe_of pg_1 rfl
set_option maxRecDepth 100000 in
theorem f_1_30 : fe 1 30 = some (.aload_n 0, 1, 0, none) := fe_of pg_1 rfl
set_option maxRecDepth 100000 in
theorem f_1_31 : fe 1 31 = some (.getfield 28, 3, 0, none) := fe_of pg_1 rfl
set_option maxRecDepth 100000 in
theorem f_1_34 : fe 1 34 = some (.ifCond .eq 12, 3, 0, none) := fe_of pg_1 rfl
set_option maxRecDepth 100000 in
theorem f_1_37 : fe 1 37 = some (.iload 5, 2, 0, none) := fe_of pg_1 rfl
set_option maxRecDepth 100000 in
theorem f_1_39 : fe 1 39 = some (.aload_n 0, 1, 0, none) := fe_of pg_1 rfl
set_option maxRecDepth 100000 in
theorem f_1_40 : fe 1 40 = some (.getfield 36, 3, 0, none) := fe_of pg_1 rfl
set_option maxRecDepth 100000 in
theorem f_1_43 : fe 1 43 = some (.if_icmp .ge 25, 3, 0, none) := fe_of pg_1 rfl
set_option maxRecDepth 100000 in
theorem f_1_46 : fe 1 46 = some (.aload_n 0, 1, 0, none) := fe_of pg_1 rfl
set_option maxRecDepth 100000 in
theorem f_1_47 : fe 1 47 = some (.iload 5, 2, 0, none) := fe_of pg_1 rfl
set_option maxRecDepth 100000 in
theorem f_1_49 : fe 1 49 = some (.putfield 36, 3, 0, none) := fe_of pg_1 rfl
set_option maxRecDepth 100000 in
theorem f_1_52 : fe 1 52 = some (.aload_n 0, 1, 0, none) := fe_of pg_1 rfl
set_option maxRecDepth 100000 in
theorem f_1_53 : fe 1 53 = some (.iconst 0, 1, 0, none) := fe_of pg_1 rfl
set_option maxRecDepth 100000 in
theorem f_1_54 : fe 1 54 = some (.putfield 28, 3, 0, none) := fe_of pg_1 rfl
set_option maxRecDepth 100000 in
theorem f_1_57 : fe 1 57 = some (.aload_n 0, 1, 0, none) := fe_of pg_1 rfl
set_option maxRecDepth 100000 in
theorem f_1_58 : fe 1 58 = some (.getfield 9, 3, 0, none) := fe_of pg_1 rfl
set_option maxRecDepth 100000 in
theorem f_1_61 : fe 1 61 = some (.aload_n 0, 1, 0, none) := fe_of pg_1 rfl
set_option maxRecDepth 100000 in
theorem f_1_62 : fe 1 62 = some (.getfield 15, 3, 0, none) := fe_of pg_1 rfl
set_option maxRecDepth 100000 in
theorem f_1_65 : fe 1 65 = some (.invokestatic 39, 3, 0, none) := fe_of pg_1 rfl
set_option maxRecDepth 100000 in
theorem f_1_68 : fe 1 68 = some (.iload 5, 2, 0, none) := fe_of pg_1 rfl
set_option maxRecDepth 100000 in
theorem f_1_70 : fe 1 70 = some (.aload_n 0, 1, 0, none) := fe_of pg_1 rfl
set_option maxRecDepth 100000 in
theorem f_1_71 : fe 1 71 = some (.getfield 36, 3, 0, none) := fe_of pg_1 rfl
set_option maxRecDepth 100000 in
theorem f_1_74 : fe 1 74 = some (.if_icmp .ne 13, 3, 0, none) := fe_of pg_1 rfl
set_option maxRecDepth 100000 in
theorem f_1_77 : fe 1 77 = some (.aload_n 0, 1, 0, none) := fe_of pg_1 rfl
set_option maxRecDepth 100000 in
theorem f_1_78 : fe 1 78 = some (.dup, 1, 0, none) := fe_of pg_1 rfl
set_option maxRecDepth 100000 in
theorem f_1_79 : fe 1 79 = some (.getfield 28, 3, 0, none) := fe_of pg_1 rfl
set_option maxRecDepth 100000 in
theorem f_1_82 : fe 1 82 = some (.iconst 1, 1, 0, none) := fe_of pg_1 rfl
set_option maxRecDepth 100000 in
theorem f_1_83 : fe 1 83 = some (.iadd, 1, 0, none) := fe_of pg_1 rfl
set_option maxRecDepth 100000 in
theorem f_1_84 : fe 1 84 = some (.putfield 28, 3, 0, none) := fe_of pg_1 rfl
set_option maxRecDepth 100000 in
theorem f_1_87 : fe 1 87 = some (.aload_n 0, 1, 0, none) := fe_of pg_1 rfl
set_option maxRecDepth 100000 in
theorem f_1_88 : fe 1 88 = some (.invokevirtual 43, 3, 0, none) := fe_of pg_1 rfl
set_option maxRecDepth 100000 in
theorem f_1_91 : fe 1 91 = some (.ifCond .ne 4, 3, 0, none) := fe_of pg_1 rfl
set_option maxRecDepth 100000 in
theorem f_1_94 : fe 1 94 = some (.return_, 1, 0, none) := fe_of pg_1 rfl
set_option maxRecDepth 100000 in
theorem f_1_95 : fe 1 95 = some (.iinc 4 1, 3, 0, none) := fe_of pg_1 rfl
set_option maxRecDepth 100000 in
theorem f_1_98 : fe 1 98 = some (.goto (-84), 3, 0, none) := fe_of pg_1 rfl
set_option maxRecDepth 100000 in
theorem f_1_101 : fe 1 101 = some (.return_, 1, 0, none) := fe_of pg_1 rfl
set_option maxRecDepth 100000 in
theorem f_2_0 : fe 2 0 = some (.iload_n 1, 1, 0, some .int) := fe_of pg_2 rfl
set_option maxRecDepth 100000 in
theorem f_2_1 : fe 2 1 = some (.lookupswitch 37 #[(0, 27), (1, 32)], 27, 0, some .int) := fe_of pg_2 rfl
set_option maxRecDepth 100000 in
theorem f_2_28 : fe 2 28 = some (.aload_n 0, 1, 0, some .int) := fe_of pg_2 rfl
set_option maxRecDepth 100000 in
theorem f_2_29 : fe 2 29 = some (.getfield 36, 3, 0, some .int) := fe_of pg_2 rfl
set_option maxRecDepth 100000 in
theorem f_2_32 : fe 2 32 = some (.ireturn, 1, 0, some .int) := fe_of pg_2 rfl
set_option maxRecDepth 100000 in
theorem f_2_33 : fe 2 33 = some (.aload_n 0, 1, 0, some .int) := fe_of pg_2 rfl
set_option maxRecDepth 100000 in
theorem f_2_34 : fe 2 34 = some (.getfield 28, 3, 0, some .int) := fe_of pg_2 rfl
set_option maxRecDepth 100000 in
theorem f_2_37 : fe 2 37 = some (.ireturn, 1, 0, some .int) := fe_of pg_2 rfl
set_option maxRecDepth 100000 in
theorem f_2_38 : fe 2 38 = some (.iload_n 1, 1, 0, some .int) := fe_of pg_2 rfl
set_option maxRecDepth 100000 in
theorem f_2_39 : fe 2 39 = some (.bipush 10, 2, 0, some .int) := fe_of pg_2 rfl
set_option maxRecDepth 100000 in
theorem f_2_41 : fe 2 41 = some (.if_icmp .lt 26, 3, 0, some .int) := fe_of pg_2 rfl
set_option maxRecDepth 100000 in
theorem f_2_44 : fe 2 44 = some (.iload_n 1, 1, 0, some .int) := fe_of pg_2 rfl
set_option maxRecDepth 100000 in
theorem f_2_45 : fe 2 45 = some (.bipush 10, 2, 0, some .int) := fe_of pg_2 rfl
set_option maxRecDepth 100000 in
theorem f_2_47 : fe 2 47 = some (.aload_n 0, 1, 0, some .int) := fe_of pg_2 rfl
set_option maxRecDepth 100000 in
theorem f_2_48 : fe 2 48 = some (.getfield 47, 3, 0, some .int) := fe_of pg_2 rfl
set_option maxRecDepth 100000 in
theorem f_2_51 : fe 2 51 = some (.iadd, 1, 0, some .int) := fe_of pg_2 rfl
set_option maxRecDepth 100000 in
theorem f_2_52 : fe 2 52 = some (.if_icmp .ge 15, 3, 0, some .int) := fe_of pg_2 rfl
set_option maxRecDepth 100000 in
theorem f_2_55 : fe 2 55 = some (.aload_n 0, 1, 0, some .int) := fe_of pg_2 rfl
set_option maxRecDepth 100000 in
theorem f_2_56 : fe 2 56 = some (.getfield 15, 3, 0, some .int) := fe_of pg_2 rfl
set_option maxRecDepth 100000 in
theorem f_2_59 : fe 2 59 = some (.iload_n 1, 1, 0, some .int) := fe_of pg_2 rfl
set_option maxRecDepth 100000 in
theorem f_2_60 : fe 2 60 = some (.bipush 10, 2, 0, some .int) := fe_of pg_2 rfl
set_option maxRecDepth 100000 in
theorem f_2_62 : fe 2 62 = some (.isub, 1, 0, some .int) := fe_of pg_2 rfl
set_option maxRecDepth 100000 in
theorem f_2_63 : fe 2 63 = some (.iaload, 1, 0, some .int) := fe_of pg_2 rfl
set_option maxRecDepth 100000 in
theorem f_2_64 : fe 2 64 = some (.goto 4, 3, 0, some .int) := fe_of pg_2 rfl
set_option maxRecDepth 100000 in
theorem f_2_67 : fe 2 67 = some (.iconst (-1), 1, 0, some .int) := fe_of pg_2 rfl
set_option maxRecDepth 100000 in
theorem f_2_68 : fe 2 68 = some (.ireturn, 1, 0, some .int) := fe_of pg_2 rfl
set_option maxRecDepth 100000 in
theorem f_3_0 : fe 3 0 = some (.aload_n 0, 1, 0, none) := fe_of pg_3 rfl
set_option maxRecDepth 100000 in
theorem f_3_1 : fe 3 1 = some (.iconst 0, 1, 0, none) := fe_of pg_3 rfl
set_option maxRecDepth 100000 in
theorem f_3_2 : fe 3 2 = some (.putfield 47, 3, 0, none) := fe_of pg_3 rfl
set_option maxRecDepth 100000 in
theorem f_3_5 : fe 3 5 = some (.iconst 0, 1, 0, none) := fe_of pg_3 rfl
set_option maxRecDepth 100000 in
theorem f_3_6 : fe 3 6 = some (.istore_n 3, 1, 0, none) := fe_of pg_3 rfl
set_option maxRecDepth 100000 in
theorem f_3_7 : fe 3 7 = some (.iload_n 3, 1, 0, none) := fe_of pg_3 rfl
set_option maxRecDepth 100000 in
theorem f_3_8 : fe 3 8 = some (.aload_n 1, 1, 0, none) := fe_of pg_3 rfl
set_option maxRecDepth 100000 in
theorem f_3_9 : fe 3 9 = some (.getfield 50, 3, 0, none) := fe_of pg_3 rfl
set_option maxRecDepth 100000 in
theorem f_3_12 : fe 3 12 = some (.if_icmp .ge 46, 3, 0, none) := fe_of pg_3 rfl
set_option maxRecDepth 100000 in
theorem f_3_15 : fe 3 15 = some (.iload_n 2, 1, 0, none) := fe_of pg_3 rfl
set_option maxRecDepth 100000 in
theorem f_3_16 : fe 3 16 = some (.iload_n 3, 1, 0, none) := fe_of pg_3 rfl
set_option maxRecDepth 100000 in
theorem f_3_17 : fe 3 17 = some (.invokestatic 55, 3, 0, none) := fe_of pg_3 rfl
set_option maxRecDepth 100000 in
theorem f_3_20 : fe 3 20 = some (.ifCond .eq 32, 3, 0, none) := fe_of pg_3 rfl
set_option maxRecDepth 100000 in
theorem f_3_23 : fe 3 23 = some (.aload_n 0, 1, 0, none) := fe_of pg_3 rfl
set_option maxRecDepth 100000 in
theorem f_3_24 : fe 3 24 = some (.getfield 47, 3, 0, none) := fe_of pg_3 rfl
set_option maxRecDepth 100000 in
theorem f_3_27 : fe 3 27 = some (.bipush 6, 2, 0, none) := fe_of pg_3 rfl
set_option maxRecDepth 100000 in
theorem f_3_29 : fe 3 29 = some (.if_icmp .ge 23, 3, 0, none) := fe_of pg_3 rfl
set_option maxRecDepth 100000 in
theorem f_3_32 : fe 3 32 = some (.aload_n 0, 1, 0, none) := fe_of pg_3 rfl
set_option maxRecDepth 100000 in
theorem f_3_33 : fe 3 33 = some (.getfield 9, 3, 0, none) := fe_of pg_3 rfl
set_option maxRecDepth 100000 in
theorem f_3_36 : fe 3 36 = some (.aload_n 0, 1, 0, none) := fe_of pg_3 rfl
set_option maxRecDepth 100000 in
theorem f_3_37 : fe 3 37 = some (.getfield 47, 3, 0, none) := fe_of pg_3 rfl
set_option maxRecDepth 100000 in
theorem f_3_40 : fe 3 40 = some (.iload_n 3, 1, 0, none) := fe_of pg_3 rfl
set_option maxRecDepth 100000 in
theorem f_3_41 : fe 3 41 = some (.iastore, 1, 0, none) := fe_of pg_3 rfl
set_option maxRecDepth 100000 in
theorem f_3_42 : fe 3 42 = some (.aload_n 0, 1, 0, none) := fe_of pg_3 rfl
set_option maxRecDepth 100000 in
theorem f_3_43 : fe 3 43 = some (.dup, 1, 0, none) := fe_of pg_3 rfl
set_option maxRecDepth 100000 in
theorem f_3_44 : fe 3 44 = some (.getfield 47, 3, 0, none) := fe_of pg_3 rfl
set_option maxRecDepth 100000 in
theorem f_3_47 : fe 3 47 = some (.iconst 1, 1, 0, none) := fe_of pg_3 rfl
set_option maxRecDepth 100000 in
theorem f_3_48 : fe 3 48 = some (.iadd, 1, 0, none) := fe_of pg_3 rfl
set_option maxRecDepth 100000 in
theorem f_3_49 : fe 3 49 = some (.putfield 47, 3, 0, none) := fe_of pg_3 rfl
set_option maxRecDepth 100000 in
theorem f_3_52 : fe 3 52 = some (.iinc 3 1, 3, 0, none) := fe_of pg_3 rfl
set_option maxRecDepth 100000 in
theorem f_3_55 : fe 3 55 = some (.goto (-48), 3, 0, none) := fe_of pg_3 rfl
set_option maxRecDepth 100000 in
theorem f_3_58 : fe 3 58 = some (.return_, 1, 0, none) := fe_of pg_3 rfl
set_option maxRecDepth 100000 in
theorem f_4_0 : fe 4 0 = some (.aload_n 1, 1, 0, some .int) := fe_of pg_4 rfl
set_option maxRecDepth 100000 in
theorem f_4_1 : fe 4 1 = some (.getfield 59, 3, 0, some .int) := fe_of pg_4 rfl
set_option maxRecDepth 100000 in
theorem f_4_4 : fe 4 4 = some (.aload_n 0, 1, 0, some .int) := fe_of pg_4 rfl
set_option maxRecDepth 100000 in
theorem f_4_5 : fe 4 5 = some (.getfield 18, 3, 0, some .int) := fe_of pg_4 rfl
set_option maxRecDepth 100000 in
theorem f_4_8 : fe 4 8 = some (.invokestatic 39, 3, 0, some .int) := fe_of pg_4 rfl
set_option maxRecDepth 100000 in
theorem f_4_11 : fe 4 11 = some (.iconst 0, 1, 0, some .int) := fe_of pg_4 rfl
set_option maxRecDepth 100000 in
theorem f_4_12 : fe 4 12 = some (.istore_n 3, 1, 0, some .int) := fe_of pg_4 rfl
set_option maxRecDepth 100000 in
theorem f_4_13 : fe 4 13 = some (.iload_n 3, 1, 0, some .int) := fe_of pg_4 rfl
set_option maxRecDepth 100000 in
theorem f_4_14 : fe 4 14 = some (.iload_n 2, 1, 0, some .int) := fe_of pg_4 rfl
set_option maxRecDepth 100000 in
theorem f_4_15 : fe 4 15 = some (.if_icmp .ge 52, 3, 0, some .int) := fe_of pg_4 rfl
set_option maxRecDepth 100000 in
theorem f_4_18 : fe 4 18 = some (.iconst 0, 1, 0, some .int) := fe_of pg_4 rfl
set_option maxRecDepth 100000 in
theorem f_4_19 : fe 4 19 = some (.istore 4, 2, 0, some .int) := fe_of pg_4 rfl
set_option maxRecDepth 100000 in
theorem f_4_21 : fe 4 21 = some (.iload 4, 2, 0, some .int) := fe_of pg_4 rfl
set_option maxRecDepth 100000 in
theorem f_4_23 : fe 4 23 = some (.iconst 1, 1, 0, some .int) := fe_of pg_4 rfl
set_option maxRecDepth 100000 in
theorem f_4_24 : fe 4 24 = some (.iadd, 1, 0, some .int) := fe_of pg_4 rfl
set_option maxRecDepth 100000 in
theorem f_4_25 : fe 4 25 = some (.aload_n 0, 1, 0, some .int) := fe_of pg_4 rfl
set_option maxRecDepth 100000 in
theorem f_4_26 : fe 4 26 = some (.getfield 47, 3, 0, some .int) := fe_of pg_4 rfl
set_option maxRecDepth 100000 in
theorem f_4_29 : fe 4 29 = some (.if_icmp .ge 32, 3, 0, some .int) := fe_of pg_4 rfl
set_option maxRecDepth 100000 in
theorem f_4_32 : fe 4 32 = some (.aload_n 0, 1, 0, some .int) := fe_of pg_4 rfl
set_option maxRecDepth 100000 in
theorem f_4_33 : fe 4 33 = some (.getfield 18, 3, 0, some .int) := fe_of pg_4 rfl
set_option maxRecDepth 100000 in
theorem f_4_36 : fe 4 36 = some (.aload_n 0, 1, 0, some .int) := fe_of pg_4 rfl
set_option maxRecDepth 100000 in
theorem f_4_37 : fe 4 37 = some (.getfield 9, 3, 0, some .int) := fe_of pg_4 rfl
set_option maxRecDepth 100000 in
theorem f_4_40 : fe 4 40 = some (.iload 4, 2, 0, some .int) := fe_of pg_4 rfl
set_option maxRecDepth 100000 in
theorem f_4_42 : fe 4 42 = some (.iaload, 1, 0, some .int) := fe_of pg_4 rfl
set_option maxRecDepth 100000 in
theorem f_4_43 : fe 4 43 = some (.aload_n 0, 1, 0, some .int) := fe_of pg_4 rfl
set_option maxRecDepth 100000 in
theorem f_4_44 : fe 4 44 = some (.getfield 9, 3, 0, some .int) := fe_of pg_4 rfl
set_option maxRecDepth 100000 in
theorem f_4_47 : fe 4 47 = some (.iload 4, 2, 0, some .int) := fe_of pg_4 rfl
set_option maxRecDepth 100000 in
theorem f_4_49 : fe 4 49 = some (.iconst 1, 1, 0, some .int) := fe_of pg_4 rfl
set_option maxRecDepth 100000 in
theorem f_4_50 : fe 4 50 = some (.iadd, 1, 0, some .int) := fe_of pg_4 rfl
set_option maxRecDepth 100000 in
theorem f_4_51 : fe 4 51 = some (.iaload, 1, 0, some .int) := fe_of pg_4 rfl
set_option maxRecDepth 100000 in
theorem f_4_52 : fe 4 52 = some (.invokestatic 60, 3, 0, some .int) := fe_of pg_4 rfl
set_option maxRecDepth 100000 in
theorem f_4_55 : fe 4 55 = some (.iinc 4 1, 3, 0, some .int) := fe_of pg_4 rfl
set_option maxRecDepth 100000 in
theorem f_4_58 : fe 4 58 = some (.goto (-37), 3, 0, some .int) := fe_of pg_4 rfl
set_option maxRecDepth 100000 in
theorem f_4_61 : fe 4 61 = some (.iinc 3 1, 3, 0, some .int) := fe_of pg_4 rfl
set_option maxRecDepth 100000 in
theorem f_4_64 : fe 4 64 = some (.goto (-51), 3, 0, some .int) := fe_of pg_4 rfl
set_option maxRecDepth 100000 in
theorem f_4_67 : fe 4 67 = some (.iconst 0, 1, 0, some .int) := fe_of pg_4 rfl
set_option maxRecDepth 100000 in
theorem f_4_68 : fe 4 68 = some (.istore_n 3, 1, 0, some .int) := fe_of pg_4 rfl
set_option maxRecDepth 100000 in
theorem f_4_69 : fe 4 69 = some (.iconst 0, 1, 0, some .int) := fe_of pg_4 rfl
set_option maxRecDepth 100000 in
theorem f_4_70 : fe 4 70 = some (.istore 4, 2, 0, some .int) := fe_of pg_4 rfl
set_option maxRecDepth 100000 in
theorem f_4_72 : fe 4 72 = some (.iload 4, 2, 0, some .int) := fe_of pg_4 rfl
set_option maxRecDepth 100000 in
theorem f_4_74 : fe 4 74 = some (.aload_n 0, 1, 0, some .int) := fe_of pg_4 rfl
set_option maxRecDepth 100000 in
theorem f_4_75 : fe 4 75 = some (.getfield 47, 3, 0, some .int) := fe_of pg_4 rfl
set_option maxRecDepth 100000 in
theorem f_4_78 : fe 4 78 = some (.if_icmp .ge 26, 3, 0, some .int) := fe_of pg_4 rfl
set_option maxRecDepth 100000 in
theorem f_4_81 : fe 4 81 = some (.iload_n 3, 1, 0, some .int) := fe_of pg_4 rfl
set_option maxRecDepth 100000 in
theorem f_4_82 : fe 4 82 = some (.aload_n 0, 1, 0, some .int) := fe_of pg_4 rfl
set_option maxRecDepth 100000 in
theorem f_4_83 : fe 4 83 = some (.getfield 18, 3, 0, some .int) := fe_of pg_4 rfl
set_option maxRecDepth 100000 in
theorem f_4_86 : fe 4 86 = some (.aload_n 0, 1, 0, some .int) := fe_of pg_4 rfl
set_option maxRecDepth 100000 in
theorem f_4_87 : fe 4 87 = some (.getfield 9, 3, 0, some .int) := fe_of pg_4 rfl
set_option maxRecDepth 100000 in
theorem f_4_90 : fe 4 90 = some (.iload 4, 2, 0, some .int) := fe_of pg_4 rfl
set_option maxRecDepth 100000 in
theorem f_4_92 : fe 4 92 = some (.iaload, 1, 0, some .int) := fe_of pg_4 rfl
set_option maxRecDepth 100000 in
theorem f_4_93 : fe 4 93 = some (.iaload, 1, 0, some .int) := fe_of pg_4 rfl
set_option maxRecDepth 100000 in
theorem f_4_94 : fe 4 94 = some (.invokestatic 64, 3, 0, some .int) := fe_of pg_4 rfl
set_option maxRecDepth 100000 in
theorem f_4_97 : fe 4 97 = some (.istore_n 3, 1, 0, some .int) := fe_of pg_4 rfl
set_option maxRecDepth 100000 in
theorem f_4_98 : fe 4 98 = some (.iinc 4 1, 3, 0, some .int) := fe_of pg_4 rfl
set_option maxRecDepth 100000 in
theorem f_4_101 : fe 4 101 = some (.goto (-29), 3, 0, some .int) := fe_of pg_4 rfl
set_option maxRecDepth 100000 in
theorem f_4_104 : fe 4 104 = some (.iload_n 3, 1, 0, some .int) := fe_of pg_4 rfl
set_option maxRecDepth 100000 in
theorem f_4_105 : fe 4 105 = some (.ireturn, 1, 0, some .int) := fe_of pg_4 rfl
set_option maxRecDepth 100000 in
theorem f_5_0 : fe 5 0 = some (.aload_n 0, 1, 0, some .boolean) := fe_of pg_5 rfl
set_option maxRecDepth 100000 in
theorem f_5_1 : fe 5 1 = some (.getfield 47, 3, 0, some .boolean) := fe_of pg_5 rfl
set_option maxRecDepth 100000 in
theorem f_5_4 : fe 5 4 = some (.iconst 2, 1, 0, some .boolean) := fe_of pg_5 rfl
set_option maxRecDepth 100000 in
theorem f_5_5 : fe 5 5 = some (.isub, 1, 0, some .boolean) := fe_of pg_5 rfl
set_option maxRecDepth 100000 in
theorem f_5_6 : fe 5 6 = some (.istore_n 1, 1, 0, some .boolean) := fe_of pg_5 rfl
set_option maxRecDepth 100000 in
theorem f_5_7 : fe 5 7 = some (.iload_n 1, 1, 0, some .boolean) := fe_of pg_5 rfl
set_option maxRecDepth 100000 in
theorem f_5_8 : fe 5 8 = some (.ifCond .lt 26, 3, 0, some .boolean) := fe_of pg_5 rfl
set_option maxRecDepth 100000 in
theorem f_5_11 : fe 5 11 = some (.aload_n 0, 1, 0, some .boolean) := fe_of pg_5 rfl
set_option maxRecDepth 100000 in
theorem f_5_12 : fe 5 12 = some (.getfield 9, 3, 0, some .boolean) := fe_of pg_5 rfl
set_option maxRecDepth 100000 in
theorem f_5_15 : fe 5 15 = some (.iload_n 1, 1, 0, some .boolean) := fe_of pg_5 rfl
set_option maxRecDepth 100000 in
theorem f_5_16 : fe 5 16 = some (.iaload, 1, 0, some .boolean) := fe_of pg_5 rfl
set_option maxRecDepth 100000 in
theorem f_5_17 : fe 5 17 = some (.aload_n 0, 1, 0, some .boolean) := fe_of pg_5 rfl
set_option maxRecDepth 100000 in
theorem f_5_18 : fe 5 18 = some (.getfield 9, 3, 0, some .boolean) := fe_of pg_5 rfl
set_option maxRecDepth 100000 in
theorem f_5_21 : fe 5 21 = some (.iload_n 1, 1, 0, some .boolean) := fe_of pg_5 rfl
set_option maxRecDepth 100000 in
theorem f_5_22 : fe 5 22 = some (.iconst 1, 1, 0, some .boolean) := fe_of pg_5 rfl
set_option maxRecDepth 100000 in
theorem f_5_23 : fe 5 23 = some (.iadd, 1, 0, some .boolean) := fe_of pg_5 rfl
set_option maxRecDepth 100000 in
theorem f_5_24 : fe 5 24 = some (.iaload, 1, 0, some .boolean) := fe_of pg_5 rfl
set_option maxRecDepth 100000 in
theorem f_5_25 : fe 5 25 = some (.if_icmp .le 9, 3, 0, some .boolean) := fe_of pg_5 rfl
set_option maxRecDepth 100000 in
theorem f_5_28 : fe 5 28 = some (.iinc 1 (-1), 3, 0, some .boolean) := fe_of pg_5 rfl
set_option maxRecDepth 100000 in
theorem f_5_31 : fe 5 31 = some (.goto (-24), 3, 0, some .boolean) := fe_of pg_5 rfl
set_option maxRecDepth 100000 in
theorem f_5_34 : fe 5 34 = some (.iload_n 1, 1, 0, some .boolean) := fe_of pg_5 rfl
set_option maxRecDepth 100000 in
theorem f_5_35 : fe 5 35 = some (.ifCond .ge 5, 3, 0, some .boolean) := fe_of pg_5 rfl
set_option maxRecDepth 100000 in
theorem f_5_38 : fe 5 38 = some (.iconst 0, 1, 0, some .boolean) := fe_of pg_5 rfl
set_option maxRecDepth 100000 in
theorem f_5_39 : fe 5 39 = some (.ireturn, 1, 0, some .boolean) := fe_of pg_5 rfl
set_option maxRecDepth 100000 in
theorem f_5_40 : fe 5 40 = some (.aload_n 0, 1, 0, some .boolean) := fe_of pg_5 rfl
set_option maxRecDepth 100000 in
theorem f_5_41 : fe 5 41 = some (.getfield 47, 3, 0, some .boolean) := fe_of pg_5 rfl
set_option maxRecDepth 100000 in
theorem f_5_44 : fe 5 44 = some (.iconst 1, 1, 0, some .boolean) := fe_of pg_5 rfl
set_option maxRecDepth 100000 in
theorem f_5_45 : fe 5 45 = some (.isub, 1, 0, some .boolean) := fe_of pg_5 rfl
set_option maxRecDepth 100000 in
theorem f_5_46 : fe 5 46 = some (.istore_n 2, 1, 0, some .boolean) := fe_of pg_5 rfl
set_option maxRecDepth 100000 in
theorem f_5_47 : fe 5 47 = some (.iload_n 2, 1, 0, some .boolean) := fe_of pg_5 rfl
set_option maxRecDepth 100000 in
theorem f_5_48 : fe 5 48 = some (.iload_n 1, 1, 0, some .boolean) := fe_of pg_5 rfl
set_option maxRecDepth 100000 in
theorem f_5_49 : fe 5 49 = some (.if_icmp .le 24, 3, 0, some .boolean) := fe_of pg_5 rfl
set_option maxRecDepth 100000 in
theorem f_5_52 : fe 5 52 = some (.aload_n 0, 1, 0, some .boolean) := fe_of pg_5 rfl
set_option maxRecDepth 100000 in
theorem f_5_53 : fe 5 53 = some (.getfield 9, 3, 0, some .boolean) := fe_of pg_5 rfl
set_option maxRecDepth 100000 in
theorem f_5_56 : fe 5 56 = some (.iload_n 2, 1, 0, some .boolean) := fe_of pg_5 rfl
set_option maxRecDepth 100000 in
theorem f_5_57 : fe 5 57 = some (.iaload, 1, 0, some .boolean) := fe_of pg_5 rfl
set_option maxRecDepth 100000 in
theorem f_5_58 : fe 5 58 = some (.aload_n 0, 1, 0, some .boolean) := fe_of pg_5 rfl
set_option maxRecDepth 100000 in
theorem f_5_59 : fe 5 59 = some (.getfield 9, 3, 0, some .boolean) := fe_of pg_5 rfl
set_option maxRecDepth 100000 in
theorem f_5_62 : fe 5 62 = some (.iload_n 1, 1, 0, some .boolean) := fe_of pg_5 rfl
set_option maxRecDepth 100000 in
theorem f_5_63 : fe 5 63 = some (.iaload, 1, 0, some .boolean) := fe_of pg_5 rfl
set_option maxRecDepth 100000 in
theorem f_5_64 : fe 5 64 = some (.if_icmp .ge 9, 3, 0, some .boolean) := fe_of pg_5 rfl
set_option maxRecDepth 100000 in
theorem f_5_67 : fe 5 67 = some (.iinc 2 (-1), 3, 0, some .boolean) := fe_of pg_5 rfl
set_option maxRecDepth 100000 in
theorem f_5_70 : fe 5 70 = some (.goto (-23), 3, 0, some .boolean) := fe_of pg_5 rfl
set_option maxRecDepth 100000 in
theorem f_5_73 : fe 5 73 = some (.aload_n 0, 1, 0, some .boolean) := fe_of pg_5 rfl
set_option maxRecDepth 100000 in
theorem f_5_74 : fe 5 74 = some (.iload_n 1, 1, 0, some .boolean) := fe_of pg_5 rfl
set_option maxRecDepth 100000 in
theorem f_5_75 : fe 5 75 = some (.iload_n 2, 1, 0, some .boolean) := fe_of pg_5 rfl
set_option maxRecDepth 100000 in
theorem f_5_76 : fe 5 76 = some (.invokevirtual 70, 3, 0, some .boolean) := fe_of pg_5 rfl
set_option maxRecDepth 100000 in
theorem f_5_79 : fe 5 79 = some (.iload_n 1, 1, 0, some .boolean) := fe_of pg_5 rfl
set_option maxRecDepth 100000 in
theorem f_5_80 : fe 5 80 = some (.iconst 1, 1, 0, some .boolean) := fe_of pg_5 rfl
set_option maxRecDepth 100000 in
theorem f_5_81 : fe 5 81 = some (.iadd, 1, 0, some .boolean) := fe_of pg_5 rfl
set_option maxRecDepth 100000 in
theorem f_5_82 : fe 5 82 = some (.istore_n 3, 1, 0, some .boolean) := fe_of pg_5 rfl
set_option maxRecDepth 100000 in
theorem f_5_83 : fe 5 83 = some (.aload_n 0, 1, 0, some .boolean) := fe_of pg_5 rfl
set_option maxRecDepth 100000 in
theorem f_5_84 : fe 5 84 = some (.getfield 47, 3, 0, some .boolean) := fe_of pg_5 rfl
set_option maxRecDepth 100000 in
theorem f_5_87 : fe 5 87 = some (.iconst 1, 1, 0, some .boolean) := fe_of pg_5 rfl
set_option maxRecDepth 100000 in
theorem f_5_88 : fe 5 88 = some (.isub, 1, 0, some .boolean) := fe_of pg_5 rfl
set_option maxRecDepth 100000 in
theorem f_5_89 : fe 5 89 = some (.istore 4, 2, 0, some .boolean) := fe_of pg_5 rfl
set_option maxRecDepth 100000 in
theorem f_5_91 : fe 5 91 = some (.iload_n 3, 1, 0, some .boolean) := fe_of pg_5 rfl
set_option maxRecDepth 100000 in
theorem f_5_92 : fe 5 92 = some (.iload 4, 2, 0, some .boolean) := fe_of pg_5 rfl
set_option maxRecDepth 100000 in
theorem f_5_94 : fe 5 94 = some (.if_icmp .ge 19, 3, 0, some .boolean) := fe_of pg_5 rfl
set_option maxRecDepth 100000 in
theorem f_5_97 : fe 5 97 = some (.aload_n 0, 1, 0, some .boolean) := fe_of pg_5 rfl
set_option maxRecDepth 100000 in
theorem f_5_98 : fe 5 98 = some (.iload_n 3, 1, 0, some .boolean) := fe_of pg_5 rfl
set_option maxRecDepth 100000 in
theorem f_5_99 : fe 5 99 = some (.iload 4, 2, 0, some .boolean) := fe_of pg_5 rfl
set_option maxRecDepth 100000 in
theorem f_5_101 : fe 5 101 = some (.invokevirtual 70, 3, 0, some .boolean) := fe_of pg_5 rfl
set_option maxRecDepth 100000 in
theorem f_5_104 : fe 5 104 = some (.iinc 3 1, 3, 0, some .boolean) := fe_of pg_5 rfl
set_option maxRecDepth 100000 in
theorem f_5_107 : fe 5 107 = some (.iinc 4 (-1), 3, 0, some .boolean) := fe_of pg_5 rfl
set_option maxRecDepth 100000 in
theorem f_5_110 : fe 5 110 = some (.goto (-19), 3, 0, some .boolean) := fe_of pg_5 rfl
set_option maxRecDepth 100000 in
theorem f_5_113 : fe 5 113 = some (.iconst 1, 1, 0, some .boolean) := fe_of pg_5 rfl
set_option maxRecDepth 100000 in
theorem f_5_114 : fe 5 114 = some (.ireturn, 1, 0, some .boolean) := fe_of pg_5 rfl
set_option maxRecDepth 100000 in
theorem f_6_0 : fe 6 0 = some (.aload_n 0, 1, 0, none) := fe_of pg_6 rfl
set_option maxRecDepth 100000 in
theorem f_6_1 : fe 6 1 = some (.getfield 9, 3, 0, none) := fe_of pg_6 rfl
set_option maxRecDepth 100000 in
theorem f_6_4 : fe 6 4 = some (.iload_n 1, 1, 0, none) := fe_of pg_6 rfl
set_option maxRecDepth 100000 in
theorem f_6_5 : fe 6 5 = some (.iaload, 1, 0, none) := fe_of pg_6 rfl
set_option maxRecDepth 100000 in
theorem f_6_6 : fe 6 6 = some (.istore_n 3, 1, 0, none) := fe_of pg_6 rfl
set_option maxRecDepth 100000 in
theorem f_6_7 : fe 6 7 = some (.aload_n 0, 1, 0, none) := fe_of pg_6 rfl
set_option maxRecDepth 100000 in
theorem f_6_8 : fe 6 8 = some (.getfield 9, 3, 0, none) := fe_of pg_6 rfl
set_option maxRecDepth 100000 in
theorem f_6_11 : fe 6 11 = some (.iload_n 1, 1, 0, none) := fe_of pg_6 rfl
set_option maxRecDepth 100000 in
theorem f_6_12 : fe 6 12 = some (.aload_n 0, 1, 0, none) := fe_of pg_6 rfl
set_option maxRecDepth 100000 in
theorem f_6_13 : fe 6 13 = some (.getfield 9, 3, 0, none) := fe_of pg_6 rfl
set_option maxRecDepth 100000 in
theorem f_6_16 : fe 6 16 = some (.iload_n 2, 1, 0, none) := fe_of pg_6 rfl
set_option maxRecDepth 100000 in
theorem f_6_17 : fe 6 17 = some (.iaload, 1, 0, none) := fe_of pg_6 rfl
set_option maxRecDepth 100000 in
theorem f_6_18 : fe 6 18 = some (.iastore, 1, 0, none) := fe_of pg_6 rfl
set_option maxRecDepth 100000 in
theorem f_6_19 : fe 6 19 = some (.aload_n 0, 1, 0, none) := fe_of pg_6 rfl
set_option maxRecDepth 100000 in
theorem f_6_20 : fe 6 20 = some (.getfield 9, 3, 0, none) := fe_of pg_6 rfl
set_option maxRecDepth 100000 in
theorem f_6_23 : fe 6 23 = some (.iload_n 2, 1, 0, none) := fe_of pg_6 rfl
set_option maxRecDepth 100000 in
theorem f_6_24 : fe 6 24 = some (.iload_n 3, 1, 0, none) := fe_of pg_6 rfl
set_option maxRecDepth 100000 in
theorem f_6_25 : fe 6 25 = some (.iastore, 1, 0, none) := fe_of pg_6 rfl
set_option maxRecDepth 100000 in
theorem f_6_26 : fe 6 26 = some (.return_, 1, 0, none) := fe_of pg_6 rfl
set_option maxRecDepth 100000 in
theorem f_7_0 : fe 7 0 = some (.aload_n 0, 1, 0, some .int) := fe_of pg_7 rfl
set_option maxRecDepth 100000 in
theorem f_7_1 : fe 7 1 = some (.getfield 21, 3, 0, some .int) := fe_of pg_7 rfl
set_option maxRecDepth 100000 in
theorem f_7_4 : fe 7 4 = some (.iconst 0, 1, 0, some .int) := fe_of pg_7 rfl
set_option maxRecDepth 100000 in
theorem f_7_5 : fe 7 5 = some (.iconst 0, 1, 0, some .int) := fe_of pg_7 rfl
set_option maxRecDepth 100000 in
theorem f_7_6 : fe 7 6 = some (.iastore, 1, 0, some .int) := fe_of pg_7 rfl
set_option maxRecDepth 100000 in
theorem f_7_7 : fe 7 7 = some (.iconst 1, 1, 0, some .int) := fe_of pg_7 rfl
set_option maxRecDepth 100000 in
theorem f_7_8 : fe 7 8 = some (.istore_n 3, 1, 0, some .int) := fe_of pg_7 rfl
set_option maxRecDepth 100000 in
theorem f_7_9 : fe 7 9 = some (.iload_n 3, 1, 0, some .int) := fe_of pg_7 rfl
set_option maxRecDepth 100000 in
theorem f_7_10 : fe 7 10 = some (.iload_n 2, 1, 0, some .int) := fe_of pg_7 rfl
set_option maxRecDepth 100000 in
theorem f_7_11 : fe 7 11 = some (.if_icmp .gt 36, 3, 0, some .int) := fe_of pg_7 rfl
set_option maxRecDepth 100000 in
theorem f_7_14 : fe 7 14 = some (.iload_n 3, 1, 0, some .int) := fe_of pg_7 rfl
set_option maxRecDepth 100000 in
theorem f_7_15 : fe 7 15 = some (.sipush 256, 3, 0, some .int) := fe_of pg_7 rfl
set_option maxRecDepth 100000 in
theorem f_7_18 : fe 7 18 = some (.if_icmp .ge 29, 3, 0, some .int) := fe_of pg_7 rfl
set_option maxRecDepth 100000 in
theorem f_7_21 : fe 7 21 = some (.iload_n 3, 1, 0, some .int) := fe_of pg_7 rfl
set_option maxRecDepth 100000 in
theorem f_7_22 : fe 7 22 = some (.iload_n 2, 1, 0, some .int) := fe_of pg_7 rfl
set_option maxRecDepth 100000 in
theorem f_7_23 : fe 7 23 = some (.invokestatic 74, 3, 0, some .int) := fe_of pg_7 rfl
set_option maxRecDepth 100000 in
theorem f_7_26 : fe 7 26 = some (.ifCond .eq 15, 3, 0, some .int) := fe_of pg_7 rfl
set_option maxRecDepth 100000 in
theorem f_7_29 : fe 7 29 = some (.aload_n 0, 1, 0, some .int) := fe_of pg_7 rfl
set_option maxRecDepth 100000 in
theorem f_7_30 : fe 7 30 = some (.getfield 21, 3, 0, some .int) := fe_of pg_7 rfl
set_option maxRecDepth 100000 in
theorem f_7_33 : fe 7 33 = some (.iload_n 3, 1, 0, some .int) := fe_of pg_7 rfl
set_option maxRecDepth 100000 in
theorem f_7_34 : fe 7 34 = some (.aload_n 0, 1, 0, some .int) := fe_of pg_7 rfl
set_option maxRecDepth 100000 in
theorem f_7_35 : fe 7 35 = some (.aload_n 1, 1, 0, some .int) := fe_of pg_7 rfl
set_option maxRecDepth 100000 in
theorem f_7_36 : fe 7 36 = some (.iload_n 3, 1, 0, some .int) := fe_of pg_7 rfl
set_option maxRecDepth 100000 in
theorem f_7_37 : fe 7 37 = some (.invokevirtual 77, 3, 0, some .int) := fe_of pg_7 rfl
set_option maxRecDepth 100000 in
theorem f_7_40 : fe 7 40 = some (.iastore, 1, 0, some .int) := fe_of pg_7 rfl
set_option maxRecDepth 100000 in
theorem f_7_41 : fe 7 41 = some (.iinc 3 1, 3, 0, some .int) := fe_of pg_7 rfl
set_option maxRecDepth 100000 in
theorem f_7_44 : fe 7 44 = some (.goto (-35), 3, 0, some .int) := fe_of pg_7 rfl
set_option maxRecDepth 100000 in
theorem f_7_47 : fe 7 47 = some (.iload_n 2, 1, 0, some .int) := fe_of pg_7 rfl
set_option maxRecDepth 100000 in
theorem f_7_48 : fe 7 48 = some (.ifCond .le 19, 3, 0, some .int) := fe_of pg_7 rfl
set_option maxRecDepth 100000 in
theorem f_7_51 : fe 7 51 = some (.iload_n 2, 1, 0, some .int) := fe_of pg_7 rfl
set_option maxRecDepth 100000 in
theorem f_7_52 : fe 7 52 = some (.sipush 256, 3, 0, some .int) := fe_of pg_7 rfl
set_option maxRecDepth 100000 in
theorem f_7_55 : fe 7 55 = some (.if_icmp .ge 12, 3, 0, some .int) := fe_of pg_7 rfl
set_option maxRecDepth 100000 in
theorem f_7_58 : fe 7 58 = some (.aload_n 0, 1, 0, some .int) := fe_of pg_7 rfl
set_option maxRecDepth 100000 in
theorem f_7_59 : fe 7 59 = some (.getfield 21, 3, 0, some .int) := fe_of pg_7 rfl
set_option maxRecDepth 100000 in
theorem f_7_62 : fe 7 62 = some (.iload_n 2, 1, 0, some .int) := fe_of pg_7 rfl
set_option maxRecDepth 100000 in
theorem f_7_63 : fe 7 63 = some (.iaload, 1, 0, some .int) := fe_of pg_7 rfl
set_option maxRecDepth 100000 in
theorem f_7_64 : fe 7 64 = some (.goto 4, 3, 0, some .int) := fe_of pg_7 rfl
set_option maxRecDepth 100000 in
theorem f_7_67 : fe 7 67 = some (.iconst (-1), 1, 0, some .int) := fe_of pg_7 rfl
set_option maxRecDepth 100000 in
theorem f_7_68 : fe 7 68 = some (.ireturn, 1, 0, some .int) := fe_of pg_7 rfl
set_option maxRecDepth 100000 in
theorem f_8_0 : fe 8 0 = some (.iload_n 2, 1, 0, some .int) := fe_of pg_8 rfl
set_option maxRecDepth 100000 in
theorem f_8_1 : fe 8 1 = some (.invokestatic 80, 3, 0, some .int) := fe_of pg_8 rfl
set_option maxRecDepth 100000 in
theorem f_8_4 : fe 8 4 = some (.istore_n 3, 1, 0, some .int) := fe_of pg_8 rfl
set_option maxRecDepth 100000 in
theorem f_8_5 : fe 8 5 = some (.iconst (-1), 1, 0, some .int) := fe_of pg_8 rfl
set_option maxRecDepth 100000 in
theorem f_8_6 : fe 8 6 = some (.istore 4, 2, 0, some .int) := fe_of pg_8 rfl
set_option maxRecDepth 100000 in
theorem f_8_8 : fe 8 8 = some (.iload_n 3, 1, 0, some .int) := fe_of pg_8 rfl
set_option maxRecDepth 100000 in
theorem f_8_9 : fe 8 9 = some (.iconst 1, 1, 0, some .int) := fe_of pg_8 rfl
set_option maxRecDepth 100000 in
theorem f_8_10 : fe 8 10 = some (.iadd, 1, 0, some .int) := fe_of pg_8 rfl
set_option maxRecDepth 100000 in
theorem f_8_11 : fe 8 11 = some (.istore 5, 2, 0, some .int) := fe_of pg_8 rfl
set_option maxRecDepth 100000 in
theorem f_8_13 : fe 8 13 = some (.iload 5, 2, 0, some .int) := fe_of pg_8 rfl
set_option maxRecDepth 100000 in
theorem f_8_15 : fe 8 15 = some (.aload_n 1, 1, 0, some .int) := fe_of pg_8 rfl
set_option maxRecDepth 100000 in
theorem f_8_16 : fe 8 16 = some (.getfield 50, 3, 0, some .int) := fe_of pg_8 rfl
set_option maxRecDepth 100000 in
theorem f_8_19 : fe 8 19 = some (.if_icmp .ge 62, 3, 0, some .int) := fe_of pg_8 rfl
set_option maxRecDepth 100000 in
theorem f_8_22 : fe 8 22 = some (.iload_n 2, 1, 0, some .int) := fe_of pg_8 rfl
set_option maxRecDepth 100000 in
theorem f_8_23 : fe 8 23 = some (.iload 5, 2, 0, some .int) := fe_of pg_8 rfl
set_option maxRecDepth 100000 in
theorem f_8_25 : fe 8 25 = some (.invokestatic 55, 3, 0, some .int) := fe_of pg_8 rfl
set_option maxRecDepth 100000 in
theorem f_8_28 : fe 8 28 = some (.ifCond .eq 47, 3, 0, some .int) := fe_of pg_8 rfl
set_option maxRecDepth 100000 in
theorem f_8_31 : fe 8 31 = some (.aload_n 1, 1, 0, some .int) := fe_of pg_8 rfl
set_option maxRecDepth 100000 in
theorem f_8_32 : fe 8 32 = some (.iload_n 3, 1, 0, some .int) := fe_of pg_8 rfl
set_option maxRecDepth 100000 in
theorem f_8_33 : fe 8 33 = some (.iload 5, 2, 0, some .int) := fe_of pg_8 rfl
set_option maxRecDepth 100000 in
theorem f_8_35 : fe 8 35 = some (.invokestatic 86, 3, 0, some .int) := fe_of pg_8 rfl
set_option maxRecDepth 100000 in
theorem f_8_38 : fe 8 38 = some (.aload_n 0, 1, 0, some .int) := fe_of pg_8 rfl
set_option maxRecDepth 100000 in
theorem f_8_39 : fe 8 39 = some (.getfield 21, 3, 0, some .int) := fe_of pg_8 rfl
set_option maxRecDepth 100000 in
theorem f_8_42 : fe 8 42 = some (.iload_n 2, 1, 0, some .int) := fe_of pg_8 rfl
set_option maxRecDepth 100000 in
theorem f_8_43 : fe 8 43 = some (.iload_n 3, 1, 0, some .int) := fe_of pg_8 rfl
set_option maxRecDepth 100000 in
theorem f_8_44 : fe 8 44 = some (.iload 5, 2, 0, some .int) := fe_of pg_8 rfl
set_option maxRecDepth 100000 in
theorem f_8_46 : fe 8 46 = some (.invokestatic 90, 3, 0, some .int) := fe_of pg_8 rfl
set_option maxRecDepth 100000 in
theorem f_8_49 : fe 8 49 = some (.iaload, 1, 0, some .int) := fe_of pg_8 rfl
set_option maxRecDepth 100000 in
theorem f_8_50 : fe 8 50 = some (.invokestatic 64, 3, 0, some .int) := fe_of pg_8 rfl
set_option maxRecDepth 100000 in
theorem f_8_53 : fe 8 53 = some (.istore 6, 2, 0, some .int) := fe_of pg_8 rfl
set_option maxRecDepth 100000 in
theorem f_8_55 : fe 8 55 = some (.iload 4, 2, 0, some .int) := fe_of pg_8 rfl
set_option maxRecDepth 100000 in
theorem f_8_57 : fe 8 57 = some (.iconst (-1), 1, 0, some .int) := fe_of pg_8 rfl
set_option maxRecDepth 100000 in
theorem f_8_58 : fe 8 58 = some (.if_icmp .ne 8, 3, 0, some .int) := fe_of pg_8 rfl
set_option maxRecDepth 100000 in
theorem f_8_61 : fe 8 61 = some (.iload 6, 2, 0, some .int) := fe_of pg_8 rfl
set_option maxRecDepth 100000 in
theorem f_8_63 : fe 8 63 = some (.goto 10, 3, 0, some .int) := fe_of pg_8 rfl
set_option maxRecDepth 100000 in
theorem f_8_66 : fe 8 66 = some (.iload 4, 2, 0, some .int) := fe_of pg_8 rfl
set_option maxRecDepth 100000 in
theorem f_8_68 : fe 8 68 = some (.iload 6, 2, 0, some .int) := fe_of pg_8 rfl
set_option maxRecDepth 100000 in
theorem f_8_70 : fe 8 70 = some (.invokestatic 94, 3, 0, some .int) := fe_of pg_8 rfl
set_option maxRecDepth 100000 in
theorem f_8_73 : fe 8 73 = some (.istore 4, 2, 0, some .int) := fe_of pg_8 rfl
set_option maxRecDepth 100000 in
theorem f_8_75 : fe 8 75 = some (.iinc 5 1, 3, 0, some .int) := fe_of pg_8 rfl
set_option maxRecDepth 100000 in
theorem f_8_78 : fe 8 78 = some (.goto (-65), 3, 0, some .int) := fe_of pg_8 rfl
set_option maxRecDepth 100000 in
theorem f_8_81 : fe 8 81 = some (.iload 4, 2, 0, some .int) := fe_of pg_8 rfl
set_option maxRecDepth 100000 in
theorem f_8_83 : fe 8 83 = some (.ireturn, 1, 0, some .int) := fe_of pg_8 rfl
set_option maxRecDepth 100000 in
theorem f_9_0 : fe 9 0 = some (.aload_n 0, 1, 0, some .int) := fe_of pg_9 rfl
set_option maxRecDepth 100000 in
theorem f_9_1 : fe 9 1 = some (.getfield 21, 3, 0, some .int) := fe_of pg_9 rfl
set_option maxRecDepth 100000 in
theorem f_9_4 : fe 9 4 = some (.iconst 0, 1, 0, some .int) := fe_of pg_9 rfl
set_option maxRecDepth 100000 in
theorem f_9_5 : fe 9 5 = some (.iconst 1, 1, 0, some .int) := fe_of pg_9 rfl
set_option maxRecDepth 100000 in
theorem f_9_6 : fe 9 6 = some (.iastore, 1, 0, some .int) := fe_of pg_9 rfl
set_option maxRecDepth 100000 in
theorem f_9_7 : fe 9 7 = some (.iconst 1, 1, 0, some .int) := fe_of pg_9 rfl
set_option maxRecDepth 100000 in
theorem f_9_8 : fe 9 8 = some (.istore 4, 2, 0, some .int) := fe_of pg_9 rfl
set_option maxRecDepth 100000 in
theorem f_9_10 : fe 9 10 = some (.iload 4, 2, 0, some .int) := fe_of pg_9 rfl
set_option maxRecDepth 100000 in
theorem f_9_12 : fe 9 12 = some (.iload_n 2, 1, 0, some .int) := fe_of pg_9 rfl
set_option maxRecDepth 100000 in
theorem f_9_13 : fe 9 13 = some (.if_icmp .gt 41, 3, 0, some .int) := fe_of pg_9 rfl
set_option maxRecDepth 100000 in
theorem f_9_16 : fe 9 16 = some (.iload 4, 2, 0, some .int) := fe_of pg_9 rfl
set_option maxRecDepth 100000 in
theorem f_9_18 : fe 9 18 = some (.sipush 256, 3, 0, some .int) := fe_of pg_9 rfl
set_option maxRecDepth 100000 in
theorem f_9_21 : fe 9 21 = some (.if_icmp .ge 33, 3, 0, some .int) := fe_of pg_9 rfl
set_option maxRecDepth 100000 in
theorem f_9_24 : fe 9 24 = some (.iload 4, 2, 0, some .int) := fe_of pg_9 rfl
set_option maxRecDepth 100000 in
theorem f_9_26 : fe 9 26 = some (.iload_n 2, 1, 0, some .int) := fe_of pg_9 rfl
set_option maxRecDepth 100000 in
theorem f_9_27 : fe 9 27 = some (.invokestatic 74, 3, 0, some .int) := fe_of pg_9 rfl
set_option maxRecDepth 100000 in
theorem f_9_30 : fe 9 30 = some (.ifCond .eq 18, 3, 0, some .int) := fe_of pg_9 rfl
set_option maxRecDepth 100000 in
theorem f_9_33 : fe 9 33 = some (.aload_n 0, 1, 0, some .int) := fe_of pg_9 rfl
set_option maxRecDepth 100000 in
theorem f_9_34 : fe 9 34 = some (.getfield 21, 3, 0, some .int) := fe_of pg_9 rfl
set_option maxRecDepth 100000 in
theorem f_9_37 : fe 9 37 = some (.iload 4, 2, 0, some .int) := fe_of pg_9 rfl
set_option maxRecDepth 100000 in
theorem f_9_39 : fe 9 39 = some (.aload_n 0, 1, 0, some .int) := fe_of pg_9 rfl
set_option maxRecDepth 100000 in
theorem f_9_40 : fe 9 40 = some (.aload_n 1, 1, 0, some .int) := fe_of pg_9 rfl
set_option maxRecDepth 100000 in
theorem f_9_41 : fe 9 41 = some (.iload 4, 2, 0, some .int) := fe_of pg_9 rfl
set_option maxRecDepth 100000 in
theorem f_9_43 : fe 9 43 = some (.iload_n 3, 1, 0, some .int) := fe_of pg_9 rfl
set_option maxRecDepth 100000 in
theorem f_9_44 : fe 9 44 = some (.invokevirtual 97, 3, 0, some .int) := fe_of pg_9 rfl
set_option maxRecDepth 100000 in
theorem f_9_47 : fe 9 47 = some (.iastore, 1, 0, some .int) := fe_of pg_9 rfl
set_option maxRecDepth 100000 in
theorem f_9_48 : fe 9 48 = some (.iinc 4 1, 3, 0, some .int) := fe_of pg_9 rfl
set_option maxRecDepth 100000 in
theorem f_9_51 : fe 9 51 = some (.goto (-41), 3, 0, some .int) := fe_of pg_9 rfl
set_option maxRecDepth 100000 in
theorem f_9_54 : fe 9 54 = some (.iload_n 2, 1, 0, some .int) := fe_of pg_9 rfl
set_option maxRecDepth 100000 in
theorem f_9_55 : fe 9 55 = some (.ifCond .le 19, 3, 0, some .int) := fe_of pg_9 rfl
set_option maxRecDepth 100000 in
theorem f_9_58 : fe 9 58 = some (.iload_n 2, 1, 0, some .int) := fe_of pg_9 rfl
set_option maxRecDepth 100000 in
theorem f_9_59 : fe 9 59 = some (.sipush 256, 3, 0, some .int) := fe_of pg_9 rfl
set_option maxRecDepth 100000 in
theorem f_9_62 : fe 9 62 = some (.if_icmp .ge 12, 3, 0, some .int) := fe_of pg_9 rfl
set_option maxRecDepth 100000 in
theorem f_9_65 : fe 9 65 = some (.aload_n 0, 1, 0, some .int) := fe_of pg_9 rfl
set_option maxRecDepth 100000 in
theorem f_9_66 : fe 9 66 = some (.getfield 21, 3, 0, some .int) := fe_of pg_9 rfl
set_option maxRecDepth 100000 in
theorem f_9_69 : fe 9 69 = some (.iload_n 2, 1, 0, some .int) := fe_of pg_9 rfl
set_option maxRecDepth 100000 in
theorem f_9_70 : fe 9 70 = some (.iaload, 1, 0, some .int) := fe_of pg_9 rfl
set_option maxRecDepth 100000 in
theorem f_9_71 : fe 9 71 = some (.goto 4, 3, 0, some .int) := fe_of pg_9 rfl
set_option maxRecDepth 100000 in
theorem f_9_74 : fe 9 74 = some (.iconst (-1), 1, 0, some .int) := fe_of pg_9 rfl
set_option maxRecDepth 100000 in
theorem f_9_75 : fe 9 75 = some (.ireturn, 1, 0, some .int) := fe_of pg_9 rfl
set_option maxRecDepth 100000 in
theorem f_10_0 : fe 10 0 = some (.iload_n 2, 1, 0, some .int) := fe_of pg_10 rfl
set_option maxRecDepth 100000 in
theorem f_10_1 : fe 10 1 = some (.invokestatic 80, 3, 0, some .int) := fe_of pg_10 rfl
set_option maxRecDepth 100000 in
theorem f_10_4 : fe 10 4 = some (.istore 4, 2, 0, some .int) := fe_of pg_10 rfl
set_option maxRecDepth 100000 in
theorem f_10_6 : fe 10 6 = some (.iconst 0, 1, 0, some .int) := fe_of pg_10 rfl
set_option maxRecDepth 100000 in
theorem f_10_7 : fe 10 7 = some (.istore 5, 2, 0, some .int) := fe_of pg_10 rfl
set_option maxRecDepth 100000 in
theorem f_10_9 : fe 10 9 = some (.iload 4, 2, 0, some .int) := fe_of pg_10 rfl
set_option maxRecDepth 100000 in
theorem f_10_11 : fe 10 11 = some (.iconst 1, 1, 0, some .int) := fe_of pg_10 rfl
set_option maxRecDepth 100000 in
theorem f_10_12 : fe 10 12 = some (.iadd, 1, 0, some .int) := fe_of pg_10 rfl
set_option maxRecDepth 100000 in
theorem f_10_13 : fe 10 13 = some (.istore 6, 2, 0, some .int) := fe_of pg_10 rfl
set_option maxRecDepth 100000 in
theorem f_10_15 : fe 10 15 = some (.iload 6, 2, 0, some .int) := fe_of pg_10 rfl
set_option maxRecDepth 100000 in
theorem f_10_17 : fe 10 17 = some (.aload_n 1, 1, 0, some .int) := fe_of pg_10 rfl
set_option maxRecDepth 100000 in
theorem f_10_18 : fe 10 18 = some (.getfield 50, 3, 0, some .int) := fe_of pg_10 rfl
set_option maxRecDepth 100000 in
theorem f_10_21 : fe 10 21 = some (.if_icmp .ge 48, 3, 0, some .int) := fe_of pg_10 rfl
set_option maxRecDepth 100000 in
theorem f_10_24 : fe 10 24 = some (.iload_n 2, 1, 0, some .int) := fe_of pg_10 rfl
set_option maxRecDepth 100000 in
theorem f_10_25 : fe 10 25 = some (.iload 6, 2, 0, some .int) := fe_of pg_10 rfl
set_option maxRecDepth 100000 in
theorem f_10_27 : fe 10 27 = some (.invokestatic 55, 3, 0, some .int) := fe_of pg_10 rfl
set_option maxRecDepth 100000 in
theorem f_10_30 : fe 10 30 = some (.ifCond .eq 33, 3, 0, some .int) := fe_of pg_10 rfl
set_option maxRecDepth 100000 in
theorem f_10_33 : fe 10 33 = some (.aload_n 1, 1, 0, some .int) := fe_of pg_10 rfl
set_option maxRecDepth 100000 in
theorem f_10_34 : fe 10 34 = some (.iload 4, 2, 0, some .int) := fe_of pg_10 rfl
set_option maxRecDepth 100000 in
theorem f_10_36 : fe 10 36 = some (.iload 6, 2, 0, some .int) := fe_of pg_10 rfl
set_option maxRecDepth 100000 in
theorem f_10_38 : fe 10 38 = some (.invokestatic 86, 3, 0, some .int) := fe_of pg_10 rfl
set_option maxRecDepth 100000 in
theorem f_10_41 : fe 10 41 = some (.iload_n 3, 1, 0, some .int) := fe_of pg_10 rfl
set_option maxRecDepth 100000 in
theorem f_10_42 : fe 10 42 = some (.if_icmp .gt 21, 3, 0, some .int) := fe_of pg_10 rfl
set_option maxRecDepth 100000 in
theorem f_10_45 : fe 10 45 = some (.iload 5, 2, 0, some .int) := fe_of pg_10 rfl
set_option maxRecDepth 100000 in
theorem f_10_47 : fe 10 47 = some (.aload_n 0, 1, 0, some .int) := fe_of pg_10 rfl
set_option maxRecDepth 100000 in
theorem f_10_48 : fe 10 48 = some (.getfield 21, 3, 0, some .int) := fe_of pg_10 rfl
set_option maxRecDepth 100000 in
theorem f_10_51 : fe 10 51 = some (.iload_n 2, 1, 0, some .int) := fe_of pg_10 rfl
set_option maxRecDepth 100000 in
theorem f_10_52 : fe 10 52 = some (.iload 4, 2, 0, some .int) := fe_of pg_10 rfl
set_option maxRecDepth 100000 in
theorem f_10_54 : fe 10 54 = some (.iload 6, 2, 0, some .int) := fe_of pg_10 rfl
set_option maxRecDepth 100000 in
theorem f_10_56 : fe 10 56 = some (.invokestatic 90, 3, 0, some .int) := fe_of pg_10 rfl
set_option maxRecDepth 100000 in
theorem f_10_59 : fe 10 59 = some (.iaload, 1, 0, some .int) := fe_of pg_10 rfl
set_option maxRecDepth 100000 in
theorem f_10_60 : fe 10 60 = some (.iadd, 1, 0, some .int) := fe_of pg_10 rfl
set_option maxRecDepth 100000 in
theorem f_10_61 : fe 10 61 = some (.istore 5, 2, 0, some .int) := fe_of pg_10 rfl
set_option maxRecDepth 100000 in
theorem f_10_63 : fe 10 63 = some (.iinc 6 1, 3, 0, some .int) := fe_of pg_10 rfl
set_option maxRecDepth 100000 in
theorem f_10_66 : fe 10 66 = some (.goto (-51), 3, 0, some .int) := fe_of pg_10 rfl
set_option maxRecDepth 100000 in
theorem f_10_69 : fe 10 69 = some (.iload 5, 2, 0, some .int) := fe_of pg_10 rfl
set_option maxRecDepth 100000 in
theorem f_10_71 : fe 10 71 = some (.ireturn, 1, 0, some .int) := fe_of pg_10 rfl
set_option maxRecDepth 100000 in
theorem f_11_0 : fe 11 0 = some (.iload_n 0, 1, 0, some .boolean) := fe_of pg_11 rfl
set_option maxRecDepth 100000 in
theorem f_11_1 : fe 11 1 = some (.iload_n 1, 1, 0, some .boolean) := fe_of pg_11 rfl
set_option maxRecDepth 100000 in
theorem f_11_2 : fe 11 2 = some (.iand, 1, 0, some .boolean) := fe_of pg_11 rfl
set_option maxRecDepth 100000 in
theorem f_11_3 : fe 11 3 = some (.iload_n 0, 1, 0, some .boolean) := fe_of pg_11 rfl
set_option maxRecDepth 100000 in
theorem f_11_4 : fe 11 4 = some (.if_icmp .ne 16, 3, 0, some .boolean) := fe_of pg_11 rfl
set_option maxRecDepth 100000 in
theorem f_11_7 : fe 11 7 = some (.iload_n 0, 1, 0, some .boolean) := fe_of pg_11 rfl
set_option maxRecDepth 100000 in
theorem f_11_8 : fe 11 8 = some (.invokestatic 100, 3, 0, some .boolean) := fe_of pg_11 rfl
set_option maxRecDepth 100000 in
theorem f_11_11 : fe 11 11 = some (.iconst 2, 1, 0, some .boolean) := fe_of pg_11 rfl
set_option maxRecDepth 100000 in
theorem f_11_12 : fe 11 12 = some (.irem, 1, 0, some .boolean) := fe_of pg_11 rfl
set_option maxRecDepth 100000 in
theorem f_11_13 : fe 11 13 = some (.ifCond .ne 7, 3, 0, some .boolean) := fe_of pg_11 rfl
set_option maxRecDepth 100000 in
theorem f_11_16 : fe 11 16 = some (.iconst 1, 1, 0, some .boolean) := fe_of pg_11 rfl
set_option maxRecDepth 100000 in
theorem f_11_17 : fe 11 17 = some (.goto 4, 3, 0, some .boolean) := fe_of pg_11 rfl
set_option maxRecDepth 100000 in
theorem f_11_20 : fe 11 20 = some (.iconst 0, 1, 0, some .boolean) := fe_of pg_11 rfl
set_option maxRecDepth 100000 in
theorem f_11_21 : fe 11 21 = some (.ireturn, 1, 0, some .boolean) := fe_of pg_11 rfl
set_option maxRecDepth 100000 in
theorem f_12_0 : fe 12 0 = some (.iload_n 0, 1, 0, some .int) := fe_of pg_12 rfl
set_option maxRecDepth 100000 in
theorem f_12_1 : fe 12 1 = some (.iconst 1, 1, 0, some .int) := fe_of pg_12 rfl
set_option maxRecDepth 100000 in
theorem f_12_2 : fe 12 2 = some (.iload_n 1, 1, 0, some .int) := fe_of pg_12 rfl
set_option maxRecDepth 100000 in
theorem f_12_3 : fe 12 3 = some (.ishl, 1, 0, some .int) := fe_of pg_12 rfl
set_option maxRecDepth 100000 in
theorem f_12_4 : fe 12 4 = some (.iconst (-1), 1, 0, some .int) := fe_of pg_12 rfl
set_option maxRecDepth 100000 in
theorem f_12_5 : fe 12 5 = some (.ixor, 1, 0, some .int) := fe_of pg_12 rfl
set_option maxRecDepth 100000 in
theorem f_12_6 : fe 12 6 = some (.iand, 1, 0, some .int) := fe_of pg_12 rfl
set_option maxRecDepth 100000 in
theorem f_12_7 : fe 12 7 = some (.iconst 1, 1, 0, some .int) := fe_of pg_12 rfl
set_option maxRecDepth 100000 in
theorem f_12_8 : fe 12 8 = some (.iload_n 2, 1, 0, some .int) := fe_of pg_12 rfl
set_option maxRecDepth 100000 in
theorem f_12_9 : fe 12 9 = some (.ishl, 1, 0, some .int) := fe_of pg_12 rfl
set_option maxRecDepth 100000 in
theorem f_12_10 : fe 12 10 = some (.iconst (-1), 1, 0, some .int) := fe_of pg_12 rfl
set_option maxRecDepth 100000 in
theorem f_12_11 : fe 12 11 = some (.ixor, 1, 0, some .int) := fe_of pg_12 rfl
set_option maxRecDepth 100000 in
theorem f_12_12 : fe 12 12 = some (.iand, 1, 0, some .int) := fe_of pg_12 rfl
set_option maxRecDepth 100000 in
theorem f_12_13 : fe 12 13 = some (.ireturn, 1, 0, some .int) := fe_of pg_12 rfl
set_option maxRecDepth 100000 in
theorem f_13_0 : fe 13 0 = some (.aload_n 0, 1, 0, some .int) := fe_of pg_13 rfl
set_option maxRecDepth 100000 in
theorem f_13_1 : fe 13 1 = some (.getfield 59, 3, 0, some .int) := fe_of pg_13 rfl
set_option maxRecDepth 100000 in
theorem f_13_4 : fe 13 4 = some (.iload_n 1, 1, 0, some .int) := fe_of pg_13 rfl
set_option maxRecDepth 100000 in
theorem f_13_5 : fe 13 5 = some (.iaload, 1, 0, some .int) := fe_of pg_13 rfl
set_option maxRecDepth 100000 in
theorem f_13_6 : fe 13 6 = some (.aload_n 0, 1, 0, some .int) := fe_of pg_13 rfl
set_option maxRecDepth 100000 in
theorem f_13_7 : fe 13 7 = some (.getfield 59, 3, 0, some .int) := fe_of pg_13 rfl
set_option maxRecDepth 100000 in
theorem f_13_10 : fe 13 10 = some (.iload_n 2, 1, 0, some .int) := fe_of pg_13 rfl
set_option maxRecDepth 100000 in
theorem f_13_11 : fe 13 11 = some (.iaload, 1, 0, some .int) := fe_of pg_13 rfl
set_option maxRecDepth 100000 in
theorem f_13_12 : fe 13 12 = some (.iadd, 1, 0, some .int) := fe_of pg_13 rfl
set_option maxRecDepth 100000 in
theorem f_13_13 : fe 13 13 = some (.iconst 1, 1, 0, some .int) := fe_of pg_13 rfl
set_option maxRecDepth 100000 in
theorem f_13_14 : fe 13 14 = some (.iadd, 1, 0, some .int) := fe_of pg_13 rfl
set_option maxRecDepth 100000 in
theorem f_13_15 : fe 13 15 = some (.iconst 2, 1, 0, some .int) := fe_of pg_13 rfl
set_option maxRecDepth 100000 in
theorem f_13_16 : fe 13 16 = some (.idiv, 1, 0, some .int) := fe_of pg_13 rfl
set_option maxRecDepth 100000 in
theorem f_13_17 : fe 13 17 = some (.ireturn, 1, 0, some .int) := fe_of pg_13 rfl
set_option maxRecDepth 100000 in
theorem f_14_0 : fe 14 0 = some (.aload_n 0, 1, 1, none) := fe_of pg_14 rfl
set_option maxRecDepth 100000 in
theorem f_14_1 : fe 14 1 = some (.invokespecial 3, 3, 1, none) := fe_of pg_14 rfl
set_option maxRecDepth 100000 in
theorem f_14_4 : fe 14 4 = some (.aload_n 0, 1, 1, none) := fe_of pg_14 rfl
set_option maxRecDepth 100000 in
theorem f_14_5 : fe 14 5 = some (.bipush 8, 2, 1, none) := fe_of pg_14 rfl
set_option maxRecDepth 100000 in
theorem f_14_7 : fe 14 7 = some (.newarray .int, 2, 1, none) := fe_of pg_14 rfl
set_option maxRecDepth 100000 in
theorem f_14_9 : fe 14 9 = some (.putfield 9, 3, 1, none) := fe_of pg_14 rfl
set_option maxRecDepth 100000 in
theorem f_14_12 : fe 14 12 = some (.aload_n 0, 1, 1, none) := fe_of pg_14 rfl
set_option maxRecDepth 100000 in
theorem f_14_13 : fe 14 13 = some (.bipush 8, 2, 1, none) := fe_of pg_14 rfl
set_option maxRecDepth 100000 in
theorem f_14_15 : fe 14 15 = some (.newarray .int, 2, 1, none) := fe_of pg_14 rfl
set_option maxRecDepth 100000 in
theorem f_14_17 : fe 14 17 = some (.putfield 15, 3, 1, none) := fe_of pg_14 rfl
set_option maxRecDepth 100000 in
theorem f_14_20 : fe 14 20 = some (.aload_n 0, 1, 1, none) := fe_of pg_14 rfl
set_option maxRecDepth 100000 in
theorem f_14_21 : fe 14 21 = some (.aload_n 1, 1, 1, none) := fe_of pg_14 rfl
set_option maxRecDepth 100000 in
theorem f_14_22 : fe 14 22 = some (.putfield 18, 3, 1, none) := fe_of pg_14 rfl
set_option maxRecDepth 100000 in
theorem f_14_25 : fe 14 25 = some (.return_, 1, 1, none) := fe_of pg_14 rfl
set_option maxRecDepth 100000 in
theorem f_15_0 : fe 15 0 = some (.aload_n 0, 1, 1, none) := fe_of pg_15 rfl
set_option maxRecDepth 100000 in
theorem f_15_1 : fe 15 1 = some (.aload_n 1, 1, 1, none) := fe_of pg_15 rfl
set_option maxRecDepth 100000 in
theorem f_15_2 : fe 15 2 = some (.putfield 18, 3, 1, none) := fe_of pg_15 rfl
set_option maxRecDepth 100000 in
theorem f_15_5 : fe 15 5 = some (.aload_n 1, 1, 1, none) := fe_of pg_15 rfl
set_option maxRecDepth 100000 in
theorem f_15_6 : fe 15 6 = some (.getfield 22, 3, 1, none) := fe_of pg_15 rfl
set_option maxRecDepth 100000 in
theorem f_15_9 : fe 15 9 = some (.aload_n 0, 1, 1, none) := fe_of pg_15 rfl
set_option maxRecDepth 100000 in
theorem f_15_10 : fe 15 10 = some (.getfield 9, 3, 1, none) := fe_of pg_15 rfl
set_option maxRecDepth 100000 in
theorem f_15_13 : fe 15 13 = some (.invokestatic 27, 3, 1, none) := fe_of pg_15 rfl
set_option maxRecDepth 100000 in
theorem f_15_16 : fe 15 16 = some (.return_, 1, 1, none) := fe_of pg_15 rfl
set_option maxRecDepth 100000 in
theorem f_16_0 : fe 16 0 = some (.aload_n 0, 1, 1, none) := fe_of pg_16 rfl
set_option maxRecDepth 100000 in
theorem f_16_1 : fe 16 1 = some (.aload_n 1, 1, 1, none) := fe_of pg_16 rfl
set_option maxRecDepth 100000 in
theorem f_16_2 : fe 16 2 = some (.invokevirtual 31, 3, 1, none) := fe_of pg_16 rfl
set_option maxRecDepth 100000 in
theorem f_16_5 : fe 16 5 = some (.iconst 0, 1, 1, none) := fe_of pg_16 rfl
set_option maxRecDepth 100000 in
theorem f_16_6 : fe 16 6 = some (.istore_n 3, 1, 1, none) := fe_of pg_16 rfl
set_option maxRecDepth 100000 in
theorem f_16_7 : fe 16 7 = some (.iload_n 3, 1, 1, none) := fe_of pg_16 rfl
set_option maxRecDepth 100000 in
theorem f_16_8 : fe 16 8 = some (.aload_n 1, 1, 1, none) := fe_of pg_16 rfl
set_option maxRecDepth 100000 in
theorem f_16_9 : fe 16 9 = some (.getfield 35, 3, 1, none) := fe_of pg_16 rfl
set_option maxRecDepth 100000 in
theorem f_16_12 : fe 16 12 = some (.if_icmp .ge 29, 3, 1, none) := fe_of pg_16 rfl
set_option maxRecDepth 100000 in
theorem f_16_15 : fe 16 15 = some (.aload_n 0, 1, 1, none) := fe_of pg_16 rfl
set_option maxRecDepth 100000 in
theorem f_16_16 : fe 16 16 = some (.getfield 9, 3, 1, none) := fe_of pg_16 rfl
set_option maxRecDepth 100000 in
theorem f_16_19 : fe 16 19 = some (.iload_n 3, 1, 1, none) := fe_of pg_16 rfl
set_option maxRecDepth 100000 in
theorem f_16_20 : fe 16 20 = some (.aload_n 0, 1, 1, none) := fe_of pg_16 rfl
set_option maxRecDepth 100000 in
theorem f_16_21 : fe 16 21 = some (.getfield 9, 3, 1, none) := fe_of pg_16 rfl
set_option maxRecDepth 100000 in
theorem f_16_24 : fe 16 24 = some (.iload_n 3, 1, 1, none) := fe_of pg_16 rfl
set_option maxRecDepth 100000 in
theorem f_16_25 : fe 16 25 = some (.iaload, 1, 1, none) := fe_of pg_16 rfl
set_option maxRecDepth 100000 in
theorem f_16_26 : fe 16 26 = some (.iload_n 2, 1, 1, none) := fe_of pg_16 rfl
set_option maxRecDepth 100000 in
theorem f_16_27 : fe 16 27 = some (.iadd, 1, 1, none) := fe_of pg_16 rfl
set_option maxRecDepth 100000 in
theorem f_16_28 : fe 16 28 = some (.iconst 0, 1, 1, none) := fe_of pg_16 rfl
set_option maxRecDepth 100000 in
theorem f_16_29 : fe 16 29 = some (.bipush 99, 2, 1, none) := fe_of pg_16 rfl
set_option maxRecDepth 100000 in
theorem f_16_31 : fe 16 31 = some (.invokestatic 39, 3, 1, none) := fe_of pg_16 rfl
set_option maxRecDepth 100000 in
theorem f_16_34 : fe 16 34 = some (.iastore, 1, 1, none) := fe_of pg_16 rfl
set_option maxRecDepth 100000 in
theorem f_16_35 : fe 16 35 = some (.iinc 3 1, 3, 1, none) := fe_of pg_16 rfl
set_option maxRecDepth 100000 in
theorem f_16_38 : fe 16 38 = some (.goto (-31), 3, 1, none) := fe_of pg_16 rfl
set_option maxRecDepth 100000 in
theorem f_16_41 : fe 16 41 = some (.return_, 1, 1, none) := fe_of pg_16 rfl
set_option maxRecDepth 100000 in
theorem f_17_0 : fe 17 0 = some (.iconst 0, 1, 1, some .int) := fe_of pg_17 rfl
set_option maxRecDepth 100000 in
theorem f_17_1 : fe 17 1 = some (.istore_n 2, 1, 1, some .int) := fe_of pg_17 rfl
set_option maxRecDepth 100000 in
theorem f_17_2 : fe 17 2 = some (.iconst 0, 1, 1, some .int) := fe_of pg_17 rfl
set_option maxRecDepth 100000 in
theorem f_17_3 : fe 17 3 = some (.istore_n 3, 1, 1, some .int) := fe_of pg_17 rfl
set_option maxRecDepth 100000 in
theorem f_17_4 : fe 17 4 = some (.iload_n 3, 1, 1, some .int) := fe_of pg_17 rfl
set_option maxRecDepth 100000 in
theorem f_17_5 : fe 17 5 = some (.aload_n 0, 1, 1, some .int) := fe_of pg_17 rfl
set_option maxRecDepth 100000 in
theorem f_17_6 : fe 17 6 = some (.getfield 18, 3, 1, some .int) := fe_of pg_17 rfl
set_option maxRecDepth 100000 in
theorem f_17_9 : fe 17 9 = some (.getfield 35, 3, 1, some .int) := fe_of pg_17 rfl
set_option maxRecDepth 100000 in
theorem f_17_12 : fe 17 12 = some (.if_icmp .ge 34, 3, 1, some .int) := fe_of pg_17 rfl
set_option maxRecDepth 100000 in
theorem f_17_15 : fe 17 15 = some (.iload_n 1, 1, 1, some .int) := fe_of pg_17 rfl
set_option maxRecDepth 100000 in
theorem f_17_16 : fe 17 16 = some (.iload_n 3, 1, 1, some .int) := fe_of pg_17 rfl
set_option maxRecDepth 100000 in
theorem f_17_17 : fe 17 17 = some (.invokestatic 43, 3, 1, some .int) := fe_of pg_17 rfl
set_option maxRecDepth 100000 in
theorem f_17_20 : fe 17 20 = some (.ifCond .eq 20, 3, 1, some .int) := fe_of pg_17 rfl
set_option maxRecDepth 100000 in
theorem f_17_23 : fe 17 23 = some (.iload_n 2, 1, 1, some .int) := fe_of pg_17 rfl
set_option maxRecDepth 100000 in
theorem f_17_24 : fe 17 24 = some (.aload_n 0, 1, 1, some .int) := fe_of pg_17 rfl
set_option maxRecDepth 100000 in
theorem f_17_25 : fe 17 25 = some (.getfield 18, 3, 1, some .int) := fe_of pg_17 rfl
set_option maxRecDepth 100000 in
theorem f_17_28 : fe 17 28 = some (.iload_n 3, 1, 1, some .int) := fe_of pg_17 rfl
set_option maxRecDepth 100000 in
theorem f_17_29 : fe 17 29 = some (.aload_n 0, 1, 1, some .int) := fe_of pg_17 rfl
set_option maxRecDepth 100000 in
theorem f_17_30 : fe 17 30 = some (.getfield 9, 3, 1, some .int) := fe_of pg_17 rfl
set_option maxRecDepth 100000 in
theorem f_17_33 : fe 17 33 = some (.iload_n 3, 1, 1, some .int) := fe_of pg_17 rfl
set_option maxRecDepth 100000 in
theorem f_17_34 : fe 17 34 = some (.iaload, 1, 1, some .int) := fe_of pg_17 rfl
set_option maxRecDepth 100000 in
theorem f_17_35 : fe 17 35 = some (.invokevirtual 47, 3, 1, some .int) := fe_of pg_17 rfl
set_option maxRecDepth 100000 in
theorem f_17_38 : fe 17 38 = some (.iadd, 1, 1, some .int) := fe_of pg_17 rfl
set_option maxRecDepth 100000 in
theorem f_17_39 : fe 17 39 = some (.istore_n 2, 1, 1, some .int) := fe_of pg_17 rfl
set_option maxRecDepth 100000 in
theorem f_17_40 : fe 17 40 = some (.iinc 3 1, 3, 1, some .int) := fe_of pg_17 rfl
set_option maxRecDepth 100000 in
theorem f_17_43 : fe 17 43 = some (.goto (-39), 3, 1, some .int) := fe_of pg_17 rfl
set_option maxRecDepth 100000 in
theorem f_17_46 : fe 17 46 = some (.iload_n 2, 1, 1, some .int) := fe_of pg_17 rfl
set_option maxRecDepth 100000 in
theorem f_17_47 : fe 17 47 = some (.ireturn, 1, 1, some .int) := fe_of pg_17 rfl
set_option maxRecDepth 100000 in
theorem f_18_0 : fe 18 0 = some (.iconst 0, 1, 1, none) := fe_of pg_18 rfl
set_option maxRecDepth 100000 in
theorem f_18_1 : fe 18 1 = some (.istore_n 2, 1, 1, none) := fe_of pg_18 rfl
set_option maxRecDepth 100000 in
theorem f_18_2 : fe 18 2 = some (.iload_n 2, 1, 1, none) := fe_of pg_18 rfl
set_option maxRecDepth 100000 in
theorem f_18_3 : fe 18 3 = some (.aload_n 0, 1, 1, none) := fe_of pg_18 rfl
set_option maxRecDepth 100000 in
theorem f_18_4 : fe 18 4 = some (.getfield 18, 3, 1, none) := fe_of pg_18 rfl
set_option maxRecDepth 100000 in
theorem f_18_7 : fe 18 7 = some (.getfield 35, 3, 1, none) := fe_of pg_18 rfl
set_option maxRecDepth 100000 in
theorem f_18_10 : fe 18 10 = some (.if_icmp .ge 37, 3, 1, none) := fe_of pg_18 rfl
set_option maxRecDepth 100000 in
theorem f_18_13 : fe 18 13 = some (.iload_n 1, 1, 1, none) := fe_of pg_18 rfl
set_option maxRecDepth 100000 in
theorem f_18_14 : fe 18 14 = some (.iload_n 2, 1, 1, none) := fe_of pg_18 rfl
set_option maxRecDepth 100000 in
theorem f_18_15 : fe 18 15 = some (.invokestatic 43, 3, 1, none) := fe_of pg_18 rfl
set_option maxRecDepth 100000 in
theorem f_18_18 : fe 18 18 = some (.ifCond .eq 23, 3, 1, none) := fe_of pg_18 rfl
set_option maxRecDepth 100000 in
theorem f_18_21 : fe 18 21 = some (.aload_n 0, 1, 1, none) := fe_of pg_18 rfl
set_option maxRecDepth 100000 in
theorem f_18_22 : fe 18 22 = some (.getfield 9, 3, 1, none) := fe_of pg_18 rfl
set_option maxRecDepth 100000 in
theorem f_18_25 : fe 18 25 = some (.iload_n 2, 1, 1, none) := fe_of pg_18 rfl
set_option maxRecDepth 100000 in
theorem f_18_26 : fe 18 26 = some (.aload_n 0, 1, 1, none) := fe_of pg_18 rfl
set_option maxRecDepth 100000 in
theorem f_18_27 : fe 18 27 = some (.getfield 18, 3, 1, none) := fe_of pg_18 rfl
set_option maxRecDepth 100000 in
theorem f_18_30 : fe 18 30 = some (.iload_n 2, 1, 1, none) := fe_of pg_18 rfl
set_option maxRecDepth 100000 in
theorem f_18_31 : fe 18 31 = some (.aload_n 0, 1, 1, none) := fe_of pg_18 rfl
set_option maxRecDepth 100000 in
theorem f_18_32 : fe 18 32 = some (.getfield 9, 3, 1, none) := fe_of pg_18 rfl
set_option maxRecDepth 100000 in
theorem f_18_35 : fe 18 35 = some (.iload_n 2, 1, 1, none) := fe_of pg_18 rfl
set_option maxRecDepth 100000 in
theorem f_18_36 : fe 18 36 = some (.iaload, 1, 1, none) := fe_of pg_18 rfl
set_option maxRecDepth 100000 in
theorem f_18_37 : fe 18 37 = some (.invokevirtual 51, 3, 1, none) := fe_of pg_18 rfl
set_option maxRecDepth 100000 in
theorem f_18_40 : fe 18 40 = some (.iastore, 1, 1, none) := fe_of pg_18 rfl
set_option maxRecDepth 100000 in
theorem f_18_41 : fe 18 41 = some (.iinc 2 1, 3, 1, none) := fe_of pg_18 rfl
set_option maxRecDepth 100000 in
theorem f_18_44 : fe 18 44 = some (.goto (-42), 3, 1, none) := fe_of pg_18 rfl
set_option maxRecDepth 100000 in
theorem f_18_47 : fe 18 47 = some (.return_, 1, 1, none) := fe_of pg_18 rfl
set_option maxRecDepth 100000 in
theorem f_19_0 : fe 19 0 = some (.iload_n 2, 1, 1, some .int) := fe_of pg_19 rfl
set_option maxRecDepth 100000 in
theorem f_19_1 : fe 19 1 = some (.istore_n 3, 1, 1, some .int) := fe_of pg_19 rfl
set_option maxRecDepth 100000 in
theorem f_19_2 : fe 19 2 = some (.iload_n 3, 1, 1, some .int) := fe_of pg_19 rfl
set_option maxRecDepth 100000 in
theorem f_19_3 : fe 19 3 = some (.aload_n 0, 1, 1, some .int) := fe_of pg_19 rfl
set_option maxRecDepth 100000 in
theorem f_19_4 : fe 19 4 = some (.getfield 18, 3, 1, some .int) := fe_of pg_19 rfl
set_option maxRecDepth 100000 in
theorem f_19_7 : fe 19 7 = some (.getfield 54, 3, 1, some .int) := fe_of pg_19 rfl
set_option maxRecDepth 100000 in
theorem f_19_10 : fe 19 10 = some (.if_icmp .ge 37, 3, 1, some .int) := fe_of pg_19 rfl
set_option maxRecDepth 100000 in
theorem f_19_13 : fe 19 13 = some (.iload_n 3, 1, 1, some .int) := fe_of pg_19 rfl
set_option maxRecDepth 100000 in
theorem f_19_14 : fe 19 14 = some (.ifCond .lt 20, 3, 1, some .int) := fe_of pg_19 rfl
set_option maxRecDepth 100000 in
theorem f_19_17 : fe 19 17 = some (.aload_n 0, 1, 1, some .int) := fe_of pg_19 rfl
set_option maxRecDepth 100000 in
theorem f_19_18 : fe 19 18 = some (.iload_n 1, 1, 1, some .int) := fe_of pg_19 rfl
set_option maxRecDepth 100000 in
theorem f_19_19 : fe 19 19 = some (.invokevirtual 57, 3, 1, some .int) := fe_of pg_19 rfl
set_option maxRecDepth 100000 in
theorem f_19_22 : fe 19 22 = some (.aload_n 0, 1, 1, some .int) := fe_of pg_19 rfl
set_option maxRecDepth 100000 in
theorem f_19_23 : fe 19 23 = some (.getfield 18, 3, 1, some .int) := fe_of pg_19 rfl
set_option maxRecDepth 100000 in
theorem f_19_26 : fe 19 26 = some (.getfield 61, 3, 1, some .int) := fe_of pg_19 rfl
set_option maxRecDepth 100000 in
theorem f_19_29 : fe 19 29 = some (.iload_n 3, 1, 1, some .int) := fe_of pg_19 rfl
set_option maxRecDepth 100000 in
theorem f_19_30 : fe 19 30 = some (.iaload, 1, 1, some .int) := fe_of pg_19 rfl
set_option maxRecDepth 100000 in
theorem f_19_31 : fe 19 31 = some (.if_icmp .ge 5, 3, 1, some .int) := fe_of pg_19 rfl
set_option maxRecDepth 100000 in
theorem f_19_34 : fe 19 34 = some (.iload_n 3, 1, 1, some .int) := fe_of pg_19 rfl
set_option maxRecDepth 100000 in
theorem f_19_35 : fe 19 35 = some (.ireturn, 1, 1, some .int) := fe_of pg_19 rfl
set_option maxRecDepth 100000 in
theorem f_19_36 : fe 19 36 = some (.aload_n 0, 1, 1, some .int) := fe_of pg_19 rfl
set_option maxRecDepth 100000 in
theorem f_19_37 : fe 19 37 = some (.iload_n 1, 1, 1, some .int) := fe_of pg_19 rfl
set_option maxRecDepth 100000 in
theorem f_19_38 : fe 19 38 = some (.invokevirtual 64, 3, 1, some .int) := fe_of pg_19 rfl
set_option maxRecDepth 100000 in
theorem f_19_41 : fe 19 41 = some (.iinc 3 1, 3, 1, some .int) := fe_of pg_19 rfl
set_option maxRecDepth 100000 in
theorem f_19_44 : fe 19 44 = some (.goto (-42), 3, 1, some .int) := fe_of pg_19 rfl
set_option maxRecDepth 100000 in
theorem f_19_47 : fe 19 47 = some (.aload_n 0, 1, 1, some .int) := fe_of pg_19 rfl
set_option maxRecDepth 100000 in
theorem f_19_48 : fe 19 48 = some (.getfield 18, 3, 1, some .int) := fe_of pg_19 rfl
set_option maxRecDepth 100000 in
theorem f_19_51 : fe 19 51 = some (.getfield 54, 3, 1, some .int) := fe_of pg_19 rfl
set_option maxRecDepth 100000 in
theorem f_19_54 : fe 19 54 = some (.ireturn, 1, 1, some .int) := fe_of pg_19 rfl
set_option maxRecDepth 100000 in
theorem f_20_0 : fe 20 0 = some (.aload_n 0, 1, 1, some .boolean) := fe_of pg_20 rfl
set_option maxRecDepth 100000 in
theorem f_20_1 : fe 20 1 = some (.iload_n 1, 1, 1, some .boolean) := fe_of pg_20 rfl
set_option maxRecDepth 100000 in
theorem f_20_2 : fe 20 2 = some (.iconst 0, 1, 1, some .boolean) := fe_of pg_20 rfl
set_option maxRecDepth 100000 in
theorem f_20_3 : fe 20 3 = some (.invokevirtual 68, 3, 1, some .boolean) := fe_of pg_20 rfl
set_option maxRecDepth 100000 in
theorem f_20_6 : fe 20 6 = some (.aload_n 0, 1, 1, some .boolean) := fe_of pg_20 rfl
set_option maxRecDepth 100000 in
theorem f_20_7 : fe 20 7 = some (.getfield 18, 3, 1, some .boolean) := fe_of pg_20 rfl
set_option maxRecDepth 100000 in
theorem f_20_10 : fe 20 10 = some (.getfield 54, 3, 1, some .boolean) := fe_of pg_20 rfl
set_option maxRecDepth 100000 in
theorem f_20_13 : fe 20 13 = some (.if_icmp .ne 7, 3, 1, some .boolean) := fe_of pg_20 rfl
set_option maxRecDepth 100000 in
theorem f_20_16 : fe 20 16 = some (.iconst 1, 1, 1, some .boolean) := fe_of pg_20 rfl
set_option maxRecDepth 100000 in
theorem f_20_17 : fe 20 17 = some (.goto 4, 3, 1, some .boolean) := fe_of pg_20 rfl
set_option maxRecDepth 100000 in
theorem f_20_20 : fe 20 20 = some (.iconst 0, 1, 1, some .boolean) := fe_of pg_20 rfl
set_option maxRecDepth 100000 in
theorem f_20_21 : fe 20 21 = some (.ireturn, 1, 1, some .boolean) := fe_of pg_20 rfl
set_option maxRecDepth 100000 in
theorem f_21_0 : fe 21 0 = some (.aload_n 0, 1, 1, some .boolean) := fe_of pg_21 rfl
set_option maxRecDepth 100000 in
theorem f_21_1 : fe 21 1 = some (.aload_n 1, 1, 1, some .boolean) := fe_of pg_21 rfl
set_option maxRecDepth 100000 in
theorem f_21_2 : fe 21 2 = some (.invokevirtual 31, 3, 1, some .boolean) := fe_of pg_21 rfl
set_option maxRecDepth 100000 in
theorem f_21_5 : fe 21 5 = some (.aload_n 1, 1, 1, some .boolean) := fe_of pg_21 rfl
set_option maxRecDepth 100000 in
theorem f_21_6 : fe 21 6 = some (.iload_n 2, 1, 1, some .boolean) := fe_of pg_21 rfl
set_option maxRecDepth 100000 in
theorem f_21_7 : fe 21 7 = some (.invokevirtual 71, 3, 1, some .boolean) := fe_of pg_21 rfl
set_option maxRecDepth 100000 in
theorem f_21_10 : fe 21 10 = some (.ifCond .eq 15, 3, 1, some .boolean) := fe_of pg_21 rfl
set_option maxRecDepth 100000 in
theorem f_21_13 : fe 21 13 = some (.aload_n 0, 1, 1, some .boolean) := fe_of pg_21 rfl
set_option maxRecDepth 100000 in
theorem f_21_14 : fe 21 14 = some (.iload_n 2, 1, 1, some .boolean) := fe_of pg_21 rfl
set_option maxRecDepth 100000 in
theorem f_21_15 : fe 21 15 = some (.invokevirtual 75, 3, 1, some .boolean) := fe_of pg_21 rfl
set_option maxRecDepth 100000 in
theorem f_21_18 : fe 21 18 = some (.ifCond .eq 7, 3, 1, some .boolean) := fe_of pg_21 rfl
set_option maxRecDepth 100000 in
theorem f_21_21 : fe 21 21 = some (.iconst 1, 1, 1, some .boolean) := fe_of pg_21 rfl
set_option maxRecDepth 100000 in
theorem f_21_22 : fe 21 22 = some (.goto 4, 3, 1, some .boolean) := fe_of pg_21 rfl
set_option maxRecDepth 100000 in
theorem f_21_25 : fe 21 25 = some (.iconst 0, 1, 1, some .boolean) := fe_of pg_21 rfl
set_option maxRecDepth 100000 in
theorem f_21_26 : fe 21 26 = some (.ireturn, 1, 1, some .boolean) := fe_of pg_21 rfl
set_option maxRecDepth 100000 in
theorem f_22_0 : fe 22 0 = some (.aload_n 0, 1, 1, some .boolean) := fe_of pg_22 rfl
set_option maxRecDepth 100000 in
theorem f_22_1 : fe 22 1 = some (.aload_n 1, 1, 1, some .boolean) := fe_of pg_22 rfl
set_option maxRecDepth 100000 in
theorem f_22_2 : fe 22 2 = some (.iload_n 3, 1, 1, some .boolean) := fe_of pg_22 rfl
set_option maxRecDepth 100000 in
theorem f_22_3 : fe 22 3 = some (.invokevirtual 78, 3, 1, some .boolean) := fe_of pg_22 rfl
set_option maxRecDepth 100000 in
theorem f_22_6 : fe 22 6 = some (.aload_n 0, 1, 1, some .boolean) := fe_of pg_22 rfl
set_option maxRecDepth 100000 in
theorem f_22_7 : fe 22 7 = some (.iload_n 2, 1, 1, some .boolean) := fe_of pg_22 rfl
set_option maxRecDepth 100000 in
theorem f_22_8 : fe 22 8 = some (.invokevirtual 75, 3, 1, some .boolean) := fe_of pg_22 rfl
set_option maxRecDepth 100000 in
theorem f_22_11 : fe 22 11 = some (.ireturn, 1, 1, some .boolean) := fe_of pg_22 rfl
set_option maxRecDepth 100000 in
theorem f_23_0 : fe 23 0 = some (.aload_n 0, 1, 1, some .int) := fe_of pg_23 rfl
set_option maxRecDepth 100000 in
theorem f_23_1 : fe 23 1 = some (.aload_n 1, 1, 1, some .int) := fe_of pg_23 rfl
set_option maxRecDepth 100000 in
theorem f_23_2 : fe 23 2 = some (.invokevirtual 31, 3, 1, some .int) := fe_of pg_23 rfl
set_option maxRecDepth 100000 in
theorem f_23_5 : fe 23 5 = some (.iconst 0, 1, 1, some .int) := fe_of pg_23 rfl
set_option maxRecDepth 100000 in
theorem f_23_6 : fe 23 6 = some (.istore 4, 2, 1, some .int) := fe_of pg_23 rfl
set_option maxRecDepth 100000 in
theorem f_23_8 : fe 23 8 = some (.iload 4, 2, 1, some .int) := fe_of pg_23 rfl
set_option maxRecDepth 100000 in
theorem f_23_10 : fe 23 10 = some (.bipush 100, 2, 1, some .int) := fe_of pg_23 rfl
set_option maxRecDepth 100000 in
theorem f_23_12 : fe 23 12 = some (.if_icmp .ge 31, 3, 1, some .int) := fe_of pg_23 rfl
set_option maxRecDepth 100000 in
theorem f_23_15 : fe 23 15 = some (.aload_n 0, 1, 1, some .int) := fe_of pg_23 rfl
set_option maxRecDepth 100000 in
theorem f_23_16 : fe 23 16 = some (.iload 4, 2, 1, some .int) := fe_of pg_23 rfl
set_option maxRecDepth 100000 in
theorem f_23_18 : fe 23 18 = some (.iconst 2, 1, 1, some .int) := fe_of pg_23 rfl
set_option maxRecDepth 100000 in
theorem f_23_19 : fe 23 19 = some (.irem, 1, 1, some .int) := fe_of pg_23 rfl
set_option maxRecDepth 100000 in
theorem f_23_20 : fe 23 20 = some (.ifCond .ne 7, 3, 1, some .int) := fe_of pg_23 rfl
set_option maxRecDepth 100000 in
theorem f_23_23 : fe 23 23 = some (.iload_n 2, 1, 1, some .int) := fe_of pg_23 rfl
set_option maxRecDepth 100000 in
theorem f_23_24 : fe 23 24 = some (.goto 4, 3, 1, some .int) := fe_of pg_23 rfl
set_option maxRecDepth 100000 in
theorem f_23_27 : fe 23 27 = some (.iload_n 3, 1, 1, some .int) := fe_of pg_23 rfl
set_option maxRecDepth 100000 in
theorem f_23_28 : fe 23 28 = some (.invokevirtual 75, 3, 1, some .int) := fe_of pg_23 rfl
set_option maxRecDepth 100000 in
theorem f_23_31 : fe 23 31 = some (.ifCond .ne 6, 3, 1, some .int) := fe_of pg_23 rfl
set_option maxRecDepth 100000 in
theorem f_23_34 : fe 23 34 = some (.iload 4, 2, 1, some .int) := fe_of pg_23 rfl
set_option maxRecDepth 100000 in
theorem f_23_36 : fe 23 36 = some (.ireturn, 1, 1, some .int) := fe_of pg_23 rfl
set_option maxRecDepth 100000 in
theorem f_23_37 : fe 23 37 = some (.iinc 4 1, 3, 1, some .int) := fe_of pg_23 rfl
set_option maxRecDepth 100000 in
theorem f_23_40 : fe 23 40 = some (.goto (-32), 3, 1, some .int) := fe_of pg_23 rfl
set_option maxRecDepth 100000 in
theorem f_23_43 : fe 23 43 = some (.bipush 100, 2, 1, some .int) := fe_of pg_23 rfl
set_option maxRecDepth 100000 in
theorem f_23_45 : fe 23 45 = some (.ireturn, 1, 1, some .int) := fe_of pg_23 rfl
set_option maxRecDepth 100000 in
theorem f_24_0 : fe 24 0 = some (.aload_n 0, 1, 1, some .int) := fe_of pg_24 rfl
set_option maxRecDepth 100000 in
theorem f_24_1 : fe 24 1 = some (.aload_n 1, 1, 1, some .int) := fe_of pg_24 rfl
set_option maxRecDepth 100000 in
theorem f_24_2 : fe 24 2 = some (.invokevirtual 31, 3, 1, some .int) := fe_of pg_24 rfl
set_option maxRecDepth 100000 in
theorem f_24_5 : fe 24 5 = some (.aload_n 0, 1, 1, some .int) := fe_of pg_24 rfl
set_option maxRecDepth 100000 in
theorem f_24_6 : fe 24 6 = some (.iload_n 2, 1, 1, some .int) := fe_of pg_24 rfl
set_option maxRecDepth 100000 in
theorem f_24_7 : fe 24 7 = some (.iconst 0, 1, 1, some .int) := fe_of pg_24 rfl
set_option maxRecDepth 100000 in
theorem f_24_8 : fe 24 8 = some (.invokevirtual 68, 3, 1, some .int) := fe_of pg_24 rfl
set_option maxRecDepth 100000 in
theorem f_24_11 : fe 24 11 = some (.pop, 1, 1, some .int) := fe_of pg_24 rfl
set_option maxRecDepth 100000 in
theorem f_24_12 : fe 24 12 = some (.iload_n 3, 1, 1, some .int) := fe_of pg_24 rfl
set_option maxRecDepth 100000 in
theorem f_24_13 : fe 24 13 = some (.ifCond .lt 20, 3, 1, some .int) := fe_of pg_24 rfl
set_option maxRecDepth 100000 in
theorem f_24_16 : fe 24 16 = some (.iload_n 3, 1, 1, some .int) := fe_of pg_24 rfl
set_option maxRecDepth 100000 in
theorem f_24_17 : fe 24 17 = some (.aload_n 1, 1, 1, some .int) := fe_of pg_24 rfl
set_option maxRecDepth 100000 in
theorem f_24_18 : fe 24 18 = some (.getfield 35, 3, 1, some .int) := fe_of pg_24 rfl
set_option maxRecDepth 100000 in
theorem f_24_21 : fe 24 21 = some (.if_icmp .ge 12, 3, 1, some .int) := fe_of pg_24 rfl
set_option maxRecDepth 100000 in
theorem f_24_24 : fe 24 24 = some (.aload_n 0, 1, 1, some .int) := fe_of pg_24 rfl
set_option maxRecDepth 100000 in
theorem f_24_25 : fe 24 25 = some (.getfield 9, 3, 1, some .int) := fe_of pg_24 rfl
set_option maxRecDepth 100000 in
theorem f_24_28 : fe 24 28 = some (.iload_n 3, 1, 1, some .int) := fe_of pg_24 rfl
set_option maxRecDepth 100000 in
theorem f_24_29 : fe 24 29 = some (.iaload, 1, 1, some .int) := fe_of pg_24 rfl
set_option maxRecDepth 100000 in
theorem f_24_30 : fe 24 30 = some (.goto 5, 3, 1, some .int) := fe_of pg_24 rfl
set_option maxRecDepth 100000 in
theorem f_24_33 : fe 24 33 = some (.bipush (-2), 2, 1, some .int) := fe_of pg_24 rfl
set_option maxRecDepth 100000 in
theorem f_24_35 : fe 24 35 = some (.ireturn, 1, 1, some .int) := fe_of pg_24 rfl
set_option maxRecDepth 100000 in
theorem f_25_0 : fe 25 0 = some (.aload_n 0, 1, 1, some .int) := fe_of pg_25 rfl
set_option maxRecDepth 100000 in
theorem f_25_1 : fe 25 1 = some (.aload_n 1, 1, 1, some .int) := fe_of pg_25 rfl
set_option maxRecDepth 100000 in
theorem f_25_2 : fe 25 2 = some (.invokevirtual 31, 3, 1, some .int) := fe_of pg_25 rfl
set_option maxRecDepth 100000 in
theorem f_25_5 : fe 25 5 = some (.aload_n 0, 1, 1, some .int) := fe_of pg_25 rfl
set_option maxRecDepth 100000 in
theorem f_25_6 : fe 25 6 = some (.iload_n 2, 1, 1, some .int) := fe_of pg_25 rfl
set_option maxRecDepth 100000 in
theorem f_25_7 : fe 25 7 = some (.iconst 0, 1, 1, some .int) := fe_of pg_25 rfl
set_option maxRecDepth 100000 in
theorem f_25_8 : fe 25 8 = some (.invokevirtual 68, 3, 1, some .int) := fe_of pg_25 rfl
set_option maxRecDepth 100000 in
theorem f_25_11 : fe 25 11 = some (.pop, 1, 1, some .int) := fe_of pg_25 rfl
set_option maxRecDepth 100000 in
theorem f_25_12 : fe 25 12 = some (.iconst (-1), 1, 1, some .int) := fe_of pg_25 rfl
set_option maxRecDepth 100000 in
theorem f_25_13 : fe 25 13 = some (.istore_n 3, 1, 1, some .int) := fe_of pg_25 rfl
set_option maxRecDepth 100000 in
theorem f_25_14 : fe 25 14 = some (.iconst 0, 1, 1, some .int) := fe_of pg_25 rfl
set_option maxRecDepth 100000 in
theorem f_25_15 : fe 25 15 = some (.istore 4, 2, 1, some .int) := fe_of pg_25 rfl
set_option maxRecDepth 100000 in
theorem f_25_17 : fe 25 17 = some (.iload 4, 2, 1, some .int) := fe_of pg_25 rfl
set_option maxRecDepth 100000 in
theorem f_25_19 : fe 25 19 = some (.aload_n 1, 1, 1, some .int) := fe_of pg_25 rfl
set_option maxRecDepth 100000 in
theorem f_25_20 : fe 25 20 = some (.getfield 35, 3, 1, some .int) := fe_of pg_25 rfl
set_option maxRecDepth 100000 in
theorem f_25_23 : fe 25 23 = some (.if_icmp .ge 42, 3, 1, some .int) := fe_of pg_25 rfl
set_option maxRecDepth 100000 in
theorem f_25_26 : fe 25 26 = some (.iload_n 2, 1, 1, some .int) := fe_of pg_25 rfl
set_option maxRecDepth 100000 in
theorem f_25_27 : fe 25 27 = some (.iload 4, 2, 1, some .int) := fe_of pg_25 rfl
set_option maxRecDepth 100000 in
theorem f_25_29 : fe 25 29 = some (.invokestatic 43, 3, 1, some .int) := fe_of pg_25 rfl
set_option maxRecDepth 100000 in
theorem f_25_32 : fe 25 32 = some (.ifCond .eq 27, 3, 1, some .int) := fe_of pg_25 rfl
set_option maxRecDepth 100000 in
theorem f_25_35 : fe 25 35 = some (.iload_n 3, 1, 1, some .int) := fe_of pg_25 rfl
set_option maxRecDepth 100000 in
theorem f_25_36 : fe 25 36 = some (.iconst (-1), 1, 1, some .int) := fe_of pg_25 rfl
set_option maxRecDepth 100000 in
theorem f_25_37 : fe 25 37 = some (.if_icmp .eq 19, 3, 1, some .int) := fe_of pg_25 rfl
set_option maxRecDepth 100000 in
theorem f_25_40 : fe 25 40 = some (.aload_n 0, 1, 1, some .int) := fe_of pg_25 rfl
set_option maxRecDepth 100000 in
theorem f_25_41 : fe 25 41 = some (.getfield 9, 3, 1, some .int) := fe_of pg_25 rfl
set_option maxRecDepth 100000 in
theorem f_25_44 : fe 25 44 = some (.iload 4, 2, 1, some .int) := fe_of pg_25 rfl
set_option maxRecDepth 100000 in
theorem f_25_46 : fe 25 46 = some (.iaload, 1, 1, some .int) := fe_of pg_25 rfl
set_option maxRecDepth 100000 in
theorem f_25_47 : fe 25 47 = some (.aload_n 0, 1, 1, some .int) := fe_of pg_25 rfl
set_option maxRecDepth 100000 in
theorem f_25_48 : fe 25 48 = some (.getfield 9, 3, 1, some .int) := fe_of pg_25 rfl
set_option maxRecDepth 100000 in
theorem f_25_51 : fe 25 51 = some (.iload_n 3, 1, 1, some .int) := fe_of pg_25 rfl
set_option maxRecDepth 100000 in
theorem f_25_52 : fe 25 52 = some (.iaload, 1, 1, some .int) := fe_of pg_25 rfl
set_option maxRecDepth 100000 in
theorem f_25_53 : fe 25 53 = some (.if_icmp .ge 6, 3, 1, some .int) := fe_of pg_25 rfl
set_option maxRecDepth 100000 in
theorem f_25_56 : fe 25 56 = some (.iload 4, 2, 1, some .int) := fe_of pg_25 rfl
set_option maxRecDepth 100000 in
theorem f_25_58 : fe 25 58 = some (.istore_n 3, 1, 1, some .int) := fe_of pg_25 rfl
set_option maxRecDepth 100000 in
theorem f_25_59 : fe 25 59 = some (.iinc 4 1, 3, 1, some .int) := fe_of pg_25 rfl
set_option maxRecDepth 100000 in
theorem f_25_62 : fe 25 62 = some (.goto (-45), 3, 1, some .int) := fe_of pg_25 rfl
set_option maxRecDepth 100000 in
theorem f_25_65 : fe 25 65 = some (.iload_n 3, 1, 1, some .int) := fe_of pg_25 rfl
set_option maxRecDepth 100000 in
theorem f_25_66 : fe 25 66 = some (.ireturn, 1, 1, some .int) := fe_of pg_25 rfl
set_option maxRecDepth 100000 in
theorem f_26_0 : fe 26 0 = some (.iconst 0, 1, 1, some .int) := fe_of pg_26 rfl
set_option maxRecDepth 100000 in
theorem f_26_1 : fe 26 1 = some (.istore_n 3, 1, 1, some .int) := fe_of pg_26 rfl
set_option maxRecDepth 100000 in
theorem f_26_2 : fe 26 2 = some (.iload_n 3, 1, 1, some .int) := fe_of pg_26 rfl
set_option maxRecDepth 100000 in
theorem f_26_3 : fe 26 3 = some (.bipush 99, 2, 1, some .int) := fe_of pg_26 rfl
set_option maxRecDepth 100000 in
theorem f_26_5 : fe 26 5 = some (.if_icmp .gt 21, 3, 1, some .int) := fe_of pg_26 rfl
set_option maxRecDepth 100000 in
theorem f_26_8 : fe 26 8 = some (.aload_n 0, 1, 1, some .int) := fe_of pg_26 rfl
set_option maxRecDepth 100000 in
theorem f_26_9 : fe 26 9 = some (.aload_n 1, 1, 1, some .int) := fe_of pg_26 rfl
set_option maxRecDepth 100000 in
theorem f_26_10 : fe 26 10 = some (.iload_n 2, 1, 1, some .int) := fe_of pg_26 rfl
set_option maxRecDepth 100000 in
theorem f_26_11 : fe 26 11 = some (.iload_n 3, 1, 1, some .int) := fe_of pg_26 rfl
set_option maxRecDepth 100000 in
theorem f_26_12 : fe 26 12 = some (.invokevirtual 82, 3, 1, some .int) := fe_of pg_26 rfl
set_option maxRecDepth 100000 in
theorem f_26_15 : fe 26 15 = some (.ifCond .eq 5, 3, 1, some .int) := fe_of pg_26 rfl
set_option maxRecDepth 100000 in
theorem f_26_18 : fe 26 18 = some (.iload_n 3, 1, 1, some .int) := fe_of pg_26 rfl
set_option maxRecDepth 100000 in
theorem f_26_19 : fe 26 19 = some (.ireturn, 1, 1, some .int) := fe_of pg_26 rfl
set_option maxRecDepth 100000 in
theorem f_26_20 : fe 26 20 = some (.iinc 3 1, 3, 1, some .int) := fe_of pg_26 rfl
set_option maxRecDepth 100000 in
theorem f_26_23 : fe 26 23 = some (.goto (-21), 3, 1, some .int) := fe_of pg_26 rfl
set_option maxRecDepth 100000 in
theorem f_26_26 : fe 26 26 = some (.iconst (-1), 1, 1, some .int) := fe_of pg_26 rfl
set_option maxRecDepth 100000 in
theorem f_26_27 : fe 26 27 = some (.ireturn, 1, 1, some .int) := fe_of pg_26 rfl
set_option maxRecDepth 100000 in
theorem f_27_0 : fe 27 0 = some (.aload_n 0, 1, 1, some .int) := fe_of pg_27 rfl
set_option maxRecDepth 100000 in
theorem f_27_1 : fe 27 1 = some (.aload_n 1, 1, 1, some .int) := fe_of pg_27 rfl
set_option maxRecDepth 100000 in
theorem f_27_2 : fe 27 2 = some (.iload_n 2, 1, 1, some .int) := fe_of pg_27 rfl
set_option maxRecDepth 100000 in
theorem f_27_3 : fe 27 3 = some (.invokevirtual 86, 3, 1, some .int) := fe_of pg_27 rfl
set_option maxRecDepth 100000 in
theorem f_27_6 : fe 27 6 = some (.ifCond .ne 5, 3, 1, some .int) := fe_of pg_27 rfl
set_option maxRecDepth 100000 in
theorem f_27_9 : fe 27 9 = some (.iconst (-1), 1, 1, some .int) := fe_of pg_27 rfl
set_option maxRecDepth 100000 in
theorem f_27_10 : fe 27 10 = some (.ireturn, 1, 1, some .int) := fe_of pg_27 rfl
set_option maxRecDepth 100000 in
theorem f_27_11 : fe 27 11 = some (.iconst 1, 1, 1, some .int) := fe_of pg_27 rfl
set_option maxRecDepth 100000 in
theorem f_27_12 : fe 27 12 = some (.istore_n 3, 1, 1, some .int) := fe_of pg_27 rfl
set_option maxRecDepth 100000 in
theorem f_27_13 : fe 27 13 = some (.iload_n 3, 1, 1, some .int) := fe_of pg_27 rfl
set_option maxRecDepth 100000 in
theorem f_27_14 : fe 27 14 = some (.bipush 99, 2, 1, some .int) := fe_of pg_27 rfl
set_option maxRecDepth 100000 in
theorem f_27_16 : fe 27 16 = some (.if_icmp .gt 22, 3, 1, some .int) := fe_of pg_27 rfl
set_option maxRecDepth 100000 in
theorem f_27_19 : fe 27 19 = some (.aload_n 0, 1, 1, some .int) := fe_of pg_27 rfl
set_option maxRecDepth 100000 in
theorem f_27_20 : fe 27 20 = some (.aload_n 1, 1, 1, some .int) := fe_of pg_27 rfl
set_option maxRecDepth 100000 in
theorem f_27_21 : fe 27 21 = some (.iload_n 2, 1, 1, some .int) := fe_of pg_27 rfl
set_option maxRecDepth 100000 in
theorem f_27_22 : fe 27 22 = some (.iload_n 3, 1, 1, some .int) := fe_of pg_27 rfl
set_option maxRecDepth 100000 in
theorem f_27_23 : fe 27 23 = some (.ineg, 1, 1, some .int) := fe_of pg_27 rfl
set_option maxRecDepth 100000 in
theorem f_27_24 : fe 27 24 = some (.invokevirtual 82, 3, 1, some .int) := fe_of pg_27 rfl
set_option maxRecDepth 100000 in
theorem f_27_27 : fe 27 27 = some (.ifCond .ne 5, 3, 1, some .int) := fe_of pg_27 rfl
set_option maxRecDepth 100000 in
theorem f_27_30 : fe 27 30 = some (.iload_n 3, 1, 1, some .int) := fe_of pg_27 rfl
set_option maxRecDepth 100000 in
theorem f_27_31 : fe 27 31 = some (.ireturn, 1, 1, some .int) := fe_of pg_27 rfl
set_option maxRecDepth 100000 in
theorem f_27_32 : fe 27 32 = some (.iinc 3 1, 3, 1, some .int) := fe_of pg_27 rfl
set_option maxRecDepth 100000 in
theorem f_27_35 : fe 27 35 = some (.goto (-22), 3, 1, some .int) := fe_of pg_27 rfl
set_option maxRecDepth 100000 in
theorem f_27_38 : fe 27 38 = some (.iconst (-1), 1, 1, some .int) := fe_of pg_27 rfl
set_option maxRecDepth 100000 in
theorem f_27_39 : fe 27 39 = some (.ireturn, 1, 1, some .int) := fe_of pg_27 rfl
set_option maxRecDepth 100000 in
theorem f_28_0 : fe 28 0 = some (.aload_n 0, 1, 1, some .int) := fe_of pg_28 rfl
set_option maxRecDepth 100000 in
theorem f_28_1 : fe 28 1 = some (.aload_n 1, 1, 1, some .int) := fe_of pg_28 rfl
set_option maxRecDepth 100000 in
theorem f_28_2 : fe 28 2 = some (.iload_n 2, 1, 1, some .int) := fe_of pg_28 rfl
set_option maxRecDepth 100000 in
theorem f_28_3 : fe 28 3 = some (.invokevirtual 86, 3, 1, some .int) := fe_of pg_28 rfl
set_option maxRecDepth 100000 in
theorem f_28_6 : fe 28 6 = some (.ifCond .ne 5, 3, 1, some .int) := fe_of pg_28 rfl
set_option maxRecDepth 100000 in
theorem f_28_9 : fe 28 9 = some (.iconst (-1), 1, 1, some .int) := fe_of pg_28 rfl
set_option maxRecDepth 100000 in
theorem f_28_10 : fe 28 10 = some (.ireturn, 1, 1, some .int) := fe_of pg_28 rfl
set_option maxRecDepth 100000 in
theorem f_28_11 : fe 28 11 = some (.iconst 0, 1, 1, some .int) := fe_of pg_28 rfl
set_option maxRecDepth 100000 in
theorem f_28_12 : fe 28 12 = some (.istore_n 3, 1, 1, some .int) := fe_of pg_28 rfl
set_option maxRecDepth 100000 in
theorem f_28_13 : fe 28 13 = some (.iconst 0, 1, 1, some .int) := fe_of pg_28 rfl
set_option maxRecDepth 100000 in
theorem f_28_14 : fe 28 14 = some (.istore 4, 2, 1, some .int) := fe_of pg_28 rfl
set_option maxRecDepth 100000 in
theorem f_28_16 : fe 28 16 = some (.iload 4, 2, 1, some .int) := fe_of pg_28 rfl
set_option maxRecDepth 100000 in
theorem f_28_18 : fe 28 18 = some (.aload_n 1, 1, 1, some .int) := fe_of pg_28 rfl
set_option maxRecDepth 100000 in
theorem f_28_19 : fe 28 19 = some (.getfield 35, 3, 1, some .int) := fe_of pg_28 rfl
set_option maxRecDepth 100000 in
theorem f_28_22 : fe 28 22 = some (.if_icmp .ge 39, 3, 1, some .int) := fe_of pg_28 rfl
set_option maxRecDepth 100000 in
theorem f_28_25 : fe 28 25 = some (.iload_n 2, 1, 1, some .int) := fe_of pg_28 rfl
set_option maxRecDepth 100000 in
theorem f_28_26 : fe 28 26 = some (.iload 4, 2, 1, some .int) := fe_of pg_28 rfl
set_option maxRecDepth 100000 in
theorem f_28_28 : fe 28 28 = some (.invokestatic 43, 3, 1, some .int) := fe_of pg_28 rfl
set_option maxRecDepth 100000 in
theorem f_28_31 : fe 28 31 = some (.ifCond .eq 24, 3, 1, some .int) := fe_of pg_28 rfl
set_option maxRecDepth 100000 in
theorem f_28_34 : fe 28 34 = some (.aload_n 0, 1, 1, some .int) := fe_of pg_28 rfl
set_option maxRecDepth 100000 in
theorem f_28_35 : fe 28 35 = some (.aload_n 1, 1, 1, some .int) := fe_of pg_28 rfl
set_option maxRecDepth 100000 in
theorem f_28_36 : fe 28 36 = some (.iload_n 2, 1, 1, some .int) := fe_of pg_28 rfl
set_option maxRecDepth 100000 in
theorem f_28_37 : fe 28 37 = some (.iconst 1, 1, 1, some .int) := fe_of pg_28 rfl
set_option maxRecDepth 100000 in
theorem f_28_38 : fe 28 38 = some (.iload 4, 2, 1, some .int) := fe_of pg_28 rfl
set_option maxRecDepth 100000 in
theorem f_28_40 : fe 28 40 = some (.ishl, 1, 1, some .int) := fe_of pg_28 rfl
set_option maxRecDepth 100000 in
theorem f_28_41 : fe 28 41 = some (.ixor, 1, 1, some .int) := fe_of pg_28 rfl
set_option maxRecDepth 100000 in
theorem f_28_42 : fe 28 42 = some (.invokevirtual 86, 3, 1, some .int) := fe_of pg_28 rfl
set_option maxRecDepth 100000 in
theorem f_28_45 : fe 28 45 = some (.ifCond .eq 10, 3, 1, some .int) := fe_of pg_28 rfl
set_option maxRecDepth 100000 in
theorem f_28_48 : fe 28 48 = some (.iload_n 3, 1, 1, some .int) := fe_of pg_28 rfl
set_option maxRecDepth 100000 in
theorem f_28_49 : fe 28 49 = some (.iconst 1, 1, 1, some .int) := fe_of pg_28 rfl
set_option maxRecDepth 100000 in
theorem f_28_50 : fe 28 50 = some (.iload 4, 2, 1, some .int) := fe_of pg_28 rfl
set_option maxRecDepth 100000 in
theorem f_28_52 : fe 28 52 = some (.ishl, 1, 1, some .int) := fe_of pg_28 rfl
set_option maxRecDepth 100000 in
theorem f_28_53 : fe 28 53 = some (.ior, 1, 1, some .int) := fe_of pg_28 rfl
set_option maxRecDepth 100000 in
theorem f_28_54 : fe 28 54 = some (.istore_n 3, 1, 1, some .int) := fe_of pg_28 rfl
set_option maxRecDepth 100000 in
theorem f_28_55 : fe 28 55 = some (.iinc 4 1, 3, 1, some .int) := fe_of pg_28 rfl
set_option maxRecDepth 100000 in
theorem f_28_58 : fe 28 58 = some (.goto (-42), 3, 1, some .int) := fe_of pg_28 rfl
set_option maxRecDepth 100000 in
theorem f_28_61 : fe 28 61 = some (.iload_n 3, 1, 1, some .int) := fe_of pg_28 rfl
set_option maxRecDepth 100000 in
theorem f_28_62 : fe 28 62 = some (.ireturn, 1, 1, some .int) := fe_of pg_28 rfl
set_option maxRecDepth 100000 in
theorem f_29_0 : fe 29 0 = some (.iconst (-1), 1, 1, some .int) := fe_of pg_29 rfl
set_option maxRecDepth 100000 in
theorem f_29_1 : fe 29 1 = some (.istore 4, 2, 1, some .int) := fe_of pg_29 rfl
set_option maxRecDepth 100000 in
theorem f_29_3 : fe 29 3 = some (.iconst (-1), 1, 1, some .int) := fe_of pg_29 rfl
set_option maxRecDepth 100000 in
theorem f_29_4 : fe 29 4 = some (.istore 5, 2, 1, some .int) := fe_of pg_29 rfl
set_option maxRecDepth 100000 in
theorem f_29_6 : fe 29 6 = some (.aload_n 0, 1, 1, some .int) := fe_of pg_29 rfl
set_option maxRecDepth 100000 in
theorem f_29_7 : fe 29 7 = some (.aload_n 1, 1, 1, some .int) := fe_of pg_29 rfl
set_option maxRecDepth 100000 in
theorem f_29_8 : fe 29 8 = some (.invokevirtual 31, 3, 1, some .int) := fe_of pg_29 rfl
set_option maxRecDepth 100000 in
theorem f_29_11 : fe 29 11 = some (.iconst 0, 1, 1, some .int) := fe_of pg_29 rfl
set_option maxRecDepth 100000 in
theorem f_29_12 : fe 29 12 = some (.istore 6, 2, 1, some .int) := fe_of pg_29 rfl
set_option maxRecDepth 100000 in
theorem f_29_14 : fe 29 14 = some (.iload 6, 2, 1, some .int) := fe_of pg_29 rfl
set_option maxRecDepth 100000 in
theorem f_29_16 : fe 29 16 = some (.aload_n 1, 1, 1, some .int) := fe_of pg_29 rfl
set_option maxRecDepth 100000 in
theorem f_29_17 : fe 29 17 = some (.getfield 54, 3, 1, some .int) := fe_of pg_29 rfl
set_option maxRecDepth 100000 in
theorem f_29_20 : fe 29 20 = some (.if_icmp .ge 57, 3, 1, some .int) := fe_of pg_29 rfl
set_option maxRecDepth 100000 in
theorem f_29_23 : fe 29 23 = some (.aload_n 0, 1, 1, some .int) := fe_of pg_29 rfl
set_option maxRecDepth 100000 in
theorem f_29_24 : fe 29 24 = some (.iload_n 2, 1, 1, some .int) := fe_of pg_29 rfl
set_option maxRecDepth 100000 in
theorem f_29_25 : fe 29 25 = some (.invokevirtual 57, 3, 1, some .int) := fe_of pg_29 rfl
set_option maxRecDepth 100000 in
theorem f_29_28 : fe 29 28 = some (.aload_n 1, 1, 1, some .int) := fe_of pg_29 rfl
set_option maxRecDepth 100000 in
theorem f_29_29 : fe 29 29 = some (.getfield 61, 3, 1, some .int) := fe_of pg_29 rfl
set_option maxRecDepth 100000 in
theorem f_29_32 : fe 29 32 = some (.iload 6, 2, 1, some .int) := fe_of pg_29 rfl
set_option maxRecDepth 100000 in
theorem f_29_34 : fe 29 34 = some (.iaload, 1, 1, some .int) := fe_of pg_29 rfl
set_option maxRecDepth 100000 in
theorem f_29_35 : fe 29 35 = some (.isub, 1, 1, some .int) := fe_of pg_29 rfl
set_option maxRecDepth 100000 in
theorem f_29_36 : fe 29 36 = some (.istore 7, 2, 1, some .int) := fe_of pg_29 rfl
set_option maxRecDepth 100000 in
theorem f_29_38 : fe 29 38 = some (.iload 7, 2, 1, some .int) := fe_of pg_29 rfl
set_option maxRecDepth 100000 in
theorem f_29_40 : fe 29 40 = some (.ifCond .ge 5, 3, 1, some .int) := fe_of pg_29 rfl
set_option maxRecDepth 100000 in
theorem f_29_43 : fe 29 43 = some (.iconst (-1), 1, 1, some .int) := fe_of pg_29 rfl
set_option maxRecDepth 100000 in
theorem f_29_44 : fe 29 44 = some (.ireturn, 1, 1, some .int) := fe_of pg_29 rfl
set_option maxRecDepth 100000 in
theorem f_29_45 : fe 29 45 = some (.iload 4, 2, 1, some .int) := fe_of pg_29 rfl
set_option maxRecDepth 100000 in
theorem f_29_47 : fe 29 47 = some (.iconst (-1), 1, 1, some .int) := fe_of pg_29 rfl
set_option maxRecDepth 100000 in
theorem f_29_48 : fe 29 48 = some (.if_icmp .eq 10, 3, 1, some .int) := fe_of pg_29 rfl
set_option maxRecDepth 100000 in
theorem f_29_51 : fe 29 51 = some (.iload 7, 2, 1, some .int) := fe_of pg_29 rfl
set_option maxRecDepth 100000 in
theorem f_29_53 : fe 29 53 = some (.iload 5, 2, 1, some .int) := fe_of pg_29 rfl
set_option maxRecDepth 100000 in
theorem f_29_55 : fe 29 55 = some (.if_icmp .ge 11, 3, 1, some .int) := fe_of pg_29 rfl
set_option maxRecDepth 100000 in
theorem f_29_58 : fe 29 58 = some (.iload 6, 2, 1, some .int) := fe_of pg_29 rfl
set_option maxRecDepth 100000 in
theorem f_29_60 : fe 29 60 = some (.istore 4, 2, 1, some .int) := fe_of pg_29 rfl
set_option maxRecDepth 100000 in
theorem f_29_62 : fe 29 62 = some (.iload 7, 2, 1, some .int) := fe_of pg_29 rfl
set_option maxRecDepth 100000 in
theorem f_29_64 : fe 29 64 = some (.istore 5, 2, 1, some .int) := fe_of pg_29 rfl
set_option maxRecDepth 100000 in
theorem f_29_66 : fe 29 66 = some (.aload_n 0, 1, 1, some .int) := fe_of pg_29 rfl
set_option maxRecDepth 100000 in
theorem f_29_67 : fe 29 67 = some (.iload_n 2, 1, 1, some .int) := fe_of pg_29 rfl
set_option maxRecDepth 100000 in
theorem f_29_68 : fe 29 68 = some (.invokevirtual 64, 3, 1, some .int) := fe_of pg_29 rfl
set_option maxRecDepth 100000 in
theorem f_29_71 : fe 29 71 = some (.iinc 6 1, 3, 1, some .int) := fe_of pg_29 rfl
set_option maxRecDepth 100000 in
theorem f_29_74 : fe 29 74 = some (.goto (-60), 3, 1, some .int) := fe_of pg_29 rfl
set_option maxRecDepth 100000 in
theorem f_29_77 : fe 29 77 = some (.iload_n 3, 1, 1, some .int) := fe_of pg_29 rfl
set_option maxRecDepth 100000 in
theorem f_29_78 : fe 29 78 = some (.ifCond .eq 8, 3, 1, some .int) := fe_of pg_29 rfl
set_option maxRecDepth 100000 in
theorem f_29_81 : fe 29 81 = some (.iload 4, 2, 1, some .int) := fe_of pg_29 rfl
set_option maxRecDepth 100000 in
theorem f_29_83 : fe 29 83 = some (.goto 5, 3, 1, some .int) := fe_of pg_29 rfl
set_option maxRecDepth 100000 in
theorem f_29_86 : fe 29 86 = some (.iload 5, 2, 1, some .int) := fe_of pg_29 rfl
set_option maxRecDepth 100000 in
theorem f_29_88 : fe 29 88 = some (.ireturn, 1, 1, some .int) := fe_of pg_29 rfl
set_option maxRecDepth 100000 in
theorem f_30_0 : fe 30 0 = some (.aload_n 0, 1, 1, some .long) := fe_of pg_30 rfl
set_option maxRecDepth 100000 in
theorem f_30_1 : fe 30 1 = some (.aload_n 1, 1, 1, some .long) := fe_of pg_30 rfl
set_option maxRecDepth 100000 in
theorem f_30_2 : fe 30 2 = some (.invokevirtual 31, 3, 1, some .long) := fe_of pg_30 rfl
set_option maxRecDepth 100000 in
theorem f_30_5 : fe 30 5 = some (.iconst 0, 1, 1, some .long) := fe_of pg_30 rfl
set_option maxRecDepth 100000 in
theorem f_30_6 : fe 30 6 = some (.istore_n 3, 1, 1, some .long) := fe_of pg_30 rfl
set_option maxRecDepth 100000 in
theorem f_30_7 : fe 30 7 = some (.iload_n 3, 1, 1, some .long) := fe_of pg_30 rfl
set_option maxRecDepth 100000 in
theorem f_30_8 : fe 30 8 = some (.aload_n 1, 1, 1, some .long) := fe_of pg_30 rfl
set_option maxRecDepth 100000 in
theorem f_30_9 : fe 30 9 = some (.getfield 54, 3, 1, some .long) := fe_of pg_30 rfl
set_option maxRecDepth 100000 in
theorem f_30_12 : fe 30 12 = some (.if_icmp .ge 25, 3, 1, some .long) := fe_of pg_30 rfl
set_option maxRecDepth 100000 in
theorem f_30_15 : fe 30 15 = some (.aload_n 0, 1, 1, some .long) := fe_of pg_30 rfl
set_option maxRecDepth 100000 in
theorem f_30_16 : fe 30 16 = some (.getfield 15, 3, 1, some .long) := fe_of pg_30 rfl
set_option maxRecDepth 100000 in
theorem f_30_19 : fe 30 19 = some (.iload_n 3, 1, 1, some .long) := fe_of pg_30 rfl
set_option maxRecDepth 100000 in
theorem f_30_20 : fe 30 20 = some (.aload_n 0, 1, 1, some .long) := fe_of pg_30 rfl
set_option maxRecDepth 100000 in
theorem f_30_21 : fe 30 21 = some (.iload_n 2, 1, 1, some .long) := fe_of pg_30 rfl
set_option maxRecDepth 100000 in
theorem f_30_22 : fe 30 22 = some (.invokevirtual 57, 3, 1, some .long) := fe_of pg_30 rfl
set_option maxRecDepth 100000 in
theorem f_30_25 : fe 30 25 = some (.iastore, 1, 1, some .long) := fe_of pg_30 rfl
set_option maxRecDepth 100000 in
theorem f_30_26 : fe 30 26 = some (.aload_n 0, 1, 1, some .long) := fe_of pg_30 rfl
set_option maxRecDepth 100000 in
theorem f_30_27 : fe 30 27 = some (.iload_n 2, 1, 1, some .long) := fe_of pg_30 rfl
set_option maxRecDepth 100000 in
theorem f_30_28 : fe 30 28 = some (.invokevirtual 64, 3, 1, some .long) := fe_of pg_30 rfl
set_option maxRecDepth 100000 in
theorem f_30_31 : fe 30 31 = some (.iinc 3 1, 3, 1, some .long) := fe_of pg_30 rfl
set_option maxRecDepth 100000 in
theorem f_30_34 : fe 30 34 = some (.goto (-27), 3, 1, some .long) := fe_of pg_30 rfl
set_option maxRecDepth 100000 in
theorem f_30_37 : fe 30 37 = some (.lconst 1, 1, 1, some .long) := fe_of pg_30 rfl
set_option maxRecDepth 100000 in
theorem f_30_38 : fe 30 38 = some (.lstore_n 3, 1, 1, some .long) := fe_of pg_30 rfl
set_option maxRecDepth 100000 in
theorem f_30_39 : fe 30 39 = some (.iconst 0, 1, 1, some .long) := fe_of pg_30 rfl
set_option maxRecDepth 100000 in
theorem f_30_40 : fe 30 40 = some (.istore 5, 2, 1, some .long) := fe_of pg_30 rfl
set_option maxRecDepth 100000 in
theorem f_30_42 : fe 30 42 = some (.aload_n 1, 1, 1, some .long) := fe_of pg_30 rfl
set_option maxRecDepth 100000 in
theorem f_30_43 : fe 30 43 = some (.getfield 54, 3, 1, some .long) := fe_of pg_30 rfl
set_option maxRecDepth 100000 in
theorem f_30_46 : fe 30 46 = some (.iconst 1, 1, 1, some .long) := fe_of pg_30 rfl
set_option maxRecDepth 100000 in
theorem f_30_47 : fe 30 47 = some (.isub, 1, 1, some .long) := fe_of pg_30 rfl
set_option maxRecDepth 100000 in
theorem f_30_48 : fe 30 48 = some (.istore 6, 2, 1, some .long) := fe_of pg_30 rfl
set_option maxRecDepth 100000 in
theorem f_30_50 : fe 30 50 = some (.iload 6, 2, 1, some .long) := fe_of pg_30 rfl
set_option maxRecDepth 100000 in
theorem f_30_52 : fe 30 52 = some (.ifCond .lt 34, 3, 1, some .long) := fe_of pg_30 rfl
set_option maxRecDepth 100000 in
theorem f_30_55 : fe 30 55 = some (.lload_n 3, 1, 1, some .long) := fe_of pg_30 rfl
set_option maxRecDepth 100000 in
theorem f_30_56 : fe 30 56 = some (.iconst 0, 1, 1, some .long) := fe_of pg_30 rfl
set_option maxRecDepth 100000 in
theorem f_30_57 : fe 30 57 = some (.aload_n 0, 1, 1, some .long) := fe_of pg_30 rfl
set_option maxRecDepth 100000 in
theorem f_30_58 : fe 30 58 = some (.aload_n 0, 1, 1, some .long) := fe_of pg_30 rfl
set_option maxRecDepth 100000 in
theorem f_30_59 : fe 30 59 = some (.getfield 15, 3, 1, some .long) := fe_of pg_30 rfl
set_option maxRecDepth 100000 in
theorem f_30_62 : fe 30 62 = some (.iload 6, 2, 1, some .long) := fe_of pg_30 rfl
set_option maxRecDepth 100000 in
theorem f_30_64 : fe 30 64 = some (.iaload, 1, 1, some .long) := fe_of pg_30 rfl
set_option maxRecDepth 100000 in
theorem f_30_65 : fe 30 65 = some (.invokevirtual 90, 3, 1, some .long) := fe_of pg_30 rfl
set_option maxRecDepth 100000 in
theorem f_30_68 : fe 30 68 = some (.iload 5, 2, 1, some .long) := fe_of pg_30 rfl
set_option maxRecDepth 100000 in
theorem f_30_70 : fe 30 70 = some (.isub, 1, 1, some .long) := fe_of pg_30 rfl
set_option maxRecDepth 100000 in
theorem f_30_71 : fe 30 71 = some (.invokestatic 93, 3, 1, some .long) := fe_of pg_30 rfl
set_option maxRecDepth 100000 in
theorem f_30_74 : fe 30 74 = some (.i2l, 1, 1, some .long) := fe_of pg_30 rfl
set_option maxRecDepth 100000 in
theorem f_30_75 : fe 30 75 = some (.lmul, 1, 1, some .long) := fe_of pg_30 rfl
set_option maxRecDepth 100000 in
theorem f_30_76 : fe 30 76 = some (.lstore_n 3, 1, 1, some .long) := fe_of pg_30 rfl
set_option maxRecDepth 100000 in
theorem f_30_77 : fe 30 77 = some (.iinc 5 1, 3, 1, some .long) := fe_of pg_30 rfl
set_option maxRecDepth 100000 in
theorem f_30_80 : fe 30 80 = some (.iinc 6 (-1), 3, 1, some .long) := fe_of pg_30 rfl
set_option maxRecDepth 100000 in
theorem f_30_83 : fe 30 83 = some (.goto (-33), 3, 1, some .long) := fe_of pg_30 rfl
set_option maxRecDepth 100000 in
theorem f_30_86 : fe 30 86 = some (.lload_n 3, 1, 1, some .long) := fe_of pg_30 rfl
set_option maxRecDepth 100000 in
theorem f_30_87 : fe 30 87 = some (.lreturn, 1, 1, some .long) := fe_of pg_30 rfl
set_option maxRecDepth 100000 in
theorem f_31_0 : fe 31 0 = some (.iconst 0, 1, 1, some .int) := fe_of pg_31 rfl
set_option maxRecDepth 100000 in
theorem f_31_1 : fe 31 1 = some (.istore_n 2, 1, 1, some .int) := fe_of pg_31 rfl
set_option maxRecDepth 100000 in
theorem f_31_2 : fe 31 2 = some (.iconst 0, 1, 1, some .int) := fe_of pg_31 rfl
set_option maxRecDepth 100000 in
theorem f_31_3 : fe 31 3 = some (.istore_n 3, 1, 1, some .int) := fe_of pg_31 rfl
set_option maxRecDepth 100000 in
theorem f_31_4 : fe 31 4 = some (.iload_n 3, 1, 1, some .int) := fe_of pg_31 rfl
set_option maxRecDepth 100000 in
theorem f_31_5 : fe 31 5 = some (.aload_n 0, 1, 1, some .int) := fe_of pg_31 rfl
set_option maxRecDepth 100000 in
theorem f_31_6 : fe 31 6 = some (.getfield 18, 3, 1, some .int) := fe_of pg_31 rfl
set_option maxRecDepth 100000 in
theorem f_31_9 : fe 31 9 = some (.getfield 54, 3, 1, some .int) := fe_of pg_31 rfl
set_option maxRecDepth 100000 in
theorem f_31_12 : fe 31 12 = some (.if_icmp .ge 25, 3, 1, some .int) := fe_of pg_31 rfl
set_option maxRecDepth 100000 in
theorem f_31_15 : fe 31 15 = some (.aload_n 0, 1, 1, some .int) := fe_of pg_31 rfl
set_option maxRecDepth 100000 in
theorem f_31_16 : fe 31 16 = some (.getfield 18, 3, 1, some .int) := fe_of pg_31 rfl
set_option maxRecDepth 100000 in
theorem f_31_19 : fe 31 19 = some (.getfield 61, 3, 1, some .int) := fe_of pg_31 rfl
set_option maxRecDepth 100000 in
theorem f_31_22 : fe 31 22 = some (.iload_n 3, 1, 1, some .int) := fe_of pg_31 rfl
set_option maxRecDepth 100000 in
theorem f_31_23 : fe 31 23 = some (.iaload, 1, 1, some .int) := fe_of pg_31 rfl
set_option maxRecDepth 100000 in
theorem f_31_24 : fe 31 24 = some (.iload_n 1, 1, 1, some .int) := fe_of pg_31 rfl
set_option maxRecDepth 100000 in
theorem f_31_25 : fe 31 25 = some (.if_icmp .gt 6, 3, 1, some .int) := fe_of pg_31 rfl
set_option maxRecDepth 100000 in
theorem f_31_28 : fe 31 28 = some (.iinc 2 1, 3, 1, some .int) := fe_of pg_31 rfl
set_option maxRecDepth 100000 in
theorem f_31_31 : fe 31 31 = some (.iinc 3 1, 3, 1, some .int) := fe_of pg_31 rfl
set_option maxRecDepth 100000 in
theorem f_31_34 : fe 31 34 = some (.goto (-30), 3, 1, some .int) := fe_of pg_31 rfl
set_option maxRecDepth 100000 in
theorem f_31_37 : fe 31 37 = some (.iload_n 2, 1, 1, some .int) := fe_of pg_31 rfl
set_option maxRecDepth 100000 in
theorem f_31_38 : fe 31 38 = some (.ireturn, 1, 1, some .int) := fe_of pg_31 rfl
set_option maxRecDepth 100000 in
theorem f_32_0 : fe 32 0 = some (.aload_n 0, 1, 2, none) := fe_of pg_32 rfl
set_option maxRecDepth 100000 in
theorem f_32_1 : fe 32 1 = some (.invokespecial 3, 3, 2, none) := fe_of pg_32 rfl
set_option maxRecDepth 100000 in
theorem f_32_4 : fe 32 4 = some (.aload_n 0, 1, 2, none) := fe_of pg_32 rfl
set_option maxRecDepth 100000 in
theorem f_32_5 : fe 32 5 = some (.bipush 24, 2, 2, none) := fe_of pg_32 rfl
set_option maxRecDepth 100000 in
theorem f_32_7 : fe 32 7 = some (.newarray .int, 2, 2, none) := fe_of pg_32 rfl
set_option maxRecDepth 100000 in
theorem f_32_9 : fe 32 9 = some (.putfield 9, 3, 2, none) := fe_of pg_32 rfl
set_option maxRecDepth 100000 in
theorem f_32_12 : fe 32 12 = some (.aload_n 0, 1, 2, none) := fe_of pg_32 rfl
set_option maxRecDepth 100000 in
theorem f_32_13 : fe 32 13 = some (.bipush 25, 2, 2, none) := fe_of pg_32 rfl
set_option maxRecDepth 100000 in
theorem f_32_15 : fe 32 15 = some (.newarray .int, 2, 2, none) := fe_of pg_32 rfl
set_option maxRecDepth 100000 in
theorem f_32_17 : fe 32 17 = some (.putfield 15, 3, 2, none) := fe_of pg_32 rfl
set_option maxRecDepth 100000 in
theorem f_32_20 : fe 32 20 = some (.aload_n 0, 1, 2, none) := fe_of pg_32 rfl
set_option maxRecDepth 100000 in
theorem f_32_21 : fe 32 21 = some (.bipush 25, 2, 2, none) := fe_of pg_32 rfl
set_option maxRecDepth 100000 in
theorem f_32_23 : fe 32 23 = some (.newarray .int, 2, 2, none) := fe_of pg_32 rfl
set_option maxRecDepth 100000 in
theorem f_32_25 : fe 32 25 = some (.putfield 18, 3, 2, none) := fe_of pg_32 rfl
set_option maxRecDepth 100000 in
theorem f_32_28 : fe 32 28 = some (.aload_n 0, 1, 2, none) := fe_of pg_32 rfl
set_option maxRecDepth 100000 in
theorem f_32_29 : fe 32 29 = some (.bipush 25, 2, 2, none) := fe_of pg_32 rfl
set_option maxRecDepth 100000 in
theorem f_32_31 : fe 32 31 = some (.newarray .int, 2, 2, none) := fe_of pg_32 rfl
set_option maxRecDepth 100000 in
theorem f_32_33 : fe 32 33 = some (.putfield 21, 3, 2, none) := fe_of pg_32 rfl
set_option maxRecDepth 100000 in
theorem f_32_36 : fe 32 36 = some (.aload_n 0, 1, 2, none) := fe_of pg_32 rfl
set_option maxRecDepth 100000 in
theorem f_32_37 : fe 32 37 = some (.invokevirtual 24, 3, 2, none) := fe_of pg_32 rfl
set_option maxRecDepth 100000 in
theorem f_32_40 : fe 32 40 = some (.return_, 1, 2, none) := fe_of pg_32 rfl
set_option maxRecDepth 100000 in
theorem f_33_0 : fe 33 0 = some (.aload_n 0, 1, 2, none) := fe_of pg_33 rfl
set_option maxRecDepth 100000 in
theorem f_33_1 : fe 33 1 = some (.bipush 10, 2, 2, none) := fe_of pg_33 rfl
set_option maxRecDepth 100000 in
theorem f_33_3 : fe 33 3 = some (.putfield 27, 3, 2, none) := fe_of pg_33 rfl
set_option maxRecDepth 100000 in
theorem f_33_6 : fe 33 6 = some (.aload_n 0, 1, 2, none) := fe_of pg_33 rfl
set_option maxRecDepth 100000 in
theorem f_33_7 : fe 33 7 = some (.getfield 9, 3, 2, none) := fe_of pg_33 rfl
set_option maxRecDepth 100000 in
theorem f_33_10 : fe 33 10 = some (.iconst 0, 1, 2, none) := fe_of pg_33 rfl
set_option maxRecDepth 100000 in
theorem f_33_11 : fe 33 11 = some (.invokestatic 31, 3, 2, none) := fe_of pg_33 rfl
set_option maxRecDepth 100000 in
theorem f_33_14 : fe 33 14 = some (.return_, 1, 2, none) := fe_of pg_33 rfl
set_option maxRecDepth 100000 in
theorem f_34_0 : fe 34 0 = some (.aload_n 0, 1, 2, none) := fe_of pg_34 rfl
set_option maxRecDepth 100000 in
theorem f_34_1 : fe 34 1 = some (.aload_n 1, 1, 2, none) := fe_of pg_34 rfl
set_option maxRecDepth 100000 in
theorem f_34_2 : fe 34 2 = some (.getfield 27, 3, 2, none) := fe_of pg_34 rfl
set_option maxRecDepth 100000 in
theorem f_34_5 : fe 34 5 = some (.putfield 27, 3, 2, none) := fe_of pg_34 rfl
set_option maxRecDepth 100000 in
theorem f_34_8 : fe 34 8 = some (.aload_n 1, 1, 2, none) := fe_of pg_34 rfl
set_option maxRecDepth 100000 in
theorem f_34_9 : fe 34 9 = some (.getfield 9, 3, 2, none) := fe_of pg_34 rfl
set_option maxRecDepth 100000 in
theorem f_34_12 : fe 34 12 = some (.aload_n 0, 1, 2, none) := fe_of pg_34 rfl
set_option maxRecDepth 100000 in
theorem f_34_13 : fe 34 13 = some (.getfield 9, 3, 2, none) := fe_of pg_34 rfl
set_option maxRecDepth 100000 in
theorem f_34_16 : fe 34 16 = some (.invokestatic 35, 3, 2, none) := fe_of pg_34 rfl
set_option maxRecDepth 100000 in
theorem f_34_19 : fe 34 19 = some (.return_, 1, 2, none) := fe_of pg_34 rfl
set_option maxRecDepth 100000 in
theorem f_35_0 : fe 35 0 = some (.iload_n 1, 1, 2, some .int) := fe_of pg_35 rfl
set_option maxRecDepth 100000 in
theorem f_35_1 : fe 35 1 = some (.tableswitch 72 0 5 #[39, 44, 49, 54, 59, 67], 39, 2, some .int) := fe_of pg_35 rfl
set_option maxRecDepth 100000 in
theorem f_35_40 : fe 35 40 = some (.aload_n 0, 1, 2, some .int) := fe_of pg_35 rfl
set_option maxRecDepth 100000 in
theorem f_35_41 : fe 35 41 = some (.getfield 27, 3, 2, some .int) := fe_of pg_35 rfl
set_option maxRecDepth 100000 in
theorem f_35_44 : fe 35 44 = some (.ireturn, 1, 2, some .int) := fe_of pg_35 rfl
set_option maxRecDepth 100000 in
theorem f_35_45 : fe 35 45 = some (.aload_n 0, 1, 2, some .int) := fe_of pg_35 rfl
set_option maxRecDepth 100000 in
theorem f_35_46 : fe 35 46 = some (.invokevirtual 39, 3, 2, some .int) := fe_of pg_35 rfl
set_option maxRecDepth 100000 in
theorem f_35_49 : fe 35 49 = some (.ireturn, 1, 2, some .int) := fe_of pg_35 rfl
set_option maxRecDepth 100000 in
theorem f_35_50 : fe 35 50 = some (.aload_n 0, 1, 2, some .int) := fe_of pg_35 rfl
set_option maxRecDepth 100000 in
theorem f_35_51 : fe 35 51 = some (.invokevirtual 43, 3, 2, some .int) := fe_of pg_35 rfl
set_option maxRecDepth 100000 in
theorem f_35_54 : fe 35 54 = some (.ireturn, 1, 2, some .int) := fe_of pg_35 rfl
set_option maxRecDepth 100000 in
theorem f_35_55 : fe 35 55 = some (.aload_n 0, 1, 2, some .int) := fe_of pg_35 rfl
set_option maxRecDepth 100000 in
theorem f_35_56 : fe 35 56 = some (.invokevirtual 46, 3, 2, some .int) := fe_of pg_35 rfl
set_option maxRecDepth 100000 in
theorem f_35_59 : fe 35 59 = some (.ireturn, 1, 2, some .int) := fe_of pg_35 rfl
set_option maxRecDepth 100000 in
theorem f_35_60 : fe 35 60 = some (.aload_n 0, 1, 2, some .int) := fe_of pg_35 rfl
set_option maxRecDepth 100000 in
theorem f_35_61 : fe 35 61 = some (.iconst 0, 1, 2, some .int) := fe_of pg_35 rfl
set_option maxRecDepth 100000 in
theorem f_35_62 : fe 35 62 = some (.bipush 24, 2, 2, some .int) := fe_of pg_35 rfl
set_option maxRecDepth 100000 in
theorem f_35_64 : fe 35 64 = some (.invokevirtual 49, 3, 2, some .int) := fe_of pg_35 rfl
set_option maxRecDepth 100000 in
theorem f_35_67 : fe 35 67 = some (.ireturn, 1, 2, some .int) := fe_of pg_35 rfl
set_option maxRecDepth 100000 in
theorem f_35_68 : fe 35 68 = some (.aload_n 0, 1, 2, some .int) := fe_of pg_35 rfl
set_option maxRecDepth 100000 in
theorem f_35_69 : fe 35 69 = some (.invokevirtual 53, 3, 2, some .int) := fe_of pg_35 rfl
set_option maxRecDepth 100000 in
theorem f_35_72 : fe 35 72 = some (.ireturn, 1, 2, some .int) := fe_of pg_35 rfl
set_option maxRecDepth 100000 in
theorem f_35_73 : fe 35 73 = some (.iload_n 1, 1, 2, some .int) := fe_of pg_35 rfl
set_option maxRecDepth 100000 in
theorem f_35_74 : fe 35 74 = some (.bipush 10, 2, 2, some .int) := fe_of pg_35 rfl
set_option maxRecDepth 100000 in
theorem f_35_76 : fe 35 76 = some (.if_icmp .lt 21, 3, 2, some .int) := fe_of pg_35 rfl
set_option maxRecDepth 100000 in
theorem f_35_79 : fe 35 79 = some (.iload_n 1, 1, 2, some .int) := fe_of pg_35 rfl
set_option maxRecDepth 100000 in
theorem f_35_80 : fe 35 80 = some (.bipush 34, 2, 2, some .int) := fe_of pg_35 rfl
set_option maxRecDepth 100000 in
theorem f_35_82 : fe 35 82 = some (.if_icmp .ge 15, 3, 2, some .int) := fe_of pg_35 rfl
set_option maxRecDepth 100000 in
theorem f_35_85 : fe 35 85 = some (.aload_n 0, 1, 2, some .int) := fe_of pg_35 rfl
set_option maxRecDepth 100000 in
theorem f_35_86 : fe 35 86 = some (.getfield 9, 3, 2, some .int) := fe_of pg_35 rfl
set_option maxRecDepth 100000 in
theorem f_35_89 : fe 35 89 = some (.iload_n 1, 1, 2, some .int) := fe_of pg_35 rfl
set_option maxRecDepth 100000 in
theorem f_35_90 : fe 35 90 = some (.bipush 10, 2, 2, some .int) := fe_of pg_35 rfl
set_option maxRecDepth 100000 in
theorem f_35_92 : fe 35 92 = some (.isub, 1, 2, some .int) := fe_of pg_35 rfl
set_option maxRecDepth 100000 in
theorem f_35_93 : fe 35 93 = some (.iaload, 1, 2, some .int) := fe_of pg_35 rfl
set_option maxRecDepth 100000 in
theorem f_35_94 : fe 35 94 = some (.goto 4, 3, 2, some .int) := fe_of pg_35 rfl
set_option maxRecDepth 100000 in
theorem f_35_97 : fe 35 97 = some (.iconst (-1), 1, 2, some .int) := fe_of pg_35 rfl
set_option maxRecDepth 100000 in
theorem f_35_98 : fe 35 98 = some (.ireturn, 1, 2, some .int) := fe_of pg_35 rfl
set_option maxRecDepth 100000 in
theorem f_36_0 : fe 36 0 = some (.iconst 0, 1, 2, some .int) := fe_of pg_36 rfl
set_option maxRecDepth 100000 in
theorem f_36_1 : fe 36 1 = some (.istore_n 3, 1, 2, some .int) := fe_of pg_36 rfl
set_option maxRecDepth 100000 in
theorem f_36_2 : fe 36 2 = some (.iconst 0, 1, 2, some .int) := fe_of pg_36 rfl
set_option maxRecDepth 100000 in
theorem f_36_3 : fe 36 3 = some (.iload_n 1, 1, 2, some .int) := fe_of pg_36 rfl
set_option maxRecDepth 100000 in
theorem f_36_4 : fe 36 4 = some (.invokestatic 56, 3, 2, some .int) := fe_of pg_36 rfl
set_option maxRecDepth 100000 in
theorem f_36_7 : fe 36 7 = some (.istore 4, 2, 2, some .int) := fe_of pg_36 rfl
set_option maxRecDepth 100000 in
theorem f_36_9 : fe 36 9 = some (.iload 4, 2, 2, some .int) := fe_of pg_36 rfl
set_option maxRecDepth 100000 in
theorem f_36_11 : fe 36 11 = some (.iload_n 2, 1, 2, some .int) := fe_of pg_36 rfl
set_option maxRecDepth 100000 in
theorem f_36_12 : fe 36 12 = some (.if_icmp .ge 26, 3, 2, some .int) := fe_of pg_36 rfl
set_option maxRecDepth 100000 in
theorem f_36_15 : fe 36 15 = some (.iload 4, 2, 2, some .int) := fe_of pg_36 rfl
set_option maxRecDepth 100000 in
theorem f_36_17 : fe 36 17 = some (.bipush 24, 2, 2, some .int) := fe_of pg_36 rfl
set_option maxRecDepth 100000 in
theorem f_36_19 : fe 36 19 = some (.if_icmp .ge 19, 3, 2, some .int) := fe_of pg_36 rfl
set_option maxRecDepth 100000 in
theorem f_36_22 : fe 36 22 = some (.iload_n 3, 1, 2, some .int) := fe_of pg_36 rfl
set_option maxRecDepth 100000 in
theorem f_36_23 : fe 36 23 = some (.aload_n 0, 1, 2, some .int) := fe_of pg_36 rfl
set_option maxRecDepth 100000 in
theorem f_36_24 : fe 36 24 = some (.getfield 9, 3, 2, some .int) := fe_of pg_36 rfl
set_option maxRecDepth 100000 in
theorem f_36_27 : fe 36 27 = some (.iload 4, 2, 2, some .int) := fe_of pg_36 rfl
set_option maxRecDepth 100000 in
theorem f_36_29 : fe 36 29 = some (.iaload, 1, 2, some .int) := fe_of pg_36 rfl
set_option maxRecDepth 100000 in
theorem f_36_30 : fe 36 30 = some (.iadd, 1, 2, some .int) := fe_of pg_36 rfl
set_option maxRecDepth 100000 in
theorem f_36_31 : fe 36 31 = some (.istore_n 3, 1, 2, some .int) := fe_of pg_36 rfl
set_option maxRecDepth 100000 in
theorem f_36_32 : fe 36 32 = some (.iinc 4 1, 3, 2, some .int) := fe_of pg_36 rfl
set_option maxRecDepth 100000 in
theorem f_36_35 : fe 36 35 = some (.goto (-26), 3, 2, some .int) := fe_of pg_36 rfl
set_option maxRecDepth 100000 in
theorem f_36_38 : fe 36 38 = some (.iload_n 3, 1, 2, some .int) := fe_of pg_36 rfl
set_option maxRecDepth 100000 in
theorem f_36_39 : fe 36 39 = some (.ireturn, 1, 2, some .int) := fe_of pg_36 rfl
set_option maxRecDepth 100000 in
theorem f_37_0 : fe 37 0 = some (.iconst 0, 1, 2, some .int) := fe_of pg_37 rfl
set_option maxRecDepth 100000 in
theorem f_37_1 : fe 37 1 = some (.istore_n 1, 1, 2, some .int) := fe_of pg_37 rfl
set_option maxRecDepth 100000 in
theorem f_37_2 : fe 37 2 = some (.iconst 1, 1, 2, some .int) := fe_of pg_37 rfl
set_option maxRecDepth 100000 in
theorem f_37_3 : fe 37 3 = some (.istore_n 2, 1, 2, some .int) := fe_of pg_37 rfl
set_option maxRecDepth 100000 in
theorem f_37_4 : fe 37 4 = some (.iload_n 2, 1, 2, some .int) := fe_of pg_37 rfl
set_option maxRecDepth 100000 in
theorem f_37_5 : fe 37 5 = some (.bipush 24, 2, 2, some .int) := fe_of pg_37 rfl
set_option maxRecDepth 100000 in
theorem f_37_7 : fe 37 7 = some (.if_icmp .ge 26, 3, 2, some .int) := fe_of pg_37 rfl
set_option maxRecDepth 100000 in
theorem f_37_10 : fe 37 10 = some (.aload_n 0, 1, 2, some .int) := fe_of pg_37 rfl
set_option maxRecDepth 100000 in
theorem f_37_11 : fe 37 11 = some (.getfield 9, 3, 2, some .int) := fe_of pg_37 rfl
set_option maxRecDepth 100000 in
theorem f_37_14 : fe 37 14 = some (.iload_n 2, 1, 2, some .int) := fe_of pg_37 rfl
set_option maxRecDepth 100000 in
theorem f_37_15 : fe 37 15 = some (.iaload, 1, 2, some .int) := fe_of pg_37 rfl
set_option maxRecDepth 100000 in
theorem f_37_16 : fe 37 16 = some (.aload_n 0, 1, 2, some .int) := fe_of pg_37 rfl
set_option maxRecDepth 100000 in
theorem f_37_17 : fe 37 17 = some (.getfield 9, 3, 2, some .int) := fe_of pg_37 rfl
set_option maxRecDepth 100000 in
theorem f_37_20 : fe 37 20 = some (.iload_n 1, 1, 2, some .int) := fe_of pg_37 rfl
set_option maxRecDepth 100000 in
theorem f_37_21 : fe 37 21 = some (.iaload, 1, 2, some .int) := fe_of pg_37 rfl
set_option maxRecDepth 100000 in
theorem f_37_22 : fe 37 22 = some (.if_icmp .le 5, 3, 2, some .int) := fe_of pg_37 rfl
set_option maxRecDepth 100000 in
theorem f_37_25 : fe 37 25 = some (.iload_n 2, 1, 2, some .int) := fe_of pg_37 rfl
set_option maxRecDepth 100000 in
theorem f_37_26 : fe 37 26 = some (.istore_n 1, 1, 2, some .int) := fe_of pg_37 rfl
set_option maxRecDepth 100000 in
theorem f_37_27 : fe 37 27 = some (.iinc 2 1, 3, 2, some .int) := fe_of pg_37 rfl
set_option maxRecDepth 100000 in
theorem f_37_30 : fe 37 30 = some (.goto (-26), 3, 2, some .int) := fe_of pg_37 rfl
set_option maxRecDepth 100000 in
theorem f_37_33 : fe 37 33 = some (.iload_n 1, 1, 2, some .int) := fe_of pg_37 rfl
set_option maxRecDepth 100000 in
theorem f_37_34 : fe 37 34 = some (.ireturn, 1, 2, some .int) := fe_of pg_37 rfl
set_option maxRecDepth 100000 in
theorem f_38_0 : fe 38 0 = some (.iconst 1, 1, 2, some .int) := fe_of pg_38 rfl
set_option maxRecDepth 100000 in
theorem f_38_1 : fe 38 1 = some (.istore_n 1, 1, 2, some .int) := fe_of pg_38 rfl
set_option maxRecDepth 100000 in
theorem f_38_2 : fe 38 2 = some (.iload_n 1, 1, 2, some .int) := fe_of pg_38 rfl
set_option maxRecDepth 100000 in
theorem f_38_3 : fe 38 3 = some (.bipush 24, 2, 2, some .int) := fe_of pg_38 rfl
set_option maxRecDepth 100000 in
theorem f_38_5 : fe 38 5 = some (.if_icmp .gt 19, 3, 2, some .int) := fe_of pg_38 rfl
set_option maxRecDepth 100000 in
theorem f_38_8 : fe 38 8 = some (.aload_n 0, 1, 2, some .int) := fe_of pg_38 rfl
set_option maxRecDepth 100000 in
theorem f_38_9 : fe 38 9 = some (.iload_n 1, 1, 2, some .int) := fe_of pg_38 rfl
set_option maxRecDepth 100000 in
theorem f_38_10 : fe 38 10 = some (.invokevirtual 61, 3, 2, some .int) := fe_of pg_38 rfl
set_option maxRecDepth 100000 in
theorem f_38_13 : fe 38 13 = some (.ifCond .eq 5, 3, 2, some .int) := fe_of pg_38 rfl
set_option maxRecDepth 100000 in
theorem f_38_16 : fe 38 16 = some (.iload_n 1, 1, 2, some .int) := fe_of pg_38 rfl
set_option maxRecDepth 100000 in
theorem f_38_17 : fe 38 17 = some (.ireturn, 1, 2, some .int) := fe_of pg_38 rfl
set_option maxRecDepth 100000 in
theorem f_38_18 : fe 38 18 = some (.iinc 1 1, 3, 2, some .int) := fe_of pg_38 rfl
set_option maxRecDepth 100000 in
theorem f_38_21 : fe 38 21 = some (.goto (-19), 3, 2, some .int) := fe_of pg_38 rfl
set_option maxRecDepth 100000 in
theorem f_38_24 : fe 38 24 = some (.iconst (-1), 1, 2, some .int) := fe_of pg_38 rfl
set_option maxRecDepth 100000 in
theorem f_38_25 : fe 38 25 = some (.ireturn, 1, 2, some .int) := fe_of pg_38 rfl
set_option maxRecDepth 100000 in
theorem f_39_0 : fe 39 0 = some (.iconst 0, 1, 2, some .boolean) := fe_of pg_39 rfl
set_option maxRecDepth 100000 in
theorem f_39_1 : fe 39 1 = some (.istore_n 2, 1, 2, some .boolean) := fe_of pg_39 rfl
set_option maxRecDepth 100000 in
theorem f_39_2 : fe 39 2 = some (.iload_n 2, 1, 2, some .boolean) := fe_of pg_39 rfl
set_option maxRecDepth 100000 in
theorem f_39_3 : fe 39 3 = some (.bipush 24, 2, 2, some .boolean) := fe_of pg_39 rfl
set_option maxRecDepth 100000 in
theorem f_39_5 : fe 39 5 = some (.iload_n 1, 1, 2, some .boolean) := fe_of pg_39 rfl
set_option maxRecDepth 100000 in
theorem f_39_6 : fe 39 6 = some (.isub, 1, 2, some .boolean) := fe_of pg_39 rfl
set_option maxRecDepth 100000 in
theorem f_39_7 : fe 39 7 = some (.if_icmp .gt 26, 3, 2, some .boolean) := fe_of pg_39 rfl
set_option maxRecDepth 100000 in
theorem f_39_10 : fe 39 10 = some (.aload_n 0, 1, 2, some .boolean) := fe_of pg_39 rfl
set_option maxRecDepth 100000 in
theorem f_39_11 : fe 39 11 = some (.iload_n 2, 1, 2, some .boolean) := fe_of pg_39 rfl
set_option maxRecDepth 100000 in
theorem f_39_12 : fe 39 12 = some (.iload_n 2, 1, 2, some .boolean) := fe_of pg_39 rfl
set_option maxRecDepth 100000 in
theorem f_39_13 : fe 39 13 = some (.iload_n 1, 1, 2, some .boolean) := fe_of pg_39 rfl
set_option maxRecDepth 100000 in
theorem f_39_14 : fe 39 14 = some (.iadd, 1, 2, some .boolean) := fe_of pg_39 rfl
set_option maxRecDepth 100000 in
theorem f_39_15 : fe 39 15 = some (.invokevirtual 49, 3, 2, some .boolean) := fe_of pg_39 rfl
set_option maxRecDepth 100000 in
theorem f_39_18 : fe 39 18 = some (.aload_n 0, 1, 2, some .boolean) := fe_of pg_39 rfl
set_option maxRecDepth 100000 in
theorem f_39_19 : fe 39 19 = some (.getfield 27, 3, 2, some .boolean) := fe_of pg_39 rfl
set_option maxRecDepth 100000 in
theorem f_39_22 : fe 39 22 = some (.if_icmp .ge 5, 3, 2, some .boolean) := fe_of pg_39 rfl
set_option maxRecDepth 100000 in
theorem f_39_25 : fe 39 25 = some (.iconst 0, 1, 2, some .boolean) := fe_of pg_39 rfl
set_option maxRecDepth 100000 in
theorem f_39_26 : fe 39 26 = some (.ireturn, 1, 2, some .boolean) := fe_of pg_39 rfl
set_option maxRecDepth 100000 in
theorem f_39_27 : fe 39 27 = some (.iinc 2 1, 3, 2, some .boolean) := fe_of pg_39 rfl
set_option maxRecDepth 100000 in
theorem f_39_30 : fe 39 30 = some (.goto (-28), 3, 2, some .boolean) := fe_of pg_39 rfl
set_option maxRecDepth 100000 in
theorem f_39_33 : fe 39 33 = some (.iconst 1, 1, 2, some .boolean) := fe_of pg_39 rfl
set_option maxRecDepth 100000 in
theorem f_39_34 : fe 39 34 = some (.ireturn, 1, 2, some .boolean) := fe_of pg_39 rfl
set_option maxRecDepth 100000 in
theorem f_40_0 : fe 40 0 = some (.iconst 0, 1, 2, some .int) := fe_of pg_40 rfl
set_option maxRecDepth 100000 in
theorem f_40_1 : fe 40 1 = some (.istore_n 1, 1, 2, some .int) := fe_of pg_40 rfl
set_option maxRecDepth 100000 in
theorem f_40_2 : fe 40 2 = some (.iconst 0, 1, 2, some .int) := fe_of pg_40 rfl
set_option maxRecDepth 100000 in
theorem f_40_3 : fe 40 3 = some (.istore_n 2, 1, 2, some .int) := fe_of pg_40 rfl
set_option maxRecDepth 100000 in
theorem f_40_4 : fe 40 4 = some (.iconst 0, 1, 2, some .int) := fe_of pg_40 rfl
set_option maxRecDepth 100000 in
theorem f_40_5 : fe 40 5 = some (.istore_n 3, 1, 2, some .int) := fe_of pg_40 rfl
set_option maxRecDepth 100000 in
theorem f_40_6 : fe 40 6 = some (.iload_n 3, 1, 2, some .int) := fe_of pg_40 rfl
set_option maxRecDepth 100000 in
theorem f_40_7 : fe 40 7 = some (.bipush 24, 2, 2, some .int) := fe_of pg_40 rfl
set_option maxRecDepth 100000 in
theorem f_40_9 : fe 40 9 = some (.if_icmp .ge 32, 3, 2, some .int) := fe_of pg_40 rfl
set_option maxRecDepth 100000 in
theorem f_40_12 : fe 40 12 = some (.aload_n 0, 1, 2, some .int) := fe_of pg_40 rfl
set_option maxRecDepth 100000 in
theorem f_40_13 : fe 40 13 = some (.getfield 9, 3, 2, some .int) := fe_of pg_40 rfl
set_option maxRecDepth 100000 in
theorem f_40_16 : fe 40 16 = some (.iload_n 3, 1, 2, some .int) := fe_of pg_40 rfl
set_option maxRecDepth 100000 in
theorem f_40_17 : fe 40 17 = some (.iaload, 1, 2, some .int) := fe_of pg_40 rfl
set_option maxRecDepth 100000 in
theorem f_40_18 : fe 40 18 = some (.ifCond .ne 9, 3, 2, some .int) := fe_of pg_40 rfl
set_option maxRecDepth 100000 in
theorem f_40_21 : fe 40 21 = some (.iload_n 2, 1, 2, some .int) := fe_of pg_40 rfl
set_option maxRecDepth 100000 in
theorem f_40_22 : fe 40 22 = some (.iconst 1, 1, 2, some .int) := fe_of pg_40 rfl
set_option maxRecDepth 100000 in
theorem f_40_23 : fe 40 23 = some (.iadd, 1, 2, some .int) := fe_of pg_40 rfl
set_option maxRecDepth 100000 in
theorem f_40_24 : fe 40 24 = some (.goto 4, 3, 2, some .int) := fe_of pg_40 rfl
set_option maxRecDepth 100000 in
theorem f_40_27 : fe 40 27 = some (.iconst 0, 1, 2, some .int) := fe_of pg_40 rfl
set_option maxRecDepth 100000 in
theorem f_40_28 : fe 40 28 = some (.istore_n 2, 1, 2, some .int) := fe_of pg_40 rfl
set_option maxRecDepth 100000 in
theorem f_40_29 : fe 40 29 = some (.iload_n 1, 1, 2, some .int) := fe_of pg_40 rfl
set_option maxRecDepth 100000 in
theorem f_40_30 : fe 40 30 = some (.iload_n 2, 1, 2, some .int) := fe_of pg_40 rfl
set_option maxRecDepth 100000 in
theorem f_40_31 : fe 40 31 = some (.invokestatic 56, 3, 2, some .int) := fe_of pg_40 rfl
set_option maxRecDepth 100000 in
theorem f_40_34 : fe 40 34 = some (.istore_n 1, 1, 2, some .int) := fe_of pg_40 rfl
set_option maxRecDepth 100000 in
theorem f_40_35 : fe 40 35 = some (.iinc 3 1, 3, 2, some .int) := fe_of pg_40 rfl
set_option maxRecDepth 100000 in
theorem f_40_38 : fe 40 38 = some (.goto (-32), 3, 2, some .int) := fe_of pg_40 rfl
set_option maxRecDepth 100000 in
theorem f_40_41 : fe 40 41 = some (.iload_n 1, 1, 2, some .int) := fe_of pg_40 rfl
set_option maxRecDepth 100000 in
theorem f_40_42 : fe 40 42 = some (.ireturn, 1, 2, some .int) := fe_of pg_40 rfl
set_option maxRecDepth 100000 in
theorem f_41_0 : fe 41 0 = some (.aload_n 0, 1, 2, some .int) := fe_of pg_41 rfl
set_option maxRecDepth 100000 in
theorem f_41_1 : fe 41 1 = some (.iconst 0, 1, 2, some .int) := fe_of pg_41 rfl
set_option maxRecDepth 100000 in
theorem f_41_2 : fe 41 2 = some (.bipush 24, 2, 2, some .int) := fe_of pg_41 rfl
set_option maxRecDepth 100000 in
theorem f_41_4 : fe 41 4 = some (.invokevirtual 49, 3, 2, some .int) := fe_of pg_41 rfl
set_option maxRecDepth 100000 in
theorem f_41_7 : fe 41 7 = some (.istore_n 1, 1, 2, some .int) := fe_of pg_41 rfl
set_option maxRecDepth 100000 in
theorem f_41_8 : fe 41 8 = some (.iconst 0, 1, 2, some .int) := fe_of pg_41 rfl
set_option maxRecDepth 100000 in
theorem f_41_9 : fe 41 9 = some (.istore_n 2, 1, 2, some .int) := fe_of pg_41 rfl
set_option maxRecDepth 100000 in
theorem f_41_10 : fe 41 10 = some (.iload_n 2, 1, 2, some .int) := fe_of pg_41 rfl
set_option maxRecDepth 100000 in
theorem f_41_11 : fe 41 11 = some (.bipush 24, 2, 2, some .int) := fe_of pg_41 rfl
set_option maxRecDepth 100000 in
theorem f_41_13 : fe 41 13 = some (.if_icmp .ge 25, 3, 2, some .int) := fe_of pg_41 rfl
set_option maxRecDepth 100000 in
theorem f_41_16 : fe 41 16 = some (.iconst 2, 1, 2, some .int) := fe_of pg_41 rfl
set_option maxRecDepth 100000 in
theorem f_41_17 : fe 41 17 = some (.aload_n 0, 1, 2, some .int) := fe_of pg_41 rfl
set_option maxRecDepth 100000 in
theorem f_41_18 : fe 41 18 = some (.iconst 0, 1, 2, some .int) := fe_of pg_41 rfl
set_option maxRecDepth 100000 in
theorem f_41_19 : fe 41 19 = some (.iload_n 2, 1, 2, some .int) := fe_of pg_41 rfl
set_option maxRecDepth 100000 in
theorem f_41_20 : fe 41 20 = some (.iconst 1, 1, 2, some .int) := fe_of pg_41 rfl
set_option maxRecDepth 100000 in
theorem f_41_21 : fe 41 21 = some (.iadd, 1, 2, some .int) := fe_of pg_41 rfl
set_option maxRecDepth 100000 in
theorem f_41_22 : fe 41 22 = some (.invokevirtual 49, 3, 2, some .int) := fe_of pg_41 rfl
set_option maxRecDepth 100000 in
theorem f_41_25 : fe 41 25 = some (.imul, 1, 2, some .int) := fe_of pg_41 rfl
set_option maxRecDepth 100000 in
theorem f_41_26 : fe 41 26 = some (.iload_n 1, 1, 2, some .int) := fe_of pg_41 rfl
set_option maxRecDepth 100000 in
theorem f_41_27 : fe 41 27 = some (.if_icmp .lt 5, 3, 2, some .int) := fe_of pg_41 rfl
set_option maxRecDepth 100000 in
theorem f_41_30 : fe 41 30 = some (.iload_n 2, 1, 2, some .int) := fe_of pg_41 rfl
set_option maxRecDepth 100000 in
theorem f_41_31 : fe 41 31 = some (.ireturn, 1, 2, some .int) := fe_of pg_41 rfl
set_option maxRecDepth 100000 in
theorem f_41_32 : fe 41 32 = some (.iinc 2 1, 3, 2, some .int) := fe_of pg_41 rfl
set_option maxRecDepth 100000 in
theorem f_41_35 : fe 41 35 = some (.goto (-25), 3, 2, some .int) := fe_of pg_41 rfl
set_option maxRecDepth 100000 in
theorem f_41_38 : fe 41 38 = some (.iconst (-1), 1, 2, some .int) := fe_of pg_41 rfl
set_option maxRecDepth 100000 in
theorem f_41_39 : fe 41 39 = some (.ireturn, 1, 2, some .int) := fe_of pg_41 rfl
set_option maxRecDepth 100000 in
theorem f_42_0 : fe 42 0 = some (.aload_n 0, 1, 2, none) := fe_of pg_42 rfl
set_option maxRecDepth 100000 in
theorem f_42_1 : fe 42 1 = some (.getfield 15, 3, 2, none) := fe_of pg_42 rfl
set_option maxRecDepth 100000 in
theorem f_42_4 : fe 42 4 = some (.bipush 24, 2, 2, none) := fe_of pg_42 rfl
set_option maxRecDepth 100000 in
theorem f_42_6 : fe 42 6 = some (.iconst 0, 1, 2, none) := fe_of pg_42 rfl
set_option maxRecDepth 100000 in
theorem f_42_7 : fe 42 7 = some (.iastore, 1, 2, none) := fe_of pg_42 rfl
set_option maxRecDepth 100000 in
theorem f_42_8 : fe 42 8 = some (.aload_n 0, 1, 2, none) := fe_of pg_42 rfl
set_option maxRecDepth 100000 in
theorem f_42_9 : fe 42 9 = some (.getfield 18, 3, 2, none) := fe_of pg_42 rfl
set_option maxRecDepth 100000 in
theorem f_42_12 : fe 42 12 = some (.bipush 24, 2, 2, none) := fe_of pg_42 rfl
set_option maxRecDepth 100000 in
theorem f_42_14 : fe 42 14 = some (.iconst 0, 1, 2, none) := fe_of pg_42 rfl
set_option maxRecDepth 100000 in
theorem f_42_15 : fe 42 15 = some (.iastore, 1, 2, none) := fe_of pg_42 rfl
set_option maxRecDepth 100000 in
theorem f_42_16 : fe 42 16 = some (.aload_n 0, 1, 2, none) := fe_of pg_42 rfl
set_option maxRecDepth 100000 in
theorem f_42_17 : fe 42 17 = some (.getfield 21, 3, 2, none) := fe_of pg_42 rfl
set_option maxRecDepth 100000 in
theorem f_42_20 : fe 42 20 = some (.bipush 24, 2, 2, none) := fe_of pg_42 rfl
set_option maxRecDepth 100000 in
theorem f_42_22 : fe 42 22 = some (.iconst (-1), 1, 2, none) := fe_of pg_42 rfl
set_option maxRecDepth 100000 in
theorem f_42_23 : fe 42 23 = some (.iastore, 1, 2, none) := fe_of pg_42 rfl
set_option maxRecDepth 100000 in
theorem f_42_24 : fe 42 24 = some (.bipush 23, 2, 2, none) := fe_of pg_42 rfl
set_option maxRecDepth 100000 in
theorem f_42_26 : fe 42 26 = some (.istore_n 1, 1, 2, none) := fe_of pg_42 rfl
set_option maxRecDepth 100000 in
theorem f_42_27 : fe 42 27 = some (.iload_n 1, 1, 2, none) := fe_of pg_42 rfl
set_option maxRecDepth 100000 in
theorem f_42_28 : fe 42 28 = some (.ifCond .lt 14, 3, 2, none) := fe_of pg_42 rfl
set_option maxRecDepth 100000 in
theorem f_42_31 : fe 42 31 = some (.aload_n 0, 1, 2, none) := fe_of pg_42 rfl
set_option maxRecDepth 100000 in
theorem f_42_32 : fe 42 32 = some (.iload_n 1, 1, 2, none) := fe_of pg_42 rfl
set_option maxRecDepth 100000 in
theorem f_42_33 : fe 42 33 = some (.invokevirtual 65, 3, 2, none) := fe_of pg_42 rfl
set_option maxRecDepth 100000 in
theorem f_42_36 : fe 42 36 = some (.iinc 1 (-1), 3, 2, none) := fe_of pg_42 rfl
set_option maxRecDepth 100000 in
theorem f_42_39 : fe 42 39 = some (.goto (-12), 3, 2, none) := fe_of pg_42 rfl
set_option maxRecDepth 100000 in
theorem f_42_42 : fe 42 42 = some (.return_, 1, 2, none) := fe_of pg_42 rfl
set_option maxRecDepth 100000 in
theorem f_43_0 : fe 43 0 = some (.aload_n 0, 1, 2, none) := fe_of pg_43 rfl
set_option maxRecDepth 100000 in
theorem f_43_1 : fe 43 1 = some (.getfield 15, 3, 2, none) := fe_of pg_43 rfl
set_option maxRecDepth 100000 in
theorem f_43_4 : fe 43 4 = some (.iload_n 1, 1, 2, none) := fe_of pg_43 rfl
set_option maxRecDepth 100000 in
theorem f_43_5 : fe 43 5 = some (.iconst 0, 1, 2, none) := fe_of pg_43 rfl
set_option maxRecDepth 100000 in
theorem f_43_6 : fe 43 6 = some (.iastore, 1, 2, none) := fe_of pg_43 rfl
set_option maxRecDepth 100000 in
theorem f_43_7 : fe 43 7 = some (.aload_n 0, 1, 2, none) := fe_of pg_43 rfl
set_option maxRecDepth 100000 in
theorem f_43_8 : fe 43 8 = some (.getfield 21, 3, 2, none) := fe_of pg_43 rfl
set_option maxRecDepth 100000 in
theorem f_43_11 : fe 43 11 = some (.iload_n 1, 1, 2, none) := fe_of pg_43 rfl
set_option maxRecDepth 100000 in
theorem f_43_12 : fe 43 12 = some (.iconst (-1), 1, 2, none) := fe_of pg_43 rfl
set_option maxRecDepth 100000 in
theorem f_43_13 : fe 43 13 = some (.iastore, 1, 2, none) := fe_of pg_43 rfl
set_option maxRecDepth 100000 in
theorem f_43_14 : fe 43 14 = some (.iconst 0, 1, 2, none) := fe_of pg_43 rfl
set_option maxRecDepth 100000 in
theorem f_43_15 : fe 43 15 = some (.istore_n 2, 1, 2, none) := fe_of pg_43 rfl
set_option maxRecDepth 100000 in
theorem f_43_16 : fe 43 16 = some (.iconst 0, 1, 2, none) := fe_of pg_43 rfl
set_option maxRecDepth 100000 in
theorem f_43_17 : fe 43 17 = some (.istore_n 3, 1, 2, none) := fe_of pg_43 rfl
set_option maxRecDepth 100000 in
theorem f_43_18 : fe 43 18 = some (.iload_n 1, 1, 2, none) := fe_of pg_43 rfl
set_option maxRecDepth 100000 in
theorem f_43_19 : fe 43 19 = some (.istore 4, 2, 2, none) := fe_of pg_43 rfl
set_option maxRecDepth 100000 in
theorem f_43_21 : fe 43 21 = some (.iload 4, 2, 2, none) := fe_of pg_43 rfl
set_option maxRecDepth 100000 in
theorem f_43_23 : fe 43 23 = some (.bipush 24, 2, 2, none) := fe_of pg_43 rfl
set_option maxRecDepth 100000 in
theorem f_43_25 : fe 43 25 = some (.if_icmp .ge 103, 3, 2, none) := fe_of pg_43 rfl
set_option maxRecDepth 100000 in
theorem f_43_28 : fe 43 28 = some (.iload_n 3, 1, 2, none) := fe_of pg_43 rfl
set_option maxRecDepth 100000 in
theorem f_43_29 : fe 43 29 = some (.iload_n 2, 1, 2, none) := fe_of pg_43 rfl
set_option maxRecDepth 100000 in
theorem f_43_30 : fe 43 30 = some (.iadd, 1, 2, none) := fe_of pg_43 rfl
set_option maxRecDepth 100000 in
theorem f_43_31 : fe 43 31 = some (.istore_n 3, 1, 2, none) := fe_of pg_43 rfl
set_option maxRecDepth 100000 in
theorem f_43_32 : fe 43 32 = some (.iload_n 2, 1, 2, none) := fe_of pg_43 rfl
set_option maxRecDepth 100000 in
theorem f_43_33 : fe 43 33 = some (.aload_n 0, 1, 2, none) := fe_of pg_43 rfl
set_option maxRecDepth 100000 in
theorem f_43_34 : fe 43 34 = some (.getfield 9, 3, 2, none) := fe_of pg_43 rfl
set_option maxRecDepth 100000 in
theorem f_43_37 : fe 43 37 = some (.iload 4, 2, 2, none) := fe_of pg_43 rfl
set_option maxRecDepth 100000 in
theorem f_43_39 : fe 43 39 = some (.iaload, 1, 2, none) := fe_of pg_43 rfl
set_option maxRecDepth 100000 in
theorem f_43_40 : fe 43 40 = some (.iadd, 1, 2, none) := fe_of pg_43 rfl
set_option maxRecDepth 100000 in
theorem f_43_41 : fe 43 41 = some (.istore_n 2, 1, 2, none) := fe_of pg_43 rfl
set_option maxRecDepth 100000 in
theorem f_43_42 : fe 43 42 = some (.iload_n 2, 1, 2, none) := fe_of pg_43 rfl
set_option maxRecDepth 100000 in
theorem f_43_43 : fe 43 43 = some (.aload_n 0, 1, 2, none) := fe_of pg_43 rfl
set_option maxRecDepth 100000 in
theorem f_43_44 : fe 43 44 = some (.getfield 27, 3, 2, none) := fe_of pg_43 rfl
set_option maxRecDepth 100000 in
theorem f_43_47 : fe 43 47 = some (.if_icmp .lt 75, 3, 2, none) := fe_of pg_43 rfl
set_option maxRecDepth 100000 in
theorem f_43_50 : fe 43 50 = some (.aload_n 0, 1, 2, none) := fe_of pg_43 rfl
set_option maxRecDepth 100000 in
theorem f_43_51 : fe 43 51 = some (.iload_n 1, 1, 2, none) := fe_of pg_43 rfl
set_option maxRecDepth 100000 in
theorem f_43_52 : fe 43 52 = some (.iconst 1, 1, 2, none) := fe_of pg_43 rfl
set_option maxRecDepth 100000 in
theorem f_43_53 : fe 43 53 = some (.aload_n 0, 1, 2, none) := fe_of pg_43 rfl
set_option maxRecDepth 100000 in
theorem f_43_54 : fe 43 54 = some (.getfield 15, 3, 2, none) := fe_of pg_43 rfl
set_option maxRecDepth 100000 in
theorem f_43_57 : fe 43 57 = some (.iload 4, 2, 2, none) := fe_of pg_43 rfl
set_option maxRecDepth 100000 in
theorem f_43_59 : fe 43 59 = some (.iconst 1, 1, 2, none) := fe_of pg_43 rfl
set_option maxRecDepth 100000 in
theorem f_43_60 : fe 43 60 = some (.iadd, 1, 2, none) := fe_of pg_43 rfl
set_option maxRecDepth 100000 in
theorem f_43_61 : fe 43 61 = some (.iaload, 1, 2, none) := fe_of pg_43 rfl
set_option maxRecDepth 100000 in
theorem f_43_62 : fe 43 62 = some (.iadd, 1, 2, none) := fe_of pg_43 rfl
set_option maxRecDepth 100000 in
theorem f_43_63 : fe 43 63 = some (.iload_n 3, 1, 2, none) := fe_of pg_43 rfl
set_option maxRecDepth 100000 in
theorem f_43_64 : fe 43 64 = some (.aload_n 0, 1, 2, none) := fe_of pg_43 rfl
set_option maxRecDepth 100000 in
theorem f_43_65 : fe 43 65 = some (.getfield 18, 3, 2, none) := fe_of pg_43 rfl
set_option maxRecDepth 100000 in
theorem f_43_68 : fe 43 68 = some (.iload 4, 2, 2, none) := fe_of pg_43 rfl
set_option maxRecDepth 100000 in
theorem f_43_70 : fe 43 70 = some (.iconst 1, 1, 2, none) := fe_of pg_43 rfl
set_option maxRecDepth 100000 in
theorem f_43_71 : fe 43 71 = some (.iadd, 1, 2, none) := fe_of pg_43 rfl
set_option maxRecDepth 100000 in
theorem f_43_72 : fe 43 72 = some (.iaload, 1, 2, none) := fe_of pg_43 rfl
set_option maxRecDepth 100000 in
theorem f_43_73 : fe 43 73 = some (.iadd, 1, 2, none) := fe_of pg_43 rfl
set_option maxRecDepth 100000 in
theorem f_43_74 : fe 43 74 = some (.invokevirtual 69, 3, 2, none) := fe_of pg_43 rfl
set_option maxRecDepth 100000 in
theorem f_43_77 : fe 43 77 = some (.ifCond .eq 45, 3, 2, none) := fe_of pg_43 rfl
set_option maxRecDepth 100000 in
theorem f_43_80 : fe 43 80 = some (.aload_n 0, 1, 2, none) := fe_of pg_43 rfl
set_option maxRecDepth 100000 in
theorem f_43_81 : fe 43 81 = some (.getfield 15, 3, 2, none) := fe_of pg_43 rfl
set_option maxRecDepth 100000 in
theorem f_43_84 : fe 43 84 = some (.iload_n 1, 1, 2, none) := fe_of pg_43 rfl
set_option maxRecDepth 100000 in
theorem f_43_85 : fe 43 85 = some (.iconst 1, 1, 2, none) := fe_of pg_43 rfl
set_option maxRecDepth 100000 in
theorem f_43_86 : fe 43 86 = some (.aload_n 0, 1, 2, none) := fe_of pg_43 rfl
set_option maxRecDepth 100000 in
theorem f_43_87 : fe 43 87 = some (.getfield 15, 3, 2, none) := fe_of pg_43 rfl
set_option maxRecDepth 100000 in
theorem f_43_90 : fe 43 90 = some (.iload 4, 2, 2, none) := fe_of pg_43 rfl
set_option maxRecDepth 100000 in
theorem f_43_92 : fe 43 92 = some (.iconst 1, 1, 2, none) := fe_of pg_43 rfl
set_option maxRecDepth 100000 in
theorem f_43_93 : fe 43 93 = some (.iadd, 1, 2, none) := fe_of pg_43 rfl
set_option maxRecDepth 100000 in
theorem f_43_94 : fe 43 94 = some (.iaload, 1, 2, none) := fe_of pg_43 rfl
set_option maxRecDepth 100000 in
theorem f_43_95 : fe 43 95 = some (.iadd, 1, 2, none) := fe_of pg_43 rfl
set_option maxRecDepth 100000 in
theorem f_43_96 : fe 43 96 = some (.iastore, 1, 2, none) := fe_of pg_43 rfl
set_option maxRecDepth 100000 in
theorem f_43_97 : fe 43 97 = some (.aload_n 0, 1, 2, none) := fe_of pg_43 rfl
set_option maxRecDepth 100000 in
theorem f_43_98 : fe 43 98 = some (.getfield 18, 3, 2, none) := fe_of pg_43 rfl
set_option maxRecDepth 100000 in
theorem f_43_101 : fe 43 101 = some (.iload_n 1, 1, 2, none) := fe_of pg_43 rfl
set_option maxRecDepth 100000 in
theorem f_43_102 : fe 43 102 = some (.iload_n 3, 1, 2, none) := fe_of pg_43 rfl
set_option maxRecDepth 100000 in
theorem f_43_103 : fe 43 103 = some (.aload_n 0, 1, 2, none) := fe_of pg_43 rfl
set_option maxRecDepth 100000 in
theorem f_43_104 : fe 43 104 = some (.getfield 18, 3, 2, none) := fe_of pg_43 rfl
set_option maxRecDepth 100000 in
theorem f_43_107 : fe 43 107 = some (.iload 4, 2, 2, none) := fe_of pg_43 rfl
set_option maxRecDepth 100000 in
theorem f_43_109 : fe 43 109 = some (.iconst 1, 1, 2, none) := fe_of pg_43 rfl
set_option maxRecDepth 100000 in
theorem f_43_110 : fe 43 110 = some (.iadd, 1, 2, none) := fe_of pg_43 rfl
set_option maxRecDepth 100000 in
theorem f_43_111 : fe 43 111 = some (.iaload, 1, 2, none) := fe_of pg_43 rfl
set_option maxRecDepth 100000 in
theorem f_43_112 : fe 43 112 = some (.iadd, 1, 2, none) := fe_of pg_43 rfl
set_option maxRecDepth 100000 in
theorem f_43_113 : fe 43 113 = some (.iastore, 1, 2, none) := fe_of pg_43 rfl
set_option maxRecDepth 100000 in
theorem f_43_114 : fe 43 114 = some (.aload_n 0, 1, 2, none) := fe_of pg_43 rfl
set_option maxRecDepth 100000 in
theorem f_43_115 : fe 43 115 = some (.getfield 21, 3, 2, none) := fe_of pg_43 rfl
set_option maxRecDepth 100000 in
theorem f_43_118 : fe 43 118 = some (.iload_n 1, 1, 2, none) := fe_of pg_43 rfl
set_option maxRecDepth 100000 in
theorem f_43_119 : fe 43 119 = some (.iload 4, 2, 2, none) := fe_of pg_43 rfl
set_option maxRecDepth 100000 in
theorem f_43_121 : fe 43 121 = some (.iastore, 1, 2, none) := fe_of pg_43 rfl
set_option maxRecDepth 100000 in
theorem f_43_122 : fe 43 122 = some (.iinc 4 1, 3, 2, none) := fe_of pg_43 rfl
set_option maxRecDepth 100000 in
theorem f_43_125 : fe 43 125 = some (.goto (-104), 3, 2, none) := fe_of pg_43 rfl
set_option maxRecDepth 100000 in
theorem f_43_128 : fe 43 128 = some (.aload_n 0, 1, 2, none) := fe_of pg_43 rfl
set_option maxRecDepth 100000 in
theorem f_43_129 : fe 43 129 = some (.getfield 15, 3, 2, none) := fe_of pg_43 rfl
set_option maxRecDepth 100000 in
theorem f_43_132 : fe 43 132 = some (.iload_n 1, 1, 2, none) := fe_of pg_43 rfl
set_option maxRecDepth 100000 in
theorem f_43_133 : fe 43 133 = some (.iaload, 1, 2, none) := fe_of pg_43 rfl
set_option maxRecDepth 100000 in
theorem f_43_134 : fe 43 134 = some (.ifCond .ne 12, 3, 2, none) := fe_of pg_43 rfl
set_option maxRecDepth 100000 in
theorem f_43_137 : fe 43 137 = some (.aload_n 0, 1, 2, none) := fe_of pg_43 rfl
set_option maxRecDepth 100000 in
theorem f_43_138 : fe 43 138 = some (.getfield 18, 3, 2, none) := fe_of pg_43 rfl
set_option maxRecDepth 100000 in
theorem f_43_141 : fe 43 141 = some (.iload_n 1, 1, 2, none) := fe_of pg_43 rfl
set_option maxRecDepth 100000 in
theorem f_43_142 : fe 43 142 = some (.iload_n 3, 1, 2, none) := fe_of pg_43 rfl
set_option maxRecDepth 100000 in
theorem f_43_143 : fe 43 143 = some (.iload_n 2, 1, 2, none) := fe_of pg_43 rfl
set_option maxRecDepth 100000 in
theorem f_43_144 : fe 43 144 = some (.iadd, 1, 2, none) := fe_of pg_43 rfl
set_option maxRecDepth 100000 in
theorem f_43_145 : fe 43 145 = some (.iastore, 1, 2, none) := fe_of pg_43 rfl
set_option maxRecDepth 100000 in
theorem f_43_146 : fe 43 146 = some (.return_, 1, 2, none) := fe_of pg_43 rfl
set_option maxRecDepth 100000 in
theorem f_44_0 : fe 44 0 = some (.iload_n 2, 1, 2, some .boolean) := fe_of pg_44 rfl
set_option maxRecDepth 100000 in
theorem f_44_1 : fe 44 1 = some (.aload_n 0, 1, 2, some .boolean) := fe_of pg_44 rfl
set_option maxRecDepth 100000 in
theorem f_44_2 : fe 44 2 = some (.getfield 15, 3, 2, some .boolean) := fe_of pg_44 rfl
set_option maxRecDepth 100000 in
theorem f_44_5 : fe 44 5 = some (.iload_n 1, 1, 2, some .boolean) := fe_of pg_44 rfl
set_option maxRecDepth 100000 in
theorem f_44_6 : fe 44 6 = some (.iaload, 1, 2, some .boolean) := fe_of pg_44 rfl
set_option maxRecDepth 100000 in
theorem f_44_7 : fe 44 7 = some (.if_icmp .gt 23, 3, 2, some .boolean) := fe_of pg_44 rfl
set_option maxRecDepth 100000 in
theorem f_44_10 : fe 44 10 = some (.iload_n 2, 1, 2, some .boolean) := fe_of pg_44 rfl
set_option maxRecDepth 100000 in
theorem f_44_11 : fe 44 11 = some (.aload_n 0, 1, 2, some .boolean) := fe_of pg_44 rfl
set_option maxRecDepth 100000 in
theorem f_44_12 : fe 44 12 = some (.getfield 15, 3, 2, some .boolean) := fe_of pg_44 rfl
set_option maxRecDepth 100000 in
theorem f_44_15 : fe 44 15 = some (.iload_n 1, 1, 2, some .boolean) := fe_of pg_44 rfl
set_option maxRecDepth 100000 in
theorem f_44_16 : fe 44 16 = some (.iaload, 1, 2, some .boolean) := fe_of pg_44 rfl
set_option maxRecDepth 100000 in
theorem f_44_17 : fe 44 17 = some (.if_icmp .ne 17, 3, 2, some .boolean) := fe_of pg_44 rfl
set_option maxRecDepth 100000 in
theorem f_44_20 : fe 44 20 = some (.iload_n 3, 1, 2, some .boolean) := fe_of pg_44 rfl
set_option maxRecDepth 100000 in
theorem f_44_21 : fe 44 21 = some (.aload_n 0, 1, 2, some .boolean) := fe_of pg_44 rfl
set_option maxRecDepth 100000 in
theorem f_44_22 : fe 44 22 = some (.getfield 18, 3, 2, some .boolean) := fe_of pg_44 rfl
set_option maxRecDepth 100000 in
theorem f_44_25 : fe 44 25 = some (.iload_n 1, 1, 2, some .boolean) := fe_of pg_44 rfl
set_option maxRecDepth 100000 in
theorem f_44_26 : fe 44 26 = some (.iaload, 1, 2, some .boolean) := fe_of pg_44 rfl
set_option maxRecDepth 100000 in
theorem f_44_27 : fe 44 27 = some (.if_icmp .ge 7, 3, 2, some .boolean) := fe_of pg_44 rfl
set_option maxRecDepth 100000 in
theorem f_44_30 : fe 44 30 = some (.iconst 1, 1, 2, some .boolean) := fe_of pg_44 rfl
set_option maxRecDepth 100000 in
theorem f_44_31 : fe 44 31 = some (.goto 4, 3, 2, some .boolean) := fe_of pg_44 rfl
set_option maxRecDepth 100000 in
theorem f_44_34 : fe 44 34 = some (.iconst 0, 1, 2, some .boolean) := fe_of pg_44 rfl
set_option maxRecDepth 100000 in
theorem f_44_35 : fe 44 35 = some (.ireturn, 1, 2, some .boolean) := fe_of pg_44 rfl
set_option maxRecDepth 100000 in
theorem f_45_0 : fe 45 0 = some (.iload_n 1, 1, 2, some .int) := fe_of pg_45 rfl
set_option maxRecDepth 100000 in
theorem f_45_1 : fe 45 1 = some (.lookupswitch 41 #[(0, 27), (1, 34)], 27, 2, some .int) := fe_of pg_45 rfl
set_option maxRecDepth 100000 in
theorem f_45_28 : fe 45 28 = some (.aload_n 0, 1, 2, some .int) := fe_of pg_45 rfl
set_option maxRecDepth 100000 in
theorem f_45_29 : fe 45 29 = some (.getfield 15, 3, 2, some .int) := fe_of pg_45 rfl
set_option maxRecDepth 100000 in
theorem f_45_32 : fe 45 32 = some (.iconst 0, 1, 2, some .int) := fe_of pg_45 rfl
set_option maxRecDepth 100000 in
theorem f_45_33 : fe 45 33 = some (.iaload, 1, 2, some .int) := fe_of pg_45 rfl
set_option maxRecDepth 100000 in
theorem f_45_34 : fe 45 34 = some (.ireturn, 1, 2, some .int) := fe_of pg_45 rfl
set_option maxRecDepth 100000 in
theorem f_45_35 : fe 45 35 = some (.aload_n 0, 1, 2, some .int) := fe_of pg_45 rfl
set_option maxRecDepth 100000 in
theorem f_45_36 : fe 45 36 = some (.getfield 18, 3, 2, some .int) := fe_of pg_45 rfl
set_option maxRecDepth 100000 in
theorem f_45_39 : fe 45 39 = some (.iconst 0, 1, 2, some .int) := fe_of pg_45 rfl
set_option maxRecDepth 100000 in
theorem f_45_40 : fe 45 40 = some (.iaload, 1, 2, some .int) := fe_of pg_45 rfl
set_option maxRecDepth 100000 in
theorem f_45_41 : fe 45 41 = some (.ireturn, 1, 2, some .int) := fe_of pg_45 rfl
set_option maxRecDepth 100000 in
theorem f_45_42 : fe 45 42 = some (.iload_n 1, 1, 2, some .int) := fe_of pg_45 rfl
set_option maxRecDepth 100000 in
theorem f_45_43 : fe 45 43 = some (.bipush 10, 2, 2, some .int) := fe_of pg_45 rfl
set_option maxRecDepth 100000 in
theorem f_45_45 : fe 45 45 = some (.if_icmp .lt 20, 3, 2, some .int) := fe_of pg_45 rfl
set_option maxRecDepth 100000 in
theorem f_45_48 : fe 45 48 = some (.iload_n 1, 1, 2, some .int) := fe_of pg_45 rfl
set_option maxRecDepth 100000 in
theorem f_45_49 : fe 45 49 = some (.bipush 34, 2, 2, some .int) := fe_of pg_45 rfl
set_option maxRecDepth 100000 in
theorem f_45_51 : fe 45 51 = some (.if_icmp .ge 14, 3, 2, some .int) := fe_of pg_45 rfl
set_option maxRecDepth 100000 in
theorem f_45_54 : fe 45 54 = some (.aload_n 0, 1, 2, some .int) := fe_of pg_45 rfl
set_option maxRecDepth 100000 in
theorem f_45_55 : fe 45 55 = some (.iload_n 1, 1, 2, some .int) := fe_of pg_45 rfl
set_option maxRecDepth 100000 in
theorem f_45_56 : fe 45 56 = some (.bipush 10, 2, 2, some .int) := fe_of pg_45 rfl
set_option maxRecDepth 100000 in
theorem f_45_58 : fe 45 58 = some (.isub, 1, 2, some .int) := fe_of pg_45 rfl
set_option maxRecDepth 100000 in
theorem f_45_59 : fe 45 59 = some (.invokevirtual 73, 3, 2, some .int) := fe_of pg_45 rfl
set_option maxRecDepth 100000 in
theorem f_45_62 : fe 45 62 = some (.goto 4, 3, 2, some .int) := fe_of pg_45 rfl
set_option maxRecDepth 100000 in
theorem f_45_65 : fe 45 65 = some (.iconst (-1), 1, 2, some .int) := fe_of pg_45 rfl
set_option maxRecDepth 100000 in
theorem f_45_66 : fe 45 66 = some (.ireturn, 1, 2, some .int) := fe_of pg_45 rfl
set_option maxRecDepth 100000 in
theorem f_46_0 : fe 46 0 = some (.aload_n 0, 1, 2, some .int) := fe_of pg_46 rfl
set_option maxRecDepth 100000 in
theorem f_46_1 : fe 46 1 = some (.getfield 21, 3, 2, some .int) := fe_of pg_46 rfl
set_option maxRecDepth 100000 in
theorem f_46_4 : fe 46 4 = some (.iconst 0, 1, 2, some .int) := fe_of pg_46 rfl
set_option maxRecDepth 100000 in
theorem f_46_5 : fe 46 5 = some (.iaload, 1, 2, some .int) := fe_of pg_46 rfl
set_option maxRecDepth 100000 in
theorem f_46_6 : fe 46 6 = some (.istore_n 2, 1, 2, some .int) := fe_of pg_46 rfl
set_option maxRecDepth 100000 in
theorem f_46_7 : fe 46 7 = some (.iconst 0, 1, 2, some .int) := fe_of pg_46 rfl
set_option maxRecDepth 100000 in
theorem f_46_8 : fe 46 8 = some (.istore_n 3, 1, 2, some .int) := fe_of pg_46 rfl
set_option maxRecDepth 100000 in
theorem f_46_9 : fe 46 9 = some (.iload_n 3, 1, 2, some .int) := fe_of pg_46 rfl
set_option maxRecDepth 100000 in
theorem f_46_10 : fe 46 10 = some (.iload_n 1, 1, 2, some .int) := fe_of pg_46 rfl
set_option maxRecDepth 100000 in
theorem f_46_11 : fe 46 11 = some (.if_icmp .ge 28, 3, 2, some .int) := fe_of pg_46 rfl
set_option maxRecDepth 100000 in
theorem f_46_14 : fe 46 14 = some (.iload_n 2, 1, 2, some .int) := fe_of pg_46 rfl
set_option maxRecDepth 100000 in
theorem f_46_15 : fe 46 15 = some (.ifCond .lt 24, 3, 2, some .int) := fe_of pg_46 rfl
set_option maxRecDepth 100000 in
theorem f_46_18 : fe 46 18 = some (.iload_n 2, 1, 2, some .int) := fe_of pg_46 rfl
set_option maxRecDepth 100000 in
theorem f_46_19 : fe 46 19 = some (.bipush 24, 2, 2, some .int) := fe_of pg_46 rfl
set_option maxRecDepth 100000 in
theorem f_46_21 : fe 46 21 = some (.if_icmp .ge 18, 3, 2, some .int) := fe_of pg_46 rfl
set_option maxRecDepth 100000 in
theorem f_46_24 : fe 46 24 = some (.aload_n 0, 1, 2, some .int) := fe_of pg_46 rfl
set_option maxRecDepth 100000 in
theorem f_46_25 : fe 46 25 = some (.getfield 21, 3, 2, some .int) := fe_of pg_46 rfl
set_option maxRecDepth 100000 in
theorem f_46_28 : fe 46 28 = some (.iload_n 2, 1, 2, some .int) := fe_of pg_46 rfl
set_option maxRecDepth 100000 in
theorem f_46_29 : fe 46 29 = some (.iconst 1, 1, 2, some .int) := fe_of pg_46 rfl
set_option maxRecDepth 100000 in
theorem f_46_30 : fe 46 30 = some (.iadd, 1, 2, some .int) := fe_of pg_46 rfl
set_option maxRecDepth 100000 in
theorem f_46_31 : fe 46 31 = some (.iaload, 1, 2, some .int) := fe_of pg_46 rfl
set_option maxRecDepth 100000 in
theorem f_46_32 : fe 46 32 = some (.istore_n 2, 1, 2, some .int) := fe_of pg_46 rfl
set_option maxRecDepth 100000 in
theorem f_46_33 : fe 46 33 = some (.iinc 3 1, 3, 2, some .int) := fe_of pg_46 rfl
set_option maxRecDepth 100000 in
theorem f_46_36 : fe 46 36 = some (.goto (-27), 3, 2, some .int) := fe_of pg_46 rfl
set_option maxRecDepth 100000 in
theorem f_46_39 : fe 46 39 = some (.iload_n 2, 1, 2, some .int) := fe_of pg_46 rfl
set_option maxRecDepth 100000 in
theorem f_46_40 : fe 46 40 = some (.ireturn, 1, 2, some .int) := fe_of pg_46 rfl
set_option maxRecDepth 100000 in
theorem f_47_0 : fe 47 0 = some (.aload_n 0, 1, 3, none) := fe_of pg_47 rfl
set_option maxRecDepth 100000 in
theorem f_47_1 : fe 47 1 = some (.invokespecial 3, 3, 3, none) := fe_of pg_47 rfl
set_option maxRecDepth 100000 in
theorem f_47_4 : fe 47 4 = some (.aload_n 0, 1, 3, none) := fe_of pg_47 rfl
set_option maxRecDepth 100000 in
theorem f_47_5 : fe 47 5 = some (.iconst 4, 1, 3, none) := fe_of pg_47 rfl
set_option maxRecDepth 100000 in
theorem f_47_6 : fe 47 6 = some (.newarray .int, 2, 3, none) := fe_of pg_47 rfl
set_option maxRecDepth 100000 in
theorem f_47_8 : fe 47 8 = some (.putfield 9, 3, 3, none) := fe_of pg_47 rfl
set_option maxRecDepth 100000 in
theorem f_47_11 : fe 47 11 = some (.aload_n 0, 1, 3, none) := fe_of pg_47 rfl
set_option maxRecDepth 100000 in
theorem f_47_12 : fe 47 12 = some (.bipush 16, 2, 3, none) := fe_of pg_47 rfl
set_option maxRecDepth 100000 in
theorem f_47_14 : fe 47 14 = some (.newarray .int, 2, 3, none) := fe_of pg_47 rfl
set_option maxRecDepth 100000 in
theorem f_47_16 : fe 47 16 = some (.putfield 15, 3, 3, none) := fe_of pg_47 rfl
set_option maxRecDepth 100000 in
theorem f_47_19 : fe 47 19 = some (.aload_n 0, 1, 3, none) := fe_of pg_47 rfl
set_option maxRecDepth 100000 in
theorem f_47_20 : fe 47 20 = some (.sipush 592, 3, 3, none) := fe_of pg_47 rfl
set_option maxRecDepth 100000 in
theorem f_47_23 : fe 47 23 = some (.newarray .int, 2, 3, none) := fe_of pg_47 rfl
set_option maxRecDepth 100000 in
theorem f_47_25 : fe 47 25 = some (.putfield 18, 3, 3, none) := fe_of pg_47 rfl
set_option maxRecDepth 100000 in
theorem f_47_28 : fe 47 28 = some (.return_, 1, 3, none) := fe_of pg_47 rfl
set_option maxRecDepth 100000 in
theorem f_48_0 : fe 48 0 = some (.aload_n 0, 1, 3, none) := fe_of pg_48 rfl
set_option maxRecDepth 100000 in
theorem f_48_1 : fe 48 1 = some (.getfield 18, 3, 3, none) := fe_of pg_48 rfl
set_option maxRecDepth 100000 in
theorem f_48_4 : fe 48 4 = some (.iconst 0, 1, 3, none) := fe_of pg_48 rfl
set_option maxRecDepth 100000 in
theorem f_48_5 : fe 48 5 = some (.invokestatic 21, 3, 3, none) := fe_of pg_48 rfl
set_option maxRecDepth 100000 in
theorem f_48_8 : fe 48 8 = some (.aload_n 1, 1, 3, none) := fe_of pg_48 rfl
set_option maxRecDepth 100000 in
theorem f_48_9 : fe 48 9 = some (.getfield 25, 3, 3, none) := fe_of pg_48 rfl
set_option maxRecDepth 100000 in
theorem f_48_12 : fe 48 12 = some (.iconst (-1), 1, 3, none) := fe_of pg_48 rfl
set_option maxRecDepth 100000 in
theorem f_48_13 : fe 48 13 = some (.invokestatic 21, 3, 3, none) := fe_of pg_48 rfl
set_option maxRecDepth 100000 in
theorem f_48_16 : fe 48 16 = some (.aload_n 1, 1, 3, none) := fe_of pg_48 rfl
set_option maxRecDepth 100000 in
theorem f_48_17 : fe 48 17 = some (.getfield 30, 3, 3, none) := fe_of pg_48 rfl
set_option maxRecDepth 100000 in
theorem f_48_20 : fe 48 20 = some (.iconst (-1), 1, 3, none) := fe_of pg_48 rfl
set_option maxRecDepth 100000 in
theorem f_48_21 : fe 48 21 = some (.invokestatic 21, 3, 3, none) := fe_of pg_48 rfl
set_option maxRecDepth 100000 in
theorem f_48_24 : fe 48 24 = some (.aload_n 1, 1, 3, none) := fe_of pg_48 rfl
set_option maxRecDepth 100000 in
theorem f_48_25 : fe 48 25 = some (.iconst 0, 1, 3, none) := fe_of pg_48 rfl
set_option maxRecDepth 100000 in
theorem f_48_26 : fe 48 26 = some (.putfield 33, 3, 3, none) := fe_of pg_48 rfl
set_option maxRecDepth 100000 in
theorem f_48_29 : fe 48 29 = some (.iconst 1, 1, 3, none) := fe_of pg_48 rfl
set_option maxRecDepth 100000 in
theorem f_48_30 : fe 48 30 = some (.istore_n 2, 1, 3, none) := fe_of pg_48 rfl
set_option maxRecDepth 100000 in
theorem f_48_31 : fe 48 31 = some (.iconst 0, 1, 3, none) := fe_of pg_48 rfl
set_option maxRecDepth 100000 in
theorem f_48_32 : fe 48 32 = some (.istore_n 3, 1, 3, none) := fe_of pg_48 rfl
set_option maxRecDepth 100000 in
theorem f_48_33 : fe 48 33 = some (.iload_n 3, 1, 3, none) := fe_of pg_48 rfl
set_option maxRecDepth 100000 in
theorem f_48_34 : fe 48 34 = some (.aload_n 1, 1, 3, none) := fe_of pg_48 rfl
set_option maxRecDepth 100000 in
theorem f_48_35 : fe 48 35 = some (.getfield 37, 3, 3, none) := fe_of pg_48 rfl
set_option maxRecDepth 100000 in
theorem f_48_38 : fe 48 38 = some (.if_icmp .ge 14, 3, 3, none) := fe_of pg_48 rfl
set_option maxRecDepth 100000 in
theorem f_48_41 : fe 48 41 = some (.iload_n 2, 1, 3, none) := fe_of pg_48 rfl
set_option maxRecDepth 100000 in
theorem f_48_42 : fe 48 42 = some (.bipush 10, 2, 3, none) := fe_of pg_48 rfl
set_option maxRecDepth 100000 in
theorem f_48_44 : fe 48 44 = some (.imul, 1, 3, none) := fe_of pg_48 rfl
set_option maxRecDepth 100000 in
theorem f_48_45 : fe 48 45 = some (.istore_n 2, 1, 3, none) := fe_of pg_48 rfl
set_option maxRecDepth 100000 in
theorem f_48_46 : fe 48 46 = some (.iinc 3 1, 3, 3, none) := fe_of pg_48 rfl
set_option maxRecDepth 100000 in
theorem f_48_49 : fe 48 49 = some (.goto (-16), 3, 3, none) := fe_of pg_48 rfl
set_option maxRecDepth 100000 in
theorem f_48_52 : fe 48 52 = some (.iconst 0, 1, 3, none) := fe_of pg_48 rfl
set_option maxRecDepth 100000 in
theorem f_48_53 : fe 48 53 = some (.istore_n 3, 1, 3, none) := fe_of pg_48 rfl
set_option maxRecDepth 100000 in
theorem f_48_54 : fe 48 54 = some (.iload_n 3, 1, 3, none) := fe_of pg_48 rfl
set_option maxRecDepth 100000 in
theorem f_48_55 : fe 48 55 = some (.iload_n 2, 1, 3, none) := fe_of pg_48 rfl
set_option maxRecDepth 100000 in
theorem f_48_56 : fe 48 56 = some (.if_icmp .ge 31, 3, 3, none) := fe_of pg_48 rfl
set_option maxRecDepth 100000 in
theorem f_48_59 : fe 48 59 = some (.aload_n 0, 1, 3, none) := fe_of pg_48 rfl
set_option maxRecDepth 100000 in
theorem f_48_60 : fe 48 60 = some (.iload_n 3, 1, 3, none) := fe_of pg_48 rfl
set_option maxRecDepth 100000 in
theorem f_48_61 : fe 48 61 = some (.aload_n 1, 1, 3, none) := fe_of pg_48 rfl
set_option maxRecDepth 100000 in
theorem f_48_62 : fe 48 62 = some (.getfield 37, 3, 3, none) := fe_of pg_48 rfl
set_option maxRecDepth 100000 in
theorem f_48_65 : fe 48 65 = some (.invokevirtual 40, 3, 3, none) := fe_of pg_48 rfl
set_option maxRecDepth 100000 in
theorem f_48_68 : fe 48 68 = some (.aload_n 0, 1, 3, none) := fe_of pg_48 rfl
set_option maxRecDepth 100000 in
theorem f_48_69 : fe 48 69 = some (.aload_n 1, 1, 3, none) := fe_of pg_48 rfl
set_option maxRecDepth 100000 in
theorem f_48_70 : fe 48 70 = some (.invokevirtual 44, 3, 3, none) := fe_of pg_48 rfl
set_option maxRecDepth 100000 in
theorem f_48_73 : fe 48 73 = some (.ifCond .eq 8, 3, 3, none) := fe_of pg_48 rfl
set_option maxRecDepth 100000 in
theorem f_48_76 : fe 48 76 = some (.aload_n 0, 1, 3, none) := fe_of pg_48 rfl
set_option maxRecDepth 100000 in
theorem f_48_77 : fe 48 77 = some (.aload_n 1, 1, 3, none) := fe_of pg_48 rfl
set_option maxRecDepth 100000 in
theorem f_48_78 : fe 48 78 = some (.invokevirtual 48, 3, 3, none) := fe_of pg_48 rfl
set_option maxRecDepth 100000 in
theorem f_48_81 : fe 48 81 = some (.iinc 3 1, 3, 3, none) := fe_of pg_48 rfl
set_option maxRecDepth 100000 in
theorem f_48_84 : fe 48 84 = some (.goto (-30), 3, 3, none) := fe_of pg_48 rfl
set_option maxRecDepth 100000 in
theorem f_48_87 : fe 48 87 = some (.aload_n 1, 1, 3, none) := fe_of pg_48 rfl
set_option maxRecDepth 100000 in
theorem f_48_88 : fe 48 88 = some (.aload_n 0, 1, 3, none) := fe_of pg_48 rfl
set_option maxRecDepth 100000 in
theorem f_48_89 : fe 48 89 = some (.aload_n 1, 1, 3, none) := fe_of pg_48 rfl
set_option maxRecDepth 100000 in
theorem f_48_90 : fe 48 90 = some (.invokevirtual 52, 3, 3, none) := fe_of pg_48 rfl
set_option maxRecDepth 100000 in
theorem f_48_93 : fe 48 93 = some (.putfield 56, 3, 3, none) := fe_of pg_48 rfl
set_option maxRecDepth 100000 in
theorem f_48_96 : fe 48 96 = some (.aload_n 1, 1, 3, none) := fe_of pg_48 rfl
set_option maxRecDepth 100000 in
theorem f_48_97 : fe 48 97 = some (.iconst 1, 1, 3, none) := fe_of pg_48 rfl
set_option maxRecDepth 100000 in
theorem f_48_98 : fe 48 98 = some (.putfield 59, 3, 3, none) := fe_of pg_48 rfl
set_option maxRecDepth 100000 in
theorem f_48_101 : fe 48 101 = some (.return_, 1, 3, none) := fe_of pg_48 rfl
set_option maxRecDepth 100000 in
theorem f_49_0 : fe 49 0 = some (.iload_n 1, 1, 3, none) := fe_of pg_49 rfl
set_option maxRecDepth 100000 in
theorem f_49_1 : fe 49 1 = some (.istore_n 3, 1, 3, none) := fe_of pg_49 rfl
set_option maxRecDepth 100000 in
theorem f_49_2 : fe 49 2 = some (.iconst 0, 1, 3, none) := fe_of pg_49 rfl
set_option maxRecDepth 100000 in
theorem f_49_3 : fe 49 3 = some (.istore 4, 2, 3, none) := fe_of pg_49 rfl
set_option maxRecDepth 100000 in
theorem f_49_5 : fe 49 5 = some (.iload 4, 2, 3, none) := fe_of pg_49 rfl
set_option maxRecDepth 100000 in
theorem f_49_7 : fe 49 7 = some (.iload_n 2, 1, 3, none) := fe_of pg_49 rfl
set_option maxRecDepth 100000 in
theorem f_49_8 : fe 49 8 = some (.if_icmp .ge 31, 3, 3, none) := fe_of pg_49 rfl
set_option maxRecDepth 100000 in
theorem f_49_11 : fe 49 11 = some (.iload 4, 2, 3, none) := fe_of pg_49 rfl
set_option maxRecDepth 100000 in
theorem f_49_13 : fe 49 13 = some (.iconst 4, 1, 3, none) := fe_of pg_49 rfl
set_option maxRecDepth 100000 in
theorem f_49_14 : fe 49 14 = some (.if_icmp .ge 25, 3, 3, none) := fe_of pg_49 rfl
set_option maxRecDepth 100000 in
theorem f_49_17 : fe 49 17 = some (.aload_n 0, 1, 3, none) := fe_of pg_49 rfl
set_option maxRecDepth 100000 in
theorem f_49_18 : fe 49 18 = some (.getfield 9, 3, 3, none) := fe_of pg_49 rfl
set_option maxRecDepth 100000 in
theorem f_49_21 : fe 49 21 = some (.iload 4, 2, 3, none) := fe_of pg_49 rfl
set_option maxRecDepth 100000 in
theorem f_49_23 : fe 49 23 = some (.iload_n 3, 1, 3, none) := fe_of pg_49 rfl
set_option maxRecDepth 100000 in
theorem f_49_24 : fe 49 24 = some (.bipush 10, 2, 3, none) := fe_of pg_49 rfl
set_option maxRecDepth 100000 in
theorem f_49_26 : fe 49 26 = some (.irem, 1, 3, none) := fe_of pg_49 rfl
set_option maxRecDepth 100000 in
theorem f_49_27 : fe 49 27 = some (.iastore, 1, 3, none) := fe_of pg_49 rfl
set_option maxRecDepth 100000 in
theorem f_49_28 : fe 49 28 = some (.iload_n 3, 1, 3, none) := fe_of pg_49 rfl
set_option maxRecDepth 100000 in
theorem f_49_29 : fe 49 29 = some (.bipush 10, 2, 3, none) := fe_of pg_49 rfl
set_option maxRecDepth 100000 in
theorem f_49_31 : fe 49 31 = some (.idiv, 1, 3, none) := fe_of pg_49 rfl
set_option maxRecDepth 100000 in
theorem f_49_32 : fe 49 32 = some (.istore_n 3, 1, 3, none) := fe_of pg_49 rfl
set_option maxRecDepth 100000 in
theorem f_49_33 : fe 49 33 = some (.iinc 4 1, 3, 3, none) := fe_of pg_49 rfl
set_option maxRecDepth 100000 in
theorem f_49_36 : fe 49 36 = some (.goto (-31), 3, 3, none) := fe_of pg_49 rfl
set_option maxRecDepth 100000 in
theorem f_49_39 : fe 49 39 = some (.aload_n 0, 1, 3, none) := fe_of pg_49 rfl
set_option maxRecDepth 100000 in
theorem f_49_40 : fe 49 40 = some (.getfield 15, 3, 3, none) := fe_of pg_49 rfl
set_option maxRecDepth 100000 in
theorem f_49_43 : fe 49 43 = some (.iconst 0, 1, 3, none) := fe_of pg_49 rfl
set_option maxRecDepth 100000 in
theorem f_49_44 : fe 49 44 = some (.iconst 0, 1, 3, none) := fe_of pg_49 rfl
set_option maxRecDepth 100000 in
theorem f_49_45 : fe 49 45 = some (.iastore, 1, 3, none) := fe_of pg_49 rfl
set_option maxRecDepth 100000 in
theorem f_49_46 : fe 49 46 = some (.iconst 1, 1, 3, none) := fe_of pg_49 rfl
set_option maxRecDepth 100000 in
theorem f_49_47 : fe 49 47 = some (.istore 4, 2, 3, none) := fe_of pg_49 rfl
set_option maxRecDepth 100000 in
theorem f_49_49 : fe 49 49 = some (.iload 4, 2, 3, none) := fe_of pg_49 rfl
set_option maxRecDepth 100000 in
theorem f_49_51 : fe 49 51 = some (.iconst 1, 1, 3, none) := fe_of pg_49 rfl
set_option maxRecDepth 100000 in
theorem f_49_52 : fe 49 52 = some (.iload_n 2, 1, 3, none) := fe_of pg_49 rfl
set_option maxRecDepth 100000 in
theorem f_49_53 : fe 49 53 = some (.ishl, 1, 3, none) := fe_of pg_49 rfl
set_option maxRecDepth 100000 in
theorem f_49_54 : fe 49 54 = some (.if_icmp .ge 46, 3, 3, none) := fe_of pg_49 rfl
set_option maxRecDepth 100000 in
theorem f_49_57 : fe 49 57 = some (.iload 4, 2, 3, none) := fe_of pg_49 rfl
set_option maxRecDepth 100000 in
theorem f_49_59 : fe 49 59 = some (.bipush 16, 2, 3, none) := fe_of pg_49 rfl
set_option maxRecDepth 100000 in
theorem f_49_61 : fe 49 61 = some (.if_icmp .ge 39, 3, 3, none) := fe_of pg_49 rfl
set_option maxRecDepth 100000 in
theorem f_49_64 : fe 49 64 = some (.aload_n 0, 1, 3, none) := fe_of pg_49 rfl
set_option maxRecDepth 100000 in
theorem f_49_65 : fe 49 65 = some (.getfield 15, 3, 3, none) := fe_of pg_49 rfl
set_option maxRecDepth 100000 in
theorem f_49_68 : fe 49 68 = some (.iload 4, 2, 3, none) := fe_of pg_49 rfl
set_option maxRecDepth 100000 in
theorem f_49_70 : fe 49 70 = some (.aload_n 0, 1, 3, none) := fe_of pg_49 rfl
set_option maxRecDepth 100000 in
theorem f_49_71 : fe 49 71 = some (.getfield 15, 3, 3, none) := fe_of pg_49 rfl
set_option maxRecDepth 100000 in
theorem f_49_74 : fe 49 74 = some (.iload 4, 2, 3, none) := fe_of pg_49 rfl
set_option maxRecDepth 100000 in
theorem f_49_76 : fe 49 76 = some (.iload 4, 2, 3, none) := fe_of pg_49 rfl
set_option maxRecDepth 100000 in
theorem f_49_78 : fe 49 78 = some (.iconst 1, 1, 3, none) := fe_of pg_49 rfl
set_option maxRecDepth 100000 in
theorem f_49_79 : fe 49 79 = some (.isub, 1, 3, none) := fe_of pg_49 rfl
set_option maxRecDepth 100000 in
theorem f_49_80 : fe 49 80 = some (.iand, 1, 3, none) := fe_of pg_49 rfl
set_option maxRecDepth 100000 in
theorem f_49_81 : fe 49 81 = some (.iaload, 1, 3, none) := fe_of pg_49 rfl
set_option maxRecDepth 100000 in
theorem f_49_82 : fe 49 82 = some (.aload_n 0, 1, 3, none) := fe_of pg_49 rfl
set_option maxRecDepth 100000 in
theorem f_49_83 : fe 49 83 = some (.getfield 9, 3, 3, none) := fe_of pg_49 rfl
set_option maxRecDepth 100000 in
theorem f_49_86 : fe 49 86 = some (.iload 4, 2, 3, none) := fe_of pg_49 rfl
set_option maxRecDepth 100000 in
theorem f_49_88 : fe 49 88 = some (.invokestatic 63, 3, 3, none) := fe_of pg_49 rfl
set_option maxRecDepth 100000 in
theorem f_49_91 : fe 49 91 = some (.iaload, 1, 3, none) := fe_of pg_49 rfl
set_option maxRecDepth 100000 in
theorem f_49_92 : fe 49 92 = some (.iadd, 1, 3, none) := fe_of pg_49 rfl
set_option maxRecDepth 100000 in
theorem f_49_93 : fe 49 93 = some (.iastore, 1, 3, none) := fe_of pg_49 rfl
set_option maxRecDepth 100000 in
theorem f_49_94 : fe 49 94 = some (.iinc 4 1, 3, 3, none) := fe_of pg_49 rfl
set_option maxRecDepth 100000 in
theorem f_49_97 : fe 49 97 = some (.goto (-48), 3, 3, none) := fe_of pg_49 rfl
set_option maxRecDepth 100000 in
theorem f_49_100 : fe 49 100 = some (.return_, 1, 3, none) := fe_of pg_49 rfl
set_option maxRecDepth 100000 in
theorem f_50_0 : fe 50 0 = some (.iconst 0, 1, 3, some .boolean) := fe_of pg_50 rfl
set_option maxRecDepth 100000 in
theorem f_50_1 : fe 50 1 = some (.istore_n 2, 1, 3, some .boolean) := fe_of pg_50 rfl
set_option maxRecDepth 100000 in
theorem f_50_2 : fe 50 2 = some (.iload_n 2, 1, 3, some .boolean) := fe_of pg_50 rfl
set_option maxRecDepth 100000 in
theorem f_50_3 : fe 50 3 = some (.aload_n 1, 1, 3, some .boolean) := fe_of pg_50 rfl
set_option maxRecDepth 100000 in
theorem f_50_4 : fe 50 4 = some (.getfield 69, 3, 3, some .boolean) := fe_of pg_50 rfl
set_option maxRecDepth 100000 in
theorem f_50_7 : fe 50 7 = some (.if_icmp .ge 56, 3, 3, some .boolean) := fe_of pg_50 rfl
set_option maxRecDepth 100000 in
theorem f_50_10 : fe 50 10 = some (.aload_n 0, 1, 3, some .boolean) := fe_of pg_50 rfl
set_option maxRecDepth 100000 in
theorem f_50_11 : fe 50 11 = some (.getfield 15, 3, 3, some .boolean) := fe_of pg_50 rfl
set_option maxRecDepth 100000 in
theorem f_50_14 : fe 50 14 = some (.aload_n 1, 1, 3, some .boolean) := fe_of pg_50 rfl
set_option maxRecDepth 100000 in
theorem f_50_15 : fe 50 15 = some (.getfield 72, 3, 3, some .boolean) := fe_of pg_50 rfl
set_option maxRecDepth 100000 in
theorem f_50_18 : fe 50 18 = some (.iload_n 2, 1, 3, some .boolean) := fe_of pg_50 rfl
set_option maxRecDepth 100000 in
theorem f_50_19 : fe 50 19 = some (.iaload, 1, 3, some .boolean) := fe_of pg_50 rfl
set_option maxRecDepth 100000 in
theorem f_50_20 : fe 50 20 = some (.iaload, 1, 3, some .boolean) := fe_of pg_50 rfl
set_option maxRecDepth 100000 in
theorem f_50_21 : fe 50 21 = some (.aload_n 1, 1, 3, some .boolean) := fe_of pg_50 rfl
set_option maxRecDepth 100000 in
theorem f_50_22 : fe 50 22 = some (.getfield 75, 3, 3, some .boolean) := fe_of pg_50 rfl
set_option maxRecDepth 100000 in
theorem f_50_25 : fe 50 25 = some (.iload_n 2, 1, 3, some .boolean) := fe_of pg_50 rfl
set_option maxRecDepth 100000 in
theorem f_50_26 : fe 50 26 = some (.iaload, 1, 3, some .boolean) := fe_of pg_50 rfl
set_option maxRecDepth 100000 in
theorem f_50_27 : fe 50 27 = some (.if_icmp .lt 7, 3, 3, some .boolean) := fe_of pg_50 rfl
set_option maxRecDepth 100000 in
theorem f_50_30 : fe 50 30 = some (.iconst 1, 1, 3, some .boolean) := fe_of pg_50 rfl
set_option maxRecDepth 100000 in
theorem f_50_31 : fe 50 31 = some (.goto 4, 3, 3, some .boolean) := fe_of pg_50 rfl
set_option maxRecDepth 100000 in
theorem f_50_34 : fe 50 34 = some (.iconst 0, 1, 3, some .boolean) := fe_of pg_50 rfl
set_option maxRecDepth 100000 in
theorem f_50_35 : fe 50 35 = some (.istore_n 3, 1, 3, some .boolean) := fe_of pg_50 rfl
set_option maxRecDepth 100000 in
theorem f_50_36 : fe 50 36 = some (.iload_n 3, 1, 3, some .boolean) := fe_of pg_50 rfl
set_option maxRecDepth 100000 in
theorem f_50_37 : fe 50 37 = some (.aload_n 1, 1, 3, some .boolean) := fe_of pg_50 rfl
set_option maxRecDepth 100000 in
theorem f_50_38 : fe 50 38 = some (.getfield 78, 3, 3, some .boolean) := fe_of pg_50 rfl
set_option maxRecDepth 100000 in
theorem f_50_41 : fe 50 41 = some (.iload_n 2, 1, 3, some .boolean) := fe_of pg_50 rfl
set_option maxRecDepth 100000 in
theorem f_50_42 : fe 50 42 = some (.iaload, 1, 3, some .boolean) := fe_of pg_50 rfl
set_option maxRecDepth 100000 in
theorem f_50_43 : fe 50 43 = some (.iconst 1, 1, 3, some .boolean) := fe_of pg_50 rfl
set_option maxRecDepth 100000 in
theorem f_50_44 : fe 50 44 = some (.if_icmp .ne 7, 3, 3, some .boolean) := fe_of pg_50 rfl
set_option maxRecDepth 100000 in
theorem f_50_47 : fe 50 47 = some (.iconst 1, 1, 3, some .boolean) := fe_of pg_50 rfl
set_option maxRecDepth 100000 in
theorem f_50_48 : fe 50 48 = some (.goto 4, 3, 3, some .boolean) := fe_of pg_50 rfl
set_option maxRecDepth 100000 in
theorem f_50_51 : fe 50 51 = some (.iconst 0, 1, 3, some .boolean) := fe_of pg_50 rfl
set_option maxRecDepth 100000 in
theorem f_50_52 : fe 50 52 = some (.if_icmp .eq 5, 3, 3, some .boolean) := fe_of pg_50 rfl
set_option maxRecDepth 100000 in
theorem f_50_55 : fe 50 55 = some (.iconst 0, 1, 3, some .boolean) := fe_of pg_50 rfl
set_option maxRecDepth 100000 in
theorem f_50_56 : fe 50 56 = some (.ireturn, 1, 3, some .boolean) := fe_of pg_50 rfl
set_option maxRecDepth 100000 in
theorem f_50_57 : fe 50 57 = some (.iinc 2 1, 3, 3, some .boolean) := fe_of pg_50 rfl
set_option maxRecDepth 100000 in
theorem f_50_60 : fe 50 60 = some (.goto (-58), 3, 3, some .boolean) := fe_of pg_50 rfl
set_option maxRecDepth 100000 in
theorem f_50_63 : fe 50 63 = some (.iconst 1, 1, 3, some .boolean) := fe_of pg_50 rfl
set_option maxRecDepth 100000 in
theorem f_50_64 : fe 50 64 = some (.ireturn, 1, 3, some .boolean) := fe_of pg_50 rfl
set_option maxRecDepth 100000 in
theorem f_51_0 : fe 51 0 = some (.aload_n 1, 1, 3, none) := fe_of pg_51 rfl
set_option maxRecDepth 100000 in
theorem f_51_1 : fe 51 1 = some (.getfield 33, 3, 3, none) := fe_of pg_51 rfl
set_option maxRecDepth 100000 in
theorem f_51_4 : fe 51 4 = some (.ifCond .ne 7, 3, 3, none) := fe_of pg_51 rfl
set_option maxRecDepth 100000 in
theorem f_51_7 : fe 51 7 = some (.iconst 1, 1, 3, none) := fe_of pg_51 rfl
set_option maxRecDepth 100000 in
theorem f_51_8 : fe 51 8 = some (.goto 4, 3, 3, none) := fe_of pg_51 rfl
set_option maxRecDepth 100000 in
theorem f_51_11 : fe 51 11 = some (.iconst 0, 1, 3, none) := fe_of pg_51 rfl
set_option maxRecDepth 100000 in
theorem f_51_12 : fe 51 12 = some (.istore_n 2, 1, 3, none) := fe_of pg_51 rfl
set_option maxRecDepth 100000 in
theorem f_51_13 : fe 51 13 = some (.aload_n 1, 1, 3, none) := fe_of pg_51 rfl
set_option maxRecDepth 100000 in
theorem f_51_14 : fe 51 14 = some (.dup, 1, 3, none) := fe_of pg_51 rfl
set_option maxRecDepth 100000 in
theorem f_51_15 : fe 51 15 = some (.getfield 33, 3, 3, none) := fe_of pg_51 rfl
set_option maxRecDepth 100000 in
theorem f_51_18 : fe 51 18 = some (.iconst 1, 1, 3, none) := fe_of pg_51 rfl
set_option maxRecDepth 100000 in
theorem f_51_19 : fe 51 19 = some (.iadd, 1, 3, none) := fe_of pg_51 rfl
set_option maxRecDepth 100000 in
theorem f_51_20 : fe 51 20 = some (.putfield 33, 3, 3, none) := fe_of pg_51 rfl
set_option maxRecDepth 100000 in
theorem f_51_23 : fe 51 23 = some (.iconst 0, 1, 3, none) := fe_of pg_51 rfl
set_option maxRecDepth 100000 in
theorem f_51_24 : fe 51 24 = some (.istore_n 3, 1, 3, none) := fe_of pg_51 rfl
set_option maxRecDepth 100000 in
theorem f_51_25 : fe 51 25 = some (.iload_n 3, 1, 3, none) := fe_of pg_51 rfl
set_option maxRecDepth 100000 in
theorem f_51_26 : fe 51 26 = some (.aload_n 1, 1, 3, none) := fe_of pg_51 rfl
set_option maxRecDepth 100000 in
theorem f_51_27 : fe 51 27 = some (.getfield 37, 3, 3, none) := fe_of pg_51 rfl
set_option maxRecDepth 100000 in
theorem f_51_30 : fe 51 30 = some (.if_icmp .ge 64, 3, 3, none) := fe_of pg_51 rfl
set_option maxRecDepth 100000 in
theorem f_51_33 : fe 51 33 = some (.aload_n 1, 1, 3, none) := fe_of pg_51 rfl
set_option maxRecDepth 100000 in
theorem f_51_34 : fe 51 34 = some (.getfield 25, 3, 3, none) := fe_of pg_51 rfl
set_option maxRecDepth 100000 in
theorem f_51_37 : fe 51 37 = some (.iload_n 3, 1, 3, none) := fe_of pg_51 rfl
set_option maxRecDepth 100000 in
theorem f_51_38 : fe 51 38 = some (.iload_n 2, 1, 3, none) := fe_of pg_51 rfl
set_option maxRecDepth 100000 in
theorem f_51_39 : fe 51 39 = some (.ifCond .eq 12, 3, 3, none) := fe_of pg_51 rfl
set_option maxRecDepth 100000 in
theorem f_51_42 : fe 51 42 = some (.aload_n 0, 1, 3, none) := fe_of pg_51 rfl
set_option maxRecDepth 100000 in
theorem f_51_43 : fe 51 43 = some (.getfield 9, 3, 3, none) := fe_of pg_51 rfl
set_option maxRecDepth 100000 in
theorem f_51_46 : fe 51 46 = some (.iload_n 3, 1, 3, none) := fe_of pg_51 rfl
set_option maxRecDepth 100000 in
theorem f_51_47 : fe 51 47 = some (.iaload, 1, 3, none) := fe_of pg_51 rfl
set_option maxRecDepth 100000 in
theorem f_51_48 : fe 51 48 = some (.goto 18, 3, 3, none) := fe_of pg_51 rfl
set_option maxRecDepth 100000 in
theorem f_51_51 : fe 51 51 = some (.aload_n 1, 1, 3, none) := fe_of pg_51 rfl
set_option maxRecDepth 100000 in
theorem f_51_52 : fe 51 52 = some (.getfield 25, 3, 3, none) := fe_of pg_51 rfl
set_option maxRecDepth 100000 in
theorem f_51_55 : fe 51 55 = some (.iload_n 3, 1, 3, none) := fe_of pg_51 rfl
set_option maxRecDepth 100000 in
theorem f_51_56 : fe 51 56 = some (.iaload, 1, 3, none) := fe_of pg_51 rfl
set_option maxRecDepth 100000 in
theorem f_51_57 : fe 51 57 = some (.aload_n 0, 1, 3, none) := fe_of pg_51 rfl
set_option maxRecDepth 100000 in
theorem f_51_58 : fe 51 58 = some (.getfield 9, 3, 3, none) := fe_of pg_51 rfl
set_option maxRecDepth 100000 in
theorem f_51_61 : fe 51 61 = some (.iload_n 3, 1, 3, none) := fe_of pg_51 rfl
set_option maxRecDepth 100000 in
theorem f_51_62 : fe 51 62 = some (.iaload, 1, 3, none) := fe_of pg_51 rfl
set_option maxRecDepth 100000 in
theorem f_51_63 : fe 51 63 = some (.invokestatic 81, 3, 3, none) := fe_of pg_51 rfl
set_option maxRecDepth 100000 in
theorem f_51_66 : fe 51 66 = some (.iastore, 1, 3, none) := fe_of pg_51 rfl
set_option maxRecDepth 100000 in
theorem f_51_67 : fe 51 67 = some (.aload_n 1, 1, 3, none) := fe_of pg_51 rfl
set_option maxRecDepth 100000 in
theorem f_51_68 : fe 51 68 = some (.getfield 30, 3, 3, none) := fe_of pg_51 rfl
set_option maxRecDepth 100000 in
theorem f_51_71 : fe 51 71 = some (.iload_n 3, 1, 3, none) := fe_of pg_51 rfl
set_option maxRecDepth 100000 in
theorem f_51_72 : fe 51 72 = some (.aload_n 1, 1, 3, none) := fe_of pg_51 rfl
set_option maxRecDepth 100000 in
theorem f_51_73 : fe 51 73 = some (.getfield 30, 3, 3, none) := fe_of pg_51 rfl
set_option maxRecDepth 100000 in
theorem f_51_76 : fe 51 76 = some (.iload_n 3, 1, 3, none) := fe_of pg_51 rfl
set_option maxRecDepth 100000 in
theorem f_51_77 : fe 51 77 = some (.iaload, 1, 3, none) := fe_of pg_51 rfl
set_option maxRecDepth 100000 in
theorem f_51_78 : fe 51 78 = some (.aload_n 0, 1, 3, none) := fe_of pg_51 rfl
set_option maxRecDepth 100000 in
theorem f_51_79 : fe 51 79 = some (.getfield 9, 3, 3, none) := fe_of pg_51 rfl
set_option maxRecDepth 100000 in
theorem f_51_82 : fe 51 82 = some (.iload_n 3, 1, 3, none) := fe_of pg_51 rfl
set_option maxRecDepth 100000 in
theorem f_51_83 : fe 51 83 = some (.iaload, 1, 3, none) := fe_of pg_51 rfl
set_option maxRecDepth 100000 in
theorem f_51_84 : fe 51 84 = some (.invokestatic 87, 3, 3, none) := fe_of pg_51 rfl
set_option maxRecDepth 100000 in
theorem f_51_87 : fe 51 87 = some (.iastore, 1, 3, none) := fe_of pg_51 rfl
set_option maxRecDepth 100000 in
theorem f_51_88 : fe 51 88 = some (.iinc 3 1, 3, 3, none) := fe_of pg_51 rfl
set_option maxRecDepth 100000 in
theorem f_51_91 : fe 51 91 = some (.goto (-66), 3, 3, none) := fe_of pg_51 rfl
set_option maxRecDepth 100000 in
theorem f_51_94 : fe 51 94 = some (.iconst 1, 1, 3, none) := fe_of pg_51 rfl
set_option maxRecDepth 100000 in
theorem f_51_95 : fe 51 95 = some (.istore_n 3, 1, 3, none) := fe_of pg_51 rfl
set_option maxRecDepth 100000 in
theorem f_51_96 : fe 51 96 = some (.iload_n 3, 1, 3, none) := fe_of pg_51 rfl
set_option maxRecDepth 100000 in
theorem f_51_97 : fe 51 97 = some (.iconst 1, 1, 3, none) := fe_of pg_51 rfl
set_option maxRecDepth 100000 in
theorem f_51_98 : fe 51 98 = some (.aload_n 1, 1, 3, none) := fe_of pg_51 rfl
set_option maxRecDepth 100000 in
theorem f_51_99 : fe 51 99 = some (.getfield 37, 3, 3, none) := fe_of pg_51 rfl
set_option maxRecDepth 100000 in
theorem f_51_102 : fe 51 102 = some (.ishl, 1, 3, none) := fe_of pg_51 rfl
set_option maxRecDepth 100000 in
theorem f_51_103 : fe 51 103 = some (.if_icmp .ge 29, 3, 3, none) := fe_of pg_51 rfl
set_option maxRecDepth 100000 in
theorem f_51_106 : fe 51 106 = some (.aload_n 0, 1, 3, none) := fe_of pg_51 rfl
set_option maxRecDepth 100000 in
theorem f_51_107 : fe 51 107 = some (.getfield 18, 3, 3, none) := fe_of pg_51 rfl
set_option maxRecDepth 100000 in
theorem f_51_110 : fe 51 110 = some (.iload_n 3, 1, 3, none) := fe_of pg_51 rfl
set_option maxRecDepth 100000 in
theorem f_51_111 : fe 51 111 = some (.bipush 37, 2, 3, none) := fe_of pg_51 rfl
set_option maxRecDepth 100000 in
theorem f_51_113 : fe 51 113 = some (.imul, 1, 3, none) := fe_of pg_51 rfl
set_option maxRecDepth 100000 in
theorem f_51_114 : fe 51 114 = some (.aload_n 0, 1, 3, none) := fe_of pg_51 rfl
set_option maxRecDepth 100000 in
theorem f_51_115 : fe 51 115 = some (.getfield 15, 3, 3, none) := fe_of pg_51 rfl
set_option maxRecDepth 100000 in
theorem f_51_118 : fe 51 118 = some (.iload_n 3, 1, 3, none) := fe_of pg_51 rfl
set_option maxRecDepth 100000 in
theorem f_51_119 : fe 51 119 = some (.iaload, 1, 3, none) := fe_of pg_51 rfl
set_option maxRecDepth 100000 in
theorem f_51_120 : fe 51 120 = some (.iadd, 1, 3, none) := fe_of pg_51 rfl
set_option maxRecDepth 100000 in
theorem f_51_121 : fe 51 121 = some (.dup2, 1, 3, none) := fe_of pg_51 rfl
set_option maxRecDepth 100000 in
theorem f_51_122 : fe 51 122 = some (.iaload, 1, 3, none) := fe_of pg_51 rfl
set_option maxRecDepth 100000 in
theorem f_51_123 : fe 51 123 = some (.iconst 1, 1, 3, none) := fe_of pg_51 rfl
set_option maxRecDepth 100000 in
theorem f_51_124 : fe 51 124 = some (.iadd, 1, 3, none) := fe_of pg_51 rfl
set_option maxRecDepth 100000 in
theorem f_51_125 : fe 51 125 = some (.iastore, 1, 3, none) := fe_of pg_51 rfl
set_option maxRecDepth 100000 in
theorem f_51_126 : fe 51 126 = some (.iinc 3 1, 3, 3, none) := fe_of pg_51 rfl
set_option maxRecDepth 100000 in
theorem f_51_129 : fe 51 129 = some (.goto (-33), 3, 3, none) := fe_of pg_51 rfl
set_option maxRecDepth 100000 in
theorem f_51_132 : fe 51 132 = some (.return_, 1, 3, none) := fe_of pg_51 rfl
set_option maxRecDepth 100000 in
theorem f_52_0 : fe 52 0 = some (.iconst (-1), 1, 3, some .int) := fe_of pg_52 rfl
set_option maxRecDepth 100000 in
theorem f_52_1 : fe 52 1 = some (.istore_n 2, 1, 3, some .int) := fe_of pg_52 rfl
set_option maxRecDepth 100000 in
theorem f_52_2 : fe 52 2 = some (.aload_n 1, 1, 3, some .int) := fe_of pg_52 rfl
set_option maxRecDepth 100000 in
theorem f_52_3 : fe 52 3 = some (.getfield 33, 3, 3, some .int) := fe_of pg_52 rfl
set_option maxRecDepth 100000 in
theorem f_52_6 : fe 52 6 = some (.iconst 1, 1, 3, some .int) := fe_of pg_52 rfl
set_option maxRecDepth 100000 in
theorem f_52_7 : fe 52 7 = some (.iadd, 1, 3, some .int) := fe_of pg_52 rfl
set_option maxRecDepth 100000 in
theorem f_52_8 : fe 52 8 = some (.istore_n 3, 1, 3, some .int) := fe_of pg_52 rfl
set_option maxRecDepth 100000 in
theorem f_52_9 : fe 52 9 = some (.aload_n 1, 1, 3, some .int) := fe_of pg_52 rfl
set_option maxRecDepth 100000 in
theorem f_52_10 : fe 52 10 = some (.getfield 33, 3, 3, some .int) := fe_of pg_52 rfl
set_option maxRecDepth 100000 in
theorem f_52_13 : fe 52 13 = some (.ifCond .ne 5, 3, 3, some .int) := fe_of pg_52 rfl
set_option maxRecDepth 100000 in
theorem f_52_16 : fe 52 16 = some (.iconst (-1), 1, 3, some .int) := fe_of pg_52 rfl
set_option maxRecDepth 100000 in
theorem f_52_17 : fe 52 17 = some (.ireturn, 1, 3, some .int) := fe_of pg_52 rfl
set_option maxRecDepth 100000 in
theorem f_52_18 : fe 52 18 = some (.iconst 1, 1, 3, some .int) := fe_of pg_52 rfl
set_option maxRecDepth 100000 in
theorem f_52_19 : fe 52 19 = some (.istore 4, 2, 3, some .int) := fe_of pg_52 rfl
set_option maxRecDepth 100000 in
theorem f_52_21 : fe 52 21 = some (.iload 4, 2, 3, some .int) := fe_of pg_52 rfl
set_option maxRecDepth 100000 in
theorem f_52_23 : fe 52 23 = some (.iconst 1, 1, 3, some .int) := fe_of pg_52 rfl
set_option maxRecDepth 100000 in
theorem f_52_24 : fe 52 24 = some (.aload_n 1, 1, 3, some .int) := fe_of pg_52 rfl
set_option maxRecDepth 100000 in
theorem f_52_25 : fe 52 25 = some (.getfield 37, 3, 3, some .int) := fe_of pg_52 rfl
set_option maxRecDepth 100000 in
theorem f_52_28 : fe 52 28 = some (.ishl, 1, 3, some .int) := fe_of pg_52 rfl
set_option maxRecDepth 100000 in
theorem f_52_29 : fe 52 29 = some (.if_icmp .ge 80, 3, 3, some .int) := fe_of pg_52 rfl
set_option maxRecDepth 100000 in
theorem f_52_32 : fe 52 32 = some (.iconst 0, 1, 3, some .int) := fe_of pg_52 rfl
set_option maxRecDepth 100000 in
theorem f_52_33 : fe 52 33 = some (.istore 5, 2, 3, some .int) := fe_of pg_52 rfl
set_option maxRecDepth 100000 in
theorem f_52_35 : fe 52 35 = some (.iconst 1, 1, 3, some .int) := fe_of pg_52 rfl
set_option maxRecDepth 100000 in
theorem f_52_36 : fe 52 36 = some (.istore 6, 2, 3, some .int) := fe_of pg_52 rfl
set_option maxRecDepth 100000 in
theorem f_52_38 : fe 52 38 = some (.iload 6, 2, 3, some .int) := fe_of pg_52 rfl
set_option maxRecDepth 100000 in
theorem f_52_40 : fe 52 40 = some (.bipush 36, 2, 3, some .int) := fe_of pg_52 rfl
set_option maxRecDepth 100000 in
theorem f_52_42 : fe 52 42 = some (.if_icmp .gt 61, 3, 3, some .int) := fe_of pg_52 rfl
set_option maxRecDepth 100000 in
theorem f_52_45 : fe 52 45 = some (.iload 5, 2, 3, some .int) := fe_of pg_52 rfl
set_option maxRecDepth 100000 in
theorem f_52_47 : fe 52 47 = some (.aload_n 0, 1, 3, some .int) := fe_of pg_52 rfl
set_option maxRecDepth 100000 in
theorem f_52_48 : fe 52 48 = some (.getfield 18, 3, 3, some .int) := fe_of pg_52 rfl
set_option maxRecDepth 100000 in
theorem f_52_51 : fe 52 51 = some (.iload 4, 2, 3, some .int) := fe_of pg_52 rfl
set_option maxRecDepth 100000 in
theorem f_52_53 : fe 52 53 = some (.bipush 37, 2, 3, some .int) := fe_of pg_52 rfl
set_option maxRecDepth 100000 in
theorem f_52_55 : fe 52 55 = some (.imul, 1, 3, some .int) := fe_of pg_52 rfl
set_option maxRecDepth 100000 in
theorem f_52_56 : fe 52 56 = some (.iload 6, 2, 3, some .int) := fe_of pg_52 rfl
set_option maxRecDepth 100000 in
theorem f_52_58 : fe 52 58 = some (.iadd, 1, 3, some .int) := fe_of pg_52 rfl
set_option maxRecDepth 100000 in
theorem f_52_59 : fe 52 59 = some (.iconst 1, 1, 3, some .int) := fe_of pg_52 rfl
set_option maxRecDepth 100000 in
theorem f_52_60 : fe 52 60 = some (.isub, 1, 3, some .int) := fe_of pg_52 rfl
set_option maxRecDepth 100000 in
theorem f_52_61 : fe 52 61 = some (.iaload, 1, 3, some .int) := fe_of pg_52 rfl
set_option maxRecDepth 100000 in
theorem f_52_62 : fe 52 62 = some (.iadd, 1, 3, some .int) := fe_of pg_52 rfl
set_option maxRecDepth 100000 in
theorem f_52_63 : fe 52 63 = some (.istore 5, 2, 3, some .int) := fe_of pg_52 rfl
set_option maxRecDepth 100000 in
theorem f_52_65 : fe 52 65 = some (.iload 5, 2, 3, some .int) := fe_of pg_52 rfl
set_option maxRecDepth 100000 in
theorem f_52_67 : fe 52 67 = some (.aload_n 1, 1, 3, some .int) := fe_of pg_52 rfl
set_option maxRecDepth 100000 in
theorem f_52_68 : fe 52 68 = some (.getfield 33, 3, 3, some .int) := fe_of pg_52 rfl
set_option maxRecDepth 100000 in
theorem f_52_71 : fe 52 71 = some (.iload 5, 2, 3, some .int) := fe_of pg_52 rfl
set_option maxRecDepth 100000 in
theorem f_52_73 : fe 52 73 = some (.isub, 1, 3, some .int) := fe_of pg_52 rfl
set_option maxRecDepth 100000 in
theorem f_52_74 : fe 52 74 = some (.invokestatic 87, 3, 3, some .int) := fe_of pg_52 rfl
set_option maxRecDepth 100000 in
theorem f_52_77 : fe 52 77 = some (.istore 7, 2, 3, some .int) := fe_of pg_52 rfl
set_option maxRecDepth 100000 in
theorem f_52_79 : fe 52 79 = some (.iload 7, 2, 3, some .int) := fe_of pg_52 rfl
set_option maxRecDepth 100000 in
theorem f_52_81 : fe 52 81 = some (.iload_n 3, 1, 3, some .int) := fe_of pg_52 rfl
set_option maxRecDepth 100000 in
theorem f_52_82 : fe 52 82 = some (.if_icmp .ge 15, 3, 3, some .int) := fe_of pg_52 rfl
set_option maxRecDepth 100000 in
theorem f_52_85 : fe 52 85 = some (.iload 7, 2, 3, some .int) := fe_of pg_52 rfl
set_option maxRecDepth 100000 in
theorem f_52_87 : fe 52 87 = some (.istore_n 3, 1, 3, some .int) := fe_of pg_52 rfl
set_option maxRecDepth 100000 in
theorem f_52_88 : fe 52 88 = some (.bipush 40, 2, 3, some .int) := fe_of pg_52 rfl
set_option maxRecDepth 100000 in
theorem f_52_90 : fe 52 90 = some (.iload 4, 2, 3, some .int) := fe_of pg_52 rfl
set_option maxRecDepth 100000 in
theorem f_52_92 : fe 52 92 = some (.imul, 1, 3, some .int) := fe_of pg_52 rfl
set_option maxRecDepth 100000 in
theorem f_52_93 : fe 52 93 = some (.iload 6, 2, 3, some .int) := fe_of pg_52 rfl
set_option maxRecDepth 100000 in
theorem f_52_95 : fe 52 95 = some (.iadd, 1, 3, some .int) := fe_of pg_52 rfl
set_option maxRecDepth 100000 in
theorem f_52_96 : fe 52 96 = some (.istore_n 2, 1, 3, some .int) := fe_of pg_52 rfl
set_option maxRecDepth 100000 in
theorem f_52_97 : fe 52 97 = some (.iinc 6 1, 3, 3, some .int) := fe_of pg_52 rfl
set_option maxRecDepth 100000 in
theorem f_52_100 : fe 52 100 = some (.goto (-62), 3, 3, some .int) := fe_of pg_52 rfl
set_option maxRecDepth 100000 in
theorem f_52_103 : fe 52 103 = some (.iinc 4 1, 3, 3, some .int) := fe_of pg_52 rfl
set_option maxRecDepth 100000 in
theorem f_52_106 : fe 52 106 = some (.goto (-85), 3, 3, some .int) := fe_of pg_52 rfl
set_option maxRecDepth 100000 in
theorem f_52_109 : fe 52 109 = some (.iload_n 2, 1, 3, some .int) := fe_of pg_52 rfl
set_option maxRecDepth 100000 in
theorem f_52_110 : fe 52 110 = some (.ireturn, 1, 3, some .int) := fe_of pg_52 rfl
set_option maxRecDepth 100000 in
theorem f_53_0 : fe 53 0 = some (.aload_n 0, 1, 4, none) := fe_of pg_53 rfl
set_option maxRecDepth 100000 in
theorem f_53_1 : fe 53 1 = some (.invokespecial 3, 3, 4, none) := fe_of pg_53 rfl
set_option maxRecDepth 100000 in
theorem f_53_4 : fe 53 4 = some (.aload_n 0, 1, 4, none) := fe_of pg_53 rfl
set_option maxRecDepth 100000 in
theorem f_53_5 : fe 53 5 = some (.bipush 8, 2, 4, none) := fe_of pg_53 rfl
set_option maxRecDepth 100000 in
theorem f_53_7 : fe 53 7 = some (.newarray .int, 2, 4, none) := fe_of pg_53 rfl
set_option maxRecDepth 100000 in
theorem f_53_9 : fe 53 9 = some (.putfield 9, 3, 4, none) := fe_of pg_53 rfl
set_option maxRecDepth 100000 in
theorem f_53_12 : fe 53 12 = some (.aload_n 0, 1, 4, none) := fe_of pg_53 rfl
set_option maxRecDepth 100000 in
theorem f_53_13 : fe 53 13 = some (.bipush 8, 2, 4, none) := fe_of pg_53 rfl
set_option maxRecDepth 100000 in
theorem f_53_15 : fe 53 15 = some (.newarray .int, 2, 4, none) := fe_of pg_53 rfl
set_option maxRecDepth 100000 in
theorem f_53_17 : fe 53 17 = some (.putfield 15, 3, 4, none) := fe_of pg_53 rfl
set_option maxRecDepth 100000 in
theorem f_53_20 : fe 53 20 = some (.aload_n 0, 1, 4, none) := fe_of pg_53 rfl
set_option maxRecDepth 100000 in
theorem f_53_21 : fe 53 21 = some (.bipush 8, 2, 4, none) := fe_of pg_53 rfl
set_option maxRecDepth 100000 in
theorem f_53_23 : fe 53 23 = some (.newarray .int, 2, 4, none) := fe_of pg_53 rfl
set_option maxRecDepth 100000 in
theorem f_53_25 : fe 53 25 = some (.putfield 18, 3, 4, none) := fe_of pg_53 rfl
set_option maxRecDepth 100000 in
theorem f_53_28 : fe 53 28 = some (.aload_n 0, 1, 4, none) := fe_of pg_53 rfl
set_option maxRecDepth 100000 in
theorem f_53_29 : fe 53 29 = some (.iconst 4, 1, 4, none) := fe_of pg_53 rfl
set_option maxRecDepth 100000 in
theorem f_53_30 : fe 53 30 = some (.newarray .int, 2, 4, none) := fe_of pg_53 rfl
set_option maxRecDepth 100000 in
theorem f_53_32 : fe 53 32 = some (.putfield 21, 3, 4, none) := fe_of pg_53 rfl
set_option maxRecDepth 100000 in
theorem f_53_35 : fe 53 35 = some (.aload_n 0, 1, 4, none) := fe_of pg_53 rfl
set_option maxRecDepth 100000 in
theorem f_53_36 : fe 53 36 = some (.bipush 9, 2, 4, none) := fe_of pg_53 rfl
set_option maxRecDepth 100000 in
theorem f_53_38 : fe 53 38 = some (.newarray .int, 2, 4, none) := fe_of pg_53 rfl
set_option maxRecDepth 100000 in
theorem f_53_40 : fe 53 40 = some (.putfield 24, 3, 4, none) := fe_of pg_53 rfl
set_option maxRecDepth 100000 in
theorem f_53_43 : fe 53 43 = some (.aload_n 0, 1, 4, none) := fe_of pg_53 rfl
set_option maxRecDepth 100000 in
theorem f_53_44 : fe 53 44 = some (.bipush 9, 2, 4, none) := fe_of pg_53 rfl
set_option maxRecDepth 100000 in
theorem f_53_46 : fe 53 46 = some (.newarray .int, 2, 4, none) := fe_of pg_53 rfl
set_option maxRecDepth 100000 in
theorem f_53_48 : fe 53 48 = some (.putfield 27, 3, 4, none) := fe_of pg_53 rfl
set_option maxRecDepth 100000 in
theorem f_53_51 : fe 53 51 = some (.aload_n 0, 1, 4, none) := fe_of pg_53 rfl
set_option maxRecDepth 100000 in
theorem f_53_52 : fe 53 52 = some (.invokevirtual 30, 3, 4, none) := fe_of pg_53 rfl
set_option maxRecDepth 100000 in
theorem f_53_55 : fe 53 55 = some (.return_, 1, 4, none) := fe_of pg_53 rfl
set_option maxRecDepth 100000 in
theorem f_54_0 : fe 54 0 = some (.aload_n 0, 1, 4, none) := fe_of pg_54 rfl
set_option maxRecDepth 100000 in
theorem f_54_1 : fe 54 1 = some (.iconst 0, 1, 4, none) := fe_of pg_54 rfl
set_option maxRecDepth 100000 in
theorem f_54_2 : fe 54 2 = some (.putfield 33, 3, 4, none) := fe_of pg_54 rfl
set_option maxRecDepth 100000 in
theorem f_54_5 : fe 54 5 = some (.aload_n 0, 1, 4, none) := fe_of pg_54 rfl
set_option maxRecDepth 100000 in
theorem f_54_6 : fe 54 6 = some (.iconst 4, 1, 4, none) := fe_of pg_54 rfl
set_option maxRecDepth 100000 in
theorem f_54_7 : fe 54 7 = some (.putfield 37, 3, 4, none) := fe_of pg_54 rfl
set_option maxRecDepth 100000 in
theorem f_54_10 : fe 54 10 = some (.aload_n 0, 1, 4, none) := fe_of pg_54 rfl
set_option maxRecDepth 100000 in
theorem f_54_11 : fe 54 11 = some (.iconst 0, 1, 4, none) := fe_of pg_54 rfl
set_option maxRecDepth 100000 in
theorem f_54_12 : fe 54 12 = some (.putfield 40, 3, 4, none) := fe_of pg_54 rfl
set_option maxRecDepth 100000 in
theorem f_54_15 : fe 54 15 = some (.aload_n 0, 1, 4, none) := fe_of pg_54 rfl
set_option maxRecDepth 100000 in
theorem f_54_16 : fe 54 16 = some (.getfield 21, 3, 4, none) := fe_of pg_54 rfl
set_option maxRecDepth 100000 in
theorem f_54_19 : fe 54 19 = some (.iconst 1, 1, 4, none) := fe_of pg_54 rfl
set_option maxRecDepth 100000 in
theorem f_54_20 : fe 54 20 = some (.invokestatic 43, 3, 4, none) := fe_of pg_54 rfl
set_option maxRecDepth 100000 in
theorem f_54_23 : fe 54 23 = some (.iconst 0, 1, 4, none) := fe_of pg_54 rfl
set_option maxRecDepth 100000 in
theorem f_54_24 : fe 54 24 = some (.istore_n 1, 1, 4, none) := fe_of pg_54 rfl
set_option maxRecDepth 100000 in
theorem f_54_25 : fe 54 25 = some (.iload_n 1, 1, 4, none) := fe_of pg_54 rfl
set_option maxRecDepth 100000 in
theorem f_54_26 : fe 54 26 = some (.bipush 8, 2, 4, none) := fe_of pg_54 rfl
set_option maxRecDepth 100000 in
theorem f_54_28 : fe 54 28 = some (.if_icmp .gt 16, 3, 4, none) := fe_of pg_54 rfl
set_option maxRecDepth 100000 in
theorem f_54_31 : fe 54 31 = some (.aload_n 0, 1, 4, none) := fe_of pg_54 rfl
set_option maxRecDepth 100000 in
theorem f_54_32 : fe 54 32 = some (.getfield 24, 3, 4, none) := fe_of pg_54 rfl
set_option maxRecDepth 100000 in
theorem f_54_35 : fe 54 35 = some (.iload_n 1, 1, 4, none) := fe_of pg_54 rfl
set_option maxRecDepth 100000 in
theorem f_54_36 : fe 54 36 = some (.iload_n 1, 1, 4, none) := fe_of pg_54 rfl
set_option maxRecDepth 100000 in
theorem f_54_37 : fe 54 37 = some (.iastore, 1, 4, none) := fe_of pg_54 rfl
set_option maxRecDepth 100000 in
theorem f_54_38 : fe 54 38 = some (.iinc 1 1, 3, 4, none) := fe_of pg_54 rfl
set_option maxRecDepth 100000 in
theorem f_54_41 : fe 54 41 = some (.goto (-16), 3, 4, none) := fe_of pg_54 rfl
set_option maxRecDepth 100000 in
theorem f_54_44 : fe 54 44 = some (.return_, 1, 4, none) := fe_of pg_54 rfl
set_option maxRecDepth 100000 in
theorem f_55_0 : fe 55 0 = some (.aload_n 1, 1, 4, none) := fe_of pg_55 rfl
set_option maxRecDepth 100000 in
theorem f_55_1 : fe 55 1 = some (.getfield 9, 3, 4, none) := fe_of pg_55 rfl
set_option maxRecDepth 100000 in
theorem f_55_4 : fe 55 4 = some (.aload_n 0, 1, 4, none) := fe_of pg_55 rfl
set_option maxRecDepth 100000 in
theorem f_55_5 : fe 55 5 = some (.getfield 9, 3, 4, none) := fe_of pg_55 rfl
set_option maxRecDepth 100000 in
theorem f_55_8 : fe 55 8 = some (.invokestatic 47, 3, 4, none) := fe_of pg_55 rfl
set_option maxRecDepth 100000 in
theorem f_55_11 : fe 55 11 = some (.aload_n 0, 1, 4, none) := fe_of pg_55 rfl
set_option maxRecDepth 100000 in
theorem f_55_12 : fe 55 12 = some (.aload_n 1, 1, 4, none) := fe_of pg_55 rfl
set_option maxRecDepth 100000 in
theorem f_55_13 : fe 55 13 = some (.getfield 33, 3, 4, none) := fe_of pg_55 rfl
set_option maxRecDepth 100000 in
theorem f_55_16 : fe 55 16 = some (.putfield 33, 3, 4, none) := fe_of pg_55 rfl
set_option maxRecDepth 100000 in
theorem f_55_19 : fe 55 19 = some (.aload_n 0, 1, 4, none) := fe_of pg_55 rfl
set_option maxRecDepth 100000 in
theorem f_55_20 : fe 55 20 = some (.aload_n 1, 1, 4, none) := fe_of pg_55 rfl
set_option maxRecDepth 100000 in
theorem f_55_21 : fe 55 21 = some (.getfield 37, 3, 4, none) := fe_of pg_55 rfl
set_option maxRecDepth 100000 in
theorem f_55_24 : fe 55 24 = some (.putfield 37, 3, 4, none) := fe_of pg_55 rfl
set_option maxRecDepth 100000 in
theorem f_55_27 : fe 55 27 = some (.aload_n 1, 1, 4, none) := fe_of pg_55 rfl
set_option maxRecDepth 100000 in
theorem f_55_28 : fe 55 28 = some (.getfield 15, 3, 4, none) := fe_of pg_55 rfl
set_option maxRecDepth 100000 in
theorem f_55_31 : fe 55 31 = some (.aload_n 0, 1, 4, none) := fe_of pg_55 rfl
set_option maxRecDepth 100000 in
theorem f_55_32 : fe 55 32 = some (.getfield 15, 3, 4, none) := fe_of pg_55 rfl
set_option maxRecDepth 100000 in
theorem f_55_35 : fe 55 35 = some (.invokestatic 47, 3, 4, none) := fe_of pg_55 rfl
set_option maxRecDepth 100000 in
theorem f_55_38 : fe 55 38 = some (.aload_n 1, 1, 4, none) := fe_of pg_55 rfl
set_option maxRecDepth 100000 in
theorem f_55_39 : fe 55 39 = some (.getfield 18, 3, 4, none) := fe_of pg_55 rfl
set_option maxRecDepth 100000 in
theorem f_55_42 : fe 55 42 = some (.aload_n 0, 1, 4, none) := fe_of pg_55 rfl
set_option maxRecDepth 100000 in
theorem f_55_43 : fe 55 43 = some (.getfield 18, 3, 4, none) := fe_of pg_55 rfl
set_option maxRecDepth 100000 in
theorem f_55_46 : fe 55 46 = some (.invokestatic 47, 3, 4, none) := fe_of pg_55 rfl
set_option maxRecDepth 100000 in
theorem f_55_49 : fe 55 49 = some (.aload_n 0, 1, 4, none) := fe_of pg_55 rfl
set_option maxRecDepth 100000 in
theorem f_55_50 : fe 55 50 = some (.aload_n 1, 1, 4, none) := fe_of pg_55 rfl
set_option maxRecDepth 100000 in
theorem f_55_51 : fe 55 51 = some (.getfield 40, 3, 4, none) := fe_of pg_55 rfl
set_option maxRecDepth 100000 in
theorem f_55_54 : fe 55 54 = some (.putfield 40, 3, 4, none) := fe_of pg_55 rfl
set_option maxRecDepth 100000 in
theorem f_55_57 : fe 55 57 = some (.aload_n 1, 1, 4, none) := fe_of pg_55 rfl
set_option maxRecDepth 100000 in
theorem f_55_58 : fe 55 58 = some (.getfield 21, 3, 4, none) := fe_of pg_55 rfl
set_option maxRecDepth 100000 in
theorem f_55_61 : fe 55 61 = some (.aload_n 0, 1, 4, none) := fe_of pg_55 rfl
set_option maxRecDepth 100000 in
theorem f_55_62 : fe 55 62 = some (.getfield 21, 3, 4, none) := fe_of pg_55 rfl
set_option maxRecDepth 100000 in
theorem f_55_65 : fe 55 65 = some (.invokestatic 47, 3, 4, none) := fe_of pg_55 rfl
set_option maxRecDepth 100000 in
theorem f_55_68 : fe 55 68 = some (.aload_n 1, 1, 4, none) := fe_of pg_55 rfl
set_option maxRecDepth 100000 in
theorem f_55_69 : fe 55 69 = some (.getfield 24, 3, 4, none) := fe_of pg_55 rfl
set_option maxRecDepth 100000 in
theorem f_55_72 : fe 55 72 = some (.aload_n 0, 1, 4, none) := fe_of pg_55 rfl
set_option maxRecDepth 100000 in
theorem f_55_73 : fe 55 73 = some (.getfield 24, 3, 4, none) := fe_of pg_55 rfl
set_option maxRecDepth 100000 in
theorem f_55_76 : fe 55 76 = some (.invokestatic 47, 3, 4, none) := fe_of pg_55 rfl
set_option maxRecDepth 100000 in
theorem f_55_79 : fe 55 79 = some (.return_, 1, 4, none) := fe_of pg_55 rfl
set_option maxRecDepth 100000 in
theorem f_56_0 : fe 56 0 = some (.aload_n 0, 1, 4, none) := fe_of pg_56 rfl
set_option maxRecDepth 100000 in
theorem f_56_1 : fe 56 1 = some (.getfield 33, 3, 4, none) := fe_of pg_56 rfl
set_option maxRecDepth 100000 in
theorem f_56_4 : fe 56 4 = some (.bipush 8, 2, 4, none) := fe_of pg_56 rfl
set_option maxRecDepth 100000 in
theorem f_56_6 : fe 56 6 = some (.if_icmp .ge 23, 3, 4, none) := fe_of pg_56 rfl
set_option maxRecDepth 100000 in
theorem f_56_9 : fe 56 9 = some (.aload_n 0, 1, 4, none) := fe_of pg_56 rfl
set_option maxRecDepth 100000 in
theorem f_56_10 : fe 56 10 = some (.getfield 9, 3, 4, none) := fe_of pg_56 rfl
set_option maxRecDepth 100000 in
theorem f_56_13 : fe 56 13 = some (.aload_n 0, 1, 4, none) := fe_of pg_56 rfl
set_option maxRecDepth 100000 in
theorem f_56_14 : fe 56 14 = some (.getfield 33, 3, 4, none) := fe_of pg_56 rfl
set_option maxRecDepth 100000 in
theorem f_56_17 : fe 56 17 = some (.iload_n 1, 1, 4, none) := fe_of pg_56 rfl
set_option maxRecDepth 100000 in
theorem f_56_18 : fe 56 18 = some (.iastore, 1, 4, none) := fe_of pg_56 rfl
set_option maxRecDepth 100000 in
theorem f_56_19 : fe 56 19 = some (.aload_n 0, 1, 4, none) := fe_of pg_56 rfl
set_option maxRecDepth 100000 in
theorem f_56_20 : fe 56 20 = some (.dup, 1, 4, none) := fe_of pg_56 rfl
set_option maxRecDepth 100000 in
theorem f_56_21 : fe 56 21 = some (.getfield 33, 3, 4, none) := fe_of pg_56 rfl
set_option maxRecDepth 100000 in
theorem f_56_24 : fe 56 24 = some (.iconst 1, 1, 4, none) := fe_of pg_56 rfl
set_option maxRecDepth 100000 in
theorem f_56_25 : fe 56 25 = some (.iadd, 1, 4, none) := fe_of pg_56 rfl
set_option maxRecDepth 100000 in
theorem f_56_26 : fe 56 26 = some (.putfield 33, 3, 4, none) := fe_of pg_56 rfl
set_option maxRecDepth 100000 in
theorem f_56_29 : fe 56 29 = some (.return_, 1, 4, none) := fe_of pg_56 rfl
set_option maxRecDepth 100000 in
theorem f_57_0 : fe 57 0 = some (.aload_n 0, 1, 4, none) := fe_of pg_57 rfl
set_option maxRecDepth 100000 in
theorem f_57_1 : fe 57 1 = some (.getfield 40, 3, 4, none) := fe_of pg_57 rfl
set_option maxRecDepth 100000 in
theorem f_57_4 : fe 57 4 = some (.bipush 8, 2, 4, none) := fe_of pg_57 rfl
set_option maxRecDepth 100000 in
theorem f_57_6 : fe 57 6 = some (.if_icmp .ge 33, 3, 4, none) := fe_of pg_57 rfl
set_option maxRecDepth 100000 in
theorem f_57_9 : fe 57 9 = some (.aload_n 0, 1, 4, none) := fe_of pg_57 rfl
set_option maxRecDepth 100000 in
theorem f_57_10 : fe 57 10 = some (.getfield 15, 3, 4, none) := fe_of pg_57 rfl
set_option maxRecDepth 100000 in
theorem f_57_13 : fe 57 13 = some (.aload_n 0, 1, 4, none) := fe_of pg_57 rfl
set_option maxRecDepth 100000 in
theorem f_57_14 : fe 57 14 = some (.getfield 40, 3, 4, none) := fe_of pg_57 rfl
set_option maxRecDepth 100000 in
theorem f_57_17 : fe 57 17 = some (.iload_n 1, 1, 4, none) := fe_of pg_57 rfl
set_option maxRecDepth 100000 in
theorem f_57_18 : fe 57 18 = some (.iastore, 1, 4, none) := fe_of pg_57 rfl
set_option maxRecDepth 100000 in
theorem f_57_19 : fe 57 19 = some (.aload_n 0, 1, 4, none) := fe_of pg_57 rfl
set_option maxRecDepth 100000 in
theorem f_57_20 : fe 57 20 = some (.getfield 18, 3, 4, none) := fe_of pg_57 rfl
set_option maxRecDepth 100000 in
theorem f_57_23 : fe 57 23 = some (.aload_n 0, 1, 4, none) := fe_of pg_57 rfl
set_option maxRecDepth 100000 in
theorem f_57_24 : fe 57 24 = some (.getfield 40, 3, 4, none) := fe_of pg_57 rfl
set_option maxRecDepth 100000 in
theorem f_57_27 : fe 57 27 = some (.iload_n 2, 1, 4, none) := fe_of pg_57 rfl
set_option maxRecDepth 100000 in
theorem f_57_28 : fe 57 28 = some (.iastore, 1, 4, none) := fe_of pg_57 rfl
set_option maxRecDepth 100000 in
theorem f_57_29 : fe 57 29 = some (.aload_n 0, 1, 4, none) := fe_of pg_57 rfl
set_option maxRecDepth 100000 in
theorem f_57_30 : fe 57 30 = some (.dup, 1, 4, none) := fe_of pg_57 rfl
set_option maxRecDepth 100000 in
theorem f_57_31 : fe 57 31 = some (.getfield 40, 3, 4, none) := fe_of pg_57 rfl
set_option maxRecDepth 100000 in
theorem f_57_34 : fe 57 34 = some (.iconst 1, 1, 4, none) := fe_of pg_57 rfl
set_option maxRecDepth 100000 in
theorem f_57_35 : fe 57 35 = some (.iadd, 1, 4, none) := fe_of pg_57 rfl
set_option maxRecDepth 100000 in
theorem f_57_36 : fe 57 36 = some (.putfield 40, 3, 4, none) := fe_of pg_57 rfl
set_option maxRecDepth 100000 in
theorem f_57_39 : fe 57 39 = some (.return_, 1, 4, none) := fe_of pg_57 rfl
set_option maxRecDepth 100000 in
theorem f_58_0 : fe 58 0 = some (.iload_n 1, 1, 4, some .boolean) := fe_of pg_58 rfl
set_option maxRecDepth 100000 in
theorem f_58_1 : fe 58 1 = some (.ifCond .lt 17, 3, 4, some .boolean) := fe_of pg_58 rfl
set_option maxRecDepth 100000 in
theorem f_58_4 : fe 58 4 = some (.iload_n 1, 1, 4, some .boolean) := fe_of pg_58 rfl
set_option maxRecDepth 100000 in
theorem f_58_5 : fe 58 5 = some (.iconst 1, 1, 4, some .boolean) := fe_of pg_58 rfl
set_option maxRecDepth 100000 in
theorem f_58_6 : fe 58 6 = some (.aload_n 0, 1, 4, some .boolean) := fe_of pg_58 rfl
set_option maxRecDepth 100000 in
theorem f_58_7 : fe 58 7 = some (.getfield 40, 3, 4, some .boolean) := fe_of pg_58 rfl
set_option maxRecDepth 100000 in
theorem f_58_10 : fe 58 10 = some (.ishl, 1, 4, some .boolean) := fe_of pg_58 rfl
set_option maxRecDepth 100000 in
theorem f_58_11 : fe 58 11 = some (.if_icmp .ge 7, 3, 4, some .boolean) := fe_of pg_58 rfl
set_option maxRecDepth 100000 in
theorem f_58_14 : fe 58 14 = some (.iconst 1, 1, 4, some .boolean) := fe_of pg_58 rfl
set_option maxRecDepth 100000 in
theorem f_58_15 : fe 58 15 = some (.goto 4, 3, 4, some .boolean) := fe_of pg_58 rfl
set_option maxRecDepth 100000 in
theorem f_58_18 : fe 58 18 = some (.iconst 0, 1, 4, some .boolean) := fe_of pg_58 rfl
set_option maxRecDepth 100000 in
theorem f_58_19 : fe 58 19 = some (.ireturn, 1, 4, some .boolean) := fe_of pg_58 rfl
set_option maxRecDepth 100000 in
theorem f_59_0 : fe 59 0 = some (.aload_n 0, 1, 4, some .boolean) := fe_of pg_59 rfl
set_option maxRecDepth 100000 in
theorem f_59_1 : fe 59 1 = some (.iload_n 1, 1, 4, some .boolean) := fe_of pg_59 rfl
set_option maxRecDepth 100000 in
theorem f_59_2 : fe 59 2 = some (.invokevirtual 51, 3, 4, some .boolean) := fe_of pg_59 rfl
set_option maxRecDepth 100000 in
theorem f_59_5 : fe 59 5 = some (.ifCond .eq 18, 3, 4, some .boolean) := fe_of pg_59 rfl
set_option maxRecDepth 100000 in
theorem f_59_8 : fe 59 8 = some (.iload_n 1, 1, 4, some .boolean) := fe_of pg_59 rfl
set_option maxRecDepth 100000 in
theorem f_59_9 : fe 59 9 = some (.invokestatic 55, 3, 4, some .boolean) := fe_of pg_59 rfl
set_option maxRecDepth 100000 in
theorem f_59_12 : fe 59 12 = some (.aload_n 0, 1, 4, some .boolean) := fe_of pg_59 rfl
set_option maxRecDepth 100000 in
theorem f_59_13 : fe 59 13 = some (.getfield 37, 3, 4, some .boolean) := fe_of pg_59 rfl
set_option maxRecDepth 100000 in
theorem f_59_16 : fe 59 16 = some (.if_icmp .gt 7, 3, 4, some .boolean) := fe_of pg_59 rfl
set_option maxRecDepth 100000 in
theorem f_59_19 : fe 59 19 = some (.iconst 1, 1, 4, some .boolean) := fe_of pg_59 rfl
set_option maxRecDepth 100000 in
theorem f_59_20 : fe 59 20 = some (.goto 4, 3, 4, some .boolean) := fe_of pg_59 rfl
set_option maxRecDepth 100000 in
theorem f_59_23 : fe 59 23 = some (.iconst 0, 1, 4, some .boolean) := fe_of pg_59 rfl
set_option maxRecDepth 100000 in
theorem f_59_24 : fe 59 24 = some (.ireturn, 1, 4, some .boolean) := fe_of pg_59 rfl
set_option maxRecDepth 100000 in
theorem f_60_0 : fe 60 0 = some (.aload_n 0, 1, 4, some .int) := fe_of pg_60 rfl
set_option maxRecDepth 100000 in
theorem f_60_1 : fe 60 1 = some (.getfield 15, 3, 4, some .int) := fe_of pg_60 rfl
set_option maxRecDepth 100000 in
theorem f_60_4 : fe 60 4 = some (.iload_n 1, 1, 4, some .int) := fe_of pg_60 rfl
set_option maxRecDepth 100000 in
theorem f_60_5 : fe 60 5 = some (.iaload, 1, 4, some .int) := fe_of pg_60 rfl
set_option maxRecDepth 100000 in
theorem f_60_6 : fe 60 6 = some (.tableswitch 36 0 2 #[26, 28, 32], 26, 4, some .int) := fe_of pg_60 rfl
set_option maxRecDepth 100000 in
theorem f_60_32 : fe 60 32 = some (.iload_n 2, 1, 4, some .int) := fe_of pg_60 rfl
set_option maxRecDepth 100000 in
theorem f_60_33 : fe 60 33 = some (.ireturn, 1, 4, some .int) := fe_of pg_60 rfl
set_option maxRecDepth 100000 in
theorem f_60_34 : fe 60 34 = some (.iconst 2, 1, 4, some .int) := fe_of pg_60 rfl
set_option maxRecDepth 100000 in
theorem f_60_35 : fe 60 35 = some (.iload_n 2, 1, 4, some .int) := fe_of pg_60 rfl
set_option maxRecDepth 100000 in
theorem f_60_36 : fe 60 36 = some (.imul, 1, 4, some .int) := fe_of pg_60 rfl
set_option maxRecDepth 100000 in
theorem f_60_37 : fe 60 37 = some (.ireturn, 1, 4, some .int) := fe_of pg_60 rfl
set_option maxRecDepth 100000 in
theorem f_60_38 : fe 60 38 = some (.iload_n 2, 1, 4, some .int) := fe_of pg_60 rfl
set_option maxRecDepth 100000 in
theorem f_60_39 : fe 60 39 = some (.iconst 2, 1, 4, some .int) := fe_of pg_60 rfl
set_option maxRecDepth 100000 in
theorem f_60_40 : fe 60 40 = some (.idiv, 1, 4, some .int) := fe_of pg_60 rfl
set_option maxRecDepth 100000 in
theorem f_60_41 : fe 60 41 = some (.ireturn, 1, 4, some .int) := fe_of pg_60 rfl
set_option maxRecDepth 100000 in
theorem f_60_42 : fe 60 42 = some (.iconst 0, 1, 4, some .int) := fe_of pg_60 rfl
set_option maxRecDepth 100000 in
theorem f_60_43 : fe 60 43 = some (.ireturn, 1, 4, some .int) := fe_of pg_60 rfl
set_option maxRecDepth 100000 in
theorem f_61_0 : fe 61 0 = some (.aload_n 0, 1, 4, some .int) := fe_of pg_61 rfl
set_option maxRecDepth 100000 in
theorem f_61_1 : fe 61 1 = some (.getfield 21, 3, 4, some .int) := fe_of pg_61 rfl
set_option maxRecDepth 100000 in
theorem f_61_4 : fe 61 4 = some (.aload_n 0, 1, 4, some .int) := fe_of pg_61 rfl
set_option maxRecDepth 100000 in
theorem f_61_5 : fe 61 5 = some (.getfield 15, 3, 4, some .int) := fe_of pg_61 rfl
set_option maxRecDepth 100000 in
theorem f_61_8 : fe 61 8 = some (.iload_n 1, 1, 4, some .int) := fe_of pg_61 rfl
set_option maxRecDepth 100000 in
theorem f_61_9 : fe 61 9 = some (.iaload, 1, 4, some .int) := fe_of pg_61 rfl
set_option maxRecDepth 100000 in
theorem f_61_10 : fe 61 10 = some (.iaload, 1, 4, some .int) := fe_of pg_61 rfl
set_option maxRecDepth 100000 in
theorem f_61_11 : fe 61 11 = some (.istore_n 3, 1, 4, some .int) := fe_of pg_61 rfl
set_option maxRecDepth 100000 in
theorem f_61_12 : fe 61 12 = some (.iload_n 2, 1, 4, some .int) := fe_of pg_61 rfl
set_option maxRecDepth 100000 in
theorem f_61_13 : fe 61 13 = some (.iload_n 3, 1, 4, some .int) := fe_of pg_61 rfl
set_option maxRecDepth 100000 in
theorem f_61_14 : fe 61 14 = some (.if_icmp .le 9, 3, 4, some .int) := fe_of pg_61 rfl
set_option maxRecDepth 100000 in
theorem f_61_17 : fe 61 17 = some (.iload_n 2, 1, 4, some .int) := fe_of pg_61 rfl
set_option maxRecDepth 100000 in
theorem f_61_18 : fe 61 18 = some (.iload_n 3, 1, 4, some .int) := fe_of pg_61 rfl
set_option maxRecDepth 100000 in
theorem f_61_19 : fe 61 19 = some (.isub, 1, 4, some .int) := fe_of pg_61 rfl
set_option maxRecDepth 100000 in
theorem f_61_20 : fe 61 20 = some (.goto 4, 3, 4, some .int) := fe_of pg_61 rfl
set_option maxRecDepth 100000 in
theorem f_61_23 : fe 61 23 = some (.iconst 0, 1, 4, some .int) := fe_of pg_61 rfl
set_option maxRecDepth 100000 in
theorem f_61_24 : fe 61 24 = some (.ireturn, 1, 4, some .int) := fe_of pg_61 rfl
set_option maxRecDepth 100000 in
theorem f_62_0 : fe 62 0 = some (.iconst 0, 1, 4, some .int) := fe_of pg_62 rfl
set_option maxRecDepth 100000 in
theorem f_62_1 : fe 62 1 = some (.istore_n 2, 1, 4, some .int) := fe_of pg_62 rfl
set_option maxRecDepth 100000 in
theorem f_62_2 : fe 62 2 = some (.iconst 0, 1, 4, some .int) := fe_of pg_62 rfl
set_option maxRecDepth 100000 in
theorem f_62_3 : fe 62 3 = some (.istore_n 3, 1, 4, some .int) := fe_of pg_62 rfl
set_option maxRecDepth 100000 in
theorem f_62_4 : fe 62 4 = some (.iload_n 3, 1, 4, some .int) := fe_of pg_62 rfl
set_option maxRecDepth 100000 in
theorem f_62_5 : fe 62 5 = some (.aload_n 0, 1, 4, some .int) := fe_of pg_62 rfl
set_option maxRecDepth 100000 in
theorem f_62_6 : fe 62 6 = some (.getfield 40, 3, 4, some .int) := fe_of pg_62 rfl
set_option maxRecDepth 100000 in
theorem f_62_9 : fe 62 9 = some (.if_icmp .ge 26, 3, 4, some .int) := fe_of pg_62 rfl
set_option maxRecDepth 100000 in
theorem f_62_12 : fe 62 12 = some (.iload_n 1, 1, 4, some .int) := fe_of pg_62 rfl
set_option maxRecDepth 100000 in
theorem f_62_13 : fe 62 13 = some (.iload_n 3, 1, 4, some .int) := fe_of pg_62 rfl
set_option maxRecDepth 100000 in
theorem f_62_14 : fe 62 14 = some (.invokestatic 61, 3, 4, some .int) := fe_of pg_62 rfl
set_option maxRecDepth 100000 in
theorem f_62_17 : fe 62 17 = some (.ifCond .eq 12, 3, 4, some .int) := fe_of pg_62 rfl
set_option maxRecDepth 100000 in
theorem f_62_20 : fe 62 20 = some (.iload_n 2, 1, 4, some .int) := fe_of pg_62 rfl
set_option maxRecDepth 100000 in
theorem f_62_21 : fe 62 21 = some (.aload_n 0, 1, 4, some .int) := fe_of pg_62 rfl
set_option maxRecDepth 100000 in
theorem f_62_22 : fe 62 22 = some (.getfield 18, 3, 4, some .int) := fe_of pg_62 rfl
set_option maxRecDepth 100000 in
theorem f_62_25 : fe 62 25 = some (.iload_n 3, 1, 4, some .int) := fe_of pg_62 rfl
set_option maxRecDepth 100000 in
theorem f_62_26 : fe 62 26 = some (.iaload, 1, 4, some .int) := fe_of pg_62 rfl
set_option maxRecDepth 100000 in
theorem f_62_27 : fe 62 27 = some (.iadd, 1, 4, some .int) := fe_of pg_62 rfl
set_option maxRecDepth 100000 in
theorem f_62_28 : fe 62 28 = some (.istore_n 2, 1, 4, some .int) := fe_of pg_62 rfl
set_option maxRecDepth 100000 in
theorem f_62_29 : fe 62 29 = some (.iinc 3 1, 3, 4, some .int) := fe_of pg_62 rfl
set_option maxRecDepth 100000 in
theorem f_62_32 : fe 62 32 = some (.goto (-28), 3, 4, some .int) := fe_of pg_62 rfl
set_option maxRecDepth 100000 in
theorem f_62_35 : fe 62 35 = some (.iload_n 2, 1, 4, some .int) := fe_of pg_62 rfl
set_option maxRecDepth 100000 in
theorem f_62_36 : fe 62 36 = some (.ireturn, 1, 4, some .int) := fe_of pg_62 rfl
set_option maxRecDepth 100000 in
theorem f_63_0 : fe 63 0 = some (.iload_n 1, 1, 4, some .int) := fe_of pg_63 rfl
set_option maxRecDepth 100000 in
theorem f_63_1 : fe 63 1 = some (.tableswitch 42 0 2 #[27, 32, 37], 27, 4, some .int) := fe_of pg_63 rfl
set_option maxRecDepth 100000 in
theorem f_63_28 : fe 63 28 = some (.aload_n 0, 1, 4, some .int) := fe_of pg_63 rfl
set_option maxRecDepth 100000 in
theorem f_63_29 : fe 63 29 = some (.getfield 33, 3, 4, some .int) := fe_of pg_63 rfl
set_option maxRecDepth 100000 in
theorem f_63_32 : fe 63 32 = some (.ireturn, 1, 4, some .int) := fe_of pg_63 rfl
set_option maxRecDepth 100000 in
theorem f_63_33 : fe 63 33 = some (.aload_n 0, 1, 4, some .int) := fe_of pg_63 rfl
set_option maxRecDepth 100000 in
theorem f_63_34 : fe 63 34 = some (.getfield 37, 3, 4, some .int) := fe_of pg_63 rfl
set_option maxRecDepth 100000 in
theorem f_63_37 : fe 63 37 = some (.ireturn, 1, 4, some .int) := fe_of pg_63 rfl
set_option maxRecDepth 100000 in
theorem f_63_38 : fe 63 38 = some (.aload_n 0, 1, 4, some .int) := fe_of pg_63 rfl
set_option maxRecDepth 100000 in
theorem f_63_39 : fe 63 39 = some (.getfield 40, 3, 4, some .int) := fe_of pg_63 rfl
set_option maxRecDepth 100000 in
theorem f_63_42 : fe 63 42 = some (.ireturn, 1, 4, some .int) := fe_of pg_63 rfl
set_option maxRecDepth 100000 in
theorem f_63_43 : fe 63 43 = some (.iload_n 1, 1, 4, some .int) := fe_of pg_63 rfl
set_option maxRecDepth 100000 in
theorem f_63_44 : fe 63 44 = some (.bipush 10, 2, 4, some .int) := fe_of pg_63 rfl
set_option maxRecDepth 100000 in
theorem f_63_46 : fe 63 46 = some (.if_icmp .ge 7, 3, 4, some .int) := fe_of pg_63 rfl
set_option maxRecDepth 100000 in
theorem f_63_49 : fe 63 49 = some (.iconst (-1), 1, 4, some .int) := fe_of pg_63 rfl
set_option maxRecDepth 100000 in
theorem f_63_50 : fe 63 50 = some (.goto 15, 3, 4, some .int) := fe_of pg_63 rfl
set_option maxRecDepth 100000 in
theorem f_63_53 : fe 63 53 = some (.aload_n 0, 1, 4, some .int) := fe_of pg_63 rfl
set_option maxRecDepth 100000 in
theorem f_63_54 : fe 63 54 = some (.iload_n 1, 1, 4, some .int) := fe_of pg_63 rfl
set_option maxRecDepth 100000 in
theorem f_63_55 : fe 63 55 = some (.bipush 10, 2, 4, some .int) := fe_of pg_63 rfl
set_option maxRecDepth 100000 in
theorem f_63_57 : fe 63 57 = some (.idiv, 1, 4, some .int) := fe_of pg_63 rfl
set_option maxRecDepth 100000 in
theorem f_63_58 : fe 63 58 = some (.iload_n 1, 1, 4, some .int) := fe_of pg_63 rfl
set_option maxRecDepth 100000 in
theorem f_63_59 : fe 63 59 = some (.bipush 10, 2, 4, some .int) := fe_of pg_63 rfl
set_option maxRecDepth 100000 in
theorem f_63_61 : fe 63 61 = some (.irem, 1, 4, some .int) := fe_of pg_63 rfl
set_option maxRecDepth 100000 in
theorem f_63_62 : fe 63 62 = some (.invokevirtual 65, 3, 4, some .int) := fe_of pg_63 rfl
set_option maxRecDepth 100000 in
theorem f_63_65 : fe 63 65 = some (.ireturn, 1, 4, some .int) := fe_of pg_63 rfl
set_option maxRecDepth 100000 in
theorem f_64_0 : fe 64 0 = some (.iload_n 1, 1, 4, some .int) := fe_of pg_64 rfl
set_option maxRecDepth 100000 in
theorem f_64_1 : fe 64 1 = some (.tableswitch 158 1 6 #[39, 58, 77, 96, 112, 134], 39, 4, some .int) := fe_of pg_64 rfl
set_option maxRecDepth 100000 in
theorem f_64_40 : fe 64 40 = some (.iload_n 2, 1, 4, some .int) := fe_of pg_64 rfl
set_option maxRecDepth 100000 in
theorem f_64_41 : fe 64 41 = some (.aload_n 0, 1, 4, some .int) := fe_of pg_64 rfl
set_option maxRecDepth 100000 in
theorem f_64_42 : fe 64 42 = some (.getfield 33, 3, 4, some .int) := fe_of pg_64 rfl
set_option maxRecDepth 100000 in
theorem f_64_45 : fe 64 45 = some (.if_icmp .ge 12, 3, 4, some .int) := fe_of pg_64 rfl
set_option maxRecDepth 100000 in
theorem f_64_48 : fe 64 48 = some (.aload_n 0, 1, 4, some .int) := fe_of pg_64 rfl
set_option maxRecDepth 100000 in
theorem f_64_49 : fe 64 49 = some (.getfield 9, 3, 4, some .int) := fe_of pg_64 rfl
set_option maxRecDepth 100000 in
theorem f_64_52 : fe 64 52 = some (.iload_n 2, 1, 4, some .int) := fe_of pg_64 rfl
set_option maxRecDepth 100000 in
theorem f_64_53 : fe 64 53 = some (.iaload, 1, 4, some .int) := fe_of pg_64 rfl
set_option maxRecDepth 100000 in
theorem f_64_54 : fe 64 54 = some (.goto 4, 3, 4, some .int) := fe_of pg_64 rfl
set_option maxRecDepth 100000 in
theorem f_64_57 : fe 64 57 = some (.iconst (-1), 1, 4, some .int) := fe_of pg_64 rfl
set_option maxRecDepth 100000 in
theorem f_64_58 : fe 64 58 = some (.ireturn, 1, 4, some .int) := fe_of pg_64 rfl
set_option maxRecDepth 100000 in
theorem f_64_59 : fe 64 59 = some (.iload_n 2, 1, 4, some .int) := fe_of pg_64 rfl
set_option maxRecDepth 100000 in
theorem f_64_60 : fe 64 60 = some (.aload_n 0, 1, 4, some .int) := fe_of pg_64 rfl
set_option maxRecDepth 100000 in
theorem f_64_61 : fe 64 61 = some (.getfield 40, 3, 4, some .int) := fe_of pg_64 rfl
set_option maxRecDepth 100000 in
theorem f_64_64 : fe 64 64 = some (.if_icmp .ge 12, 3, 4, some .int) := fe_of pg_64 rfl
set_option maxRecDepth 100000 in
theorem f_64_67 : fe 64 67 = some (.aload_n 0, 1, 4, some .int) := fe_of pg_64 rfl
set_option maxRecDepth 100000 in
theorem f_64_68 : fe 64 68 = some (.getfield 15, 3, 4, some .int) := fe_of pg_64 rfl
set_option maxRecDepth 100000 in
theorem f_64_71 : fe 64 71 = some (.iload_n 2, 1, 4, some .int) := fe_of pg_64 rfl
set_option maxRecDepth 100000 in
theorem f_64_72 : fe 64 72 = some (.iaload, 1, 4, some .int) := fe_of pg_64 rfl
set_option maxRecDepth 100000 in
theorem f_64_73 : fe 64 73 = some (.goto 4, 3, 4, some .int) := fe_of pg_64 rfl
set_option maxRecDepth 100000 in
theorem f_64_76 : fe 64 76 = some (.iconst (-1), 1, 4, some .int) := fe_of pg_64 rfl
set_option maxRecDepth 100000 in
theorem f_64_77 : fe 64 77 = some (.ireturn, 1, 4, some .int) := fe_of pg_64 rfl
set_option maxRecDepth 100000 in
theorem f_64_78 : fe 64 78 = some (.iload_n 2, 1, 4, some .int) := fe_of pg_64 rfl
set_option maxRecDepth 100000 in
theorem f_64_79 : fe 64 79 = some (.aload_n 0, 1, 4, some .int) := fe_of pg_64 rfl
set_option maxRecDepth 100000 in
theorem f_64_80 : fe 64 80 = some (.getfield 40, 3, 4, some .int) := fe_of pg_64 rfl
set_option maxRecDepth 100000 in
theorem f_64_83 : fe 64 83 = some (.if_icmp .ge 12, 3, 4, some .int) := fe_of pg_64 rfl
set_option maxRecDepth 100000 in
theorem f_64_86 : fe 64 86 = some (.aload_n 0, 1, 4, some .int) := fe_of pg_64 rfl
set_option maxRecDepth 100000 in
theorem f_64_87 : fe 64 87 = some (.getfield 18, 3, 4, some .int) := fe_of pg_64 rfl
set_option maxRecDepth 100000 in
theorem f_64_90 : fe 64 90 = some (.iload_n 2, 1, 4, some .int) := fe_of pg_64 rfl
set_option maxRecDepth 100000 in
theorem f_64_91 : fe 64 91 = some (.iaload, 1, 4, some .int) := fe_of pg_64 rfl
set_option maxRecDepth 100000 in
theorem f_64_92 : fe 64 92 = some (.goto 4, 3, 4, some .int) := fe_of pg_64 rfl
set_option maxRecDepth 100000 in
theorem f_64_95 : fe 64 95 = some (.iconst (-1), 1, 4, some .int) := fe_of pg_64 rfl
set_option maxRecDepth 100000 in
theorem f_64_96 : fe 64 96 = some (.ireturn, 1, 4, some .int) := fe_of pg_64 rfl
set_option maxRecDepth 100000 in
theorem f_64_97 : fe 64 97 = some (.iload_n 2, 1, 4, some .int) := fe_of pg_64 rfl
set_option maxRecDepth 100000 in
theorem f_64_98 : fe 64 98 = some (.iconst 4, 1, 4, some .int) := fe_of pg_64 rfl
set_option maxRecDepth 100000 in
theorem f_64_99 : fe 64 99 = some (.if_icmp .ge 12, 3, 4, some .int) := fe_of pg_64 rfl
set_option maxRecDepth 100000 in
theorem f_64_102 : fe 64 102 = some (.aload_n 0, 1, 4, some .int) := fe_of pg_64 rfl
set_option maxRecDepth 100000 in
theorem f_64_103 : fe 64 103 = some (.getfield 21, 3, 4, some .int) := fe_of pg_64 rfl
set_option maxRecDepth 100000 in
theorem f_64_106 : fe 64 106 = some (.iload_n 2, 1, 4, some .int) := fe_of pg_64 rfl
set_option maxRecDepth 100000 in
theorem f_64_107 : fe 64 107 = some (.iaload, 1, 4, some .int) := fe_of pg_64 rfl
set_option maxRecDepth 100000 in
theorem f_64_108 : fe 64 108 = some (.goto 4, 3, 4, some .int) := fe_of pg_64 rfl
set_option maxRecDepth 100000 in
theorem f_64_111 : fe 64 111 = some (.iconst (-1), 1, 4, some .int) := fe_of pg_64 rfl
set_option maxRecDepth 100000 in
theorem f_64_112 : fe 64 112 = some (.ireturn, 1, 4, some .int) := fe_of pg_64 rfl
set_option maxRecDepth 100000 in
theorem f_64_113 : fe 64 113 = some (.iload_n 2, 1, 4, some .int) := fe_of pg_64 rfl
set_option maxRecDepth 100000 in
theorem f_64_114 : fe 64 114 = some (.iconst 1, 1, 4, some .int) := fe_of pg_64 rfl
set_option maxRecDepth 100000 in
theorem f_64_115 : fe 64 115 = some (.if_icmp .lt 18, 3, 4, some .int) := fe_of pg_64 rfl
set_option maxRecDepth 100000 in
theorem f_64_118 : fe 64 118 = some (.iload_n 2, 1, 4, some .int) := fe_of pg_64 rfl
set_option maxRecDepth 100000 in
theorem f_64_119 : fe 64 119 = some (.bipush 8, 2, 4, some .int) := fe_of pg_64 rfl
set_option maxRecDepth 100000 in
theorem f_64_121 : fe 64 121 = some (.if_icmp .gt 12, 3, 4, some .int) := fe_of pg_64 rfl
set_option maxRecDepth 100000 in
theorem f_64_124 : fe 64 124 = some (.aload_n 0, 1, 4, some .int) := fe_of pg_64 rfl
set_option maxRecDepth 100000 in
theorem f_64_125 : fe 64 125 = some (.getfield 24, 3, 4, some .int) := fe_of pg_64 rfl
set_option maxRecDepth 100000 in
theorem f_64_128 : fe 64 128 = some (.iload_n 2, 1, 4, some .int) := fe_of pg_64 rfl
set_option maxRecDepth 100000 in
theorem f_64_129 : fe 64 129 = some (.iaload, 1, 4, some .int) := fe_of pg_64 rfl
set_option maxRecDepth 100000 in
theorem f_64_130 : fe 64 130 = some (.goto 4, 3, 4, some .int) := fe_of pg_64 rfl
set_option maxRecDepth 100000 in
theorem f_64_133 : fe 64 133 = some (.iconst (-1), 1, 4, some .int) := fe_of pg_64 rfl
set_option maxRecDepth 100000 in
theorem f_64_134 : fe 64 134 = some (.ireturn, 1, 4, some .int) := fe_of pg_64 rfl
set_option maxRecDepth 100000 in
theorem f_64_135 : fe 64 135 = some (.iload_n 2, 1, 4, some .int) := fe_of pg_64 rfl
set_option maxRecDepth 100000 in
theorem f_64_136 : fe 64 136 = some (.aload_n 0, 1, 4, some .int) := fe_of pg_64 rfl
set_option maxRecDepth 100000 in
theorem f_64_137 : fe 64 137 = some (.getfield 40, 3, 4, some .int) := fe_of pg_64 rfl
set_option maxRecDepth 100000 in
theorem f_64_140 : fe 64 140 = some (.if_icmp .ge 17, 3, 4, some .int) := fe_of pg_64 rfl
set_option maxRecDepth 100000 in
theorem f_64_143 : fe 64 143 = some (.aload_n 0, 1, 4, some .int) := fe_of pg_64 rfl
set_option maxRecDepth 100000 in
theorem f_64_144 : fe 64 144 = some (.iload_n 2, 1, 4, some .int) := fe_of pg_64 rfl
set_option maxRecDepth 100000 in
theorem f_64_145 : fe 64 145 = some (.aload_n 0, 1, 4, some .int) := fe_of pg_64 rfl
set_option maxRecDepth 100000 in
theorem f_64_146 : fe 64 146 = some (.getfield 18, 3, 4, some .int) := fe_of pg_64 rfl
set_option maxRecDepth 100000 in
theorem f_64_149 : fe 64 149 = some (.iload_n 2, 1, 4, some .int) := fe_of pg_64 rfl
set_option maxRecDepth 100000 in
theorem f_64_150 : fe 64 150 = some (.iaload, 1, 4, some .int) := fe_of pg_64 rfl
set_option maxRecDepth 100000 in
theorem f_64_151 : fe 64 151 = some (.invokevirtual 69, 3, 4, some .int) := fe_of pg_64 rfl
set_option maxRecDepth 100000 in
theorem f_64_154 : fe 64 154 = some (.goto 4, 3, 4, some .int) := fe_of pg_64 rfl
set_option maxRecDepth 100000 in
theorem f_64_157 : fe 64 157 = some (.iconst (-1), 1, 4, some .int) := fe_of pg_64 rfl
set_option maxRecDepth 100000 in
theorem f_64_158 : fe 64 158 = some (.ireturn, 1, 4, some .int) := fe_of pg_64 rfl
set_option maxRecDepth 100000 in
theorem f_64_159 : fe 64 159 = some (.iconst (-1), 1, 4, some .int) := fe_of pg_64 rfl
set_option maxRecDepth 100000 in
theorem f_64_160 : fe 64 160 = some (.ireturn, 1, 4, some .int) := fe_of pg_64 rfl
set_option maxRecDepth 100000 in
theorem f_65_0 : fe 65 0 = some (.iload_n 1, 1, 4, some .int) := fe_of pg_65 rfl
set_option maxRecDepth 100000 in
theorem f_65_1 : fe 65 1 = some (.iconst 0, 1, 4, some .int) := fe_of pg_65 rfl
set_option maxRecDepth 100000 in
theorem f_65_2 : fe 65 2 = some (.bipush 8, 2, 4, some .int) := fe_of pg_65 rfl
set_option maxRecDepth 100000 in
theorem f_65_4 : fe 65 4 = some (.invokestatic 72, 3, 4, some .int) := fe_of pg_65 rfl
set_option maxRecDepth 100000 in
theorem f_65_7 : fe 65 7 = some (.istore_n 2, 1, 4, some .int) := fe_of pg_65 rfl
set_option maxRecDepth 100000 in
theorem f_65_8 : fe 65 8 = some (.aload_n 0, 1, 4, some .int) := fe_of pg_65 rfl
set_option maxRecDepth 100000 in
theorem f_65_9 : fe 65 9 = some (.getfield 27, 3, 4, some .int) := fe_of pg_65 rfl
set_option maxRecDepth 100000 in
theorem f_65_12 : fe 65 12 = some (.iconst 0, 1, 4, some .int) := fe_of pg_65 rfl
set_option maxRecDepth 100000 in
theorem f_65_13 : fe 65 13 = some (.iconst 0, 1, 4, some .int) := fe_of pg_65 rfl
set_option maxRecDepth 100000 in
theorem f_65_14 : fe 65 14 = some (.iastore, 1, 4, some .int) := fe_of pg_65 rfl
set_option maxRecDepth 100000 in
theorem f_65_15 : fe 65 15 = some (.iconst 1, 1, 4, some .int) := fe_of pg_65 rfl
set_option maxRecDepth 100000 in
theorem f_65_16 : fe 65 16 = some (.istore_n 3, 1, 4, some .int) := fe_of pg_65 rfl
set_option maxRecDepth 100000 in
theorem f_65_17 : fe 65 17 = some (.iload_n 3, 1, 4, some .int) := fe_of pg_65 rfl
set_option maxRecDepth 100000 in
theorem f_65_18 : fe 65 18 = some (.iload_n 2, 1, 4, some .int) := fe_of pg_65 rfl
set_option maxRecDepth 100000 in
theorem f_65_19 : fe 65 19 = some (.if_icmp .gt 74, 3, 4, some .int) := fe_of pg_65 rfl
set_option maxRecDepth 100000 in
theorem f_65_22 : fe 65 22 = some (.aload_n 0, 1, 4, some .int) := fe_of pg_65 rfl
set_option maxRecDepth 100000 in
theorem f_65_23 : fe 65 23 = some (.getfield 24, 3, 4, some .int) := fe_of pg_65 rfl
set_option maxRecDepth 100000 in
theorem f_65_26 : fe 65 26 = some (.iload_n 3, 1, 4, some .int) := fe_of pg_65 rfl
set_option maxRecDepth 100000 in
theorem f_65_27 : fe 65 27 = some (.iaload, 1, 4, some .int) := fe_of pg_65 rfl
set_option maxRecDepth 100000 in
theorem f_65_28 : fe 65 28 = some (.bipush 16, 2, 4, some .int) := fe_of pg_65 rfl
set_option maxRecDepth 100000 in
theorem f_65_30 : fe 65 30 = some (.imul, 1, 4, some .int) := fe_of pg_65 rfl
set_option maxRecDepth 100000 in
theorem f_65_31 : fe 65 31 = some (.iconst 1, 1, 4, some .int) := fe_of pg_65 rfl
set_option maxRecDepth 100000 in
theorem f_65_32 : fe 65 32 = some (.iadd, 1, 4, some .int) := fe_of pg_65 rfl
set_option maxRecDepth 100000 in
theorem f_65_33 : fe 65 33 = some (.istore 4, 2, 4, some .int) := fe_of pg_65 rfl
set_option maxRecDepth 100000 in
theorem f_65_35 : fe 65 35 = some (.iconst 1, 1, 4, some .int) := fe_of pg_65 rfl
set_option maxRecDepth 100000 in
theorem f_65_36 : fe 65 36 = some (.istore 5, 2, 4, some .int) := fe_of pg_65 rfl
set_option maxRecDepth 100000 in
theorem f_65_38 : fe 65 38 = some (.iload 5, 2, 4, some .int) := fe_of pg_65 rfl
set_option maxRecDepth 100000 in
theorem f_65_40 : fe 65 40 = some (.iload_n 3, 1, 4, some .int) := fe_of pg_65 rfl
set_option maxRecDepth 100000 in
theorem f_65_41 : fe 65 41 = some (.if_icmp .ge 38, 3, 4, some .int) := fe_of pg_65 rfl
set_option maxRecDepth 100000 in
theorem f_65_44 : fe 65 44 = some (.iload 4, 2, 4, some .int) := fe_of pg_65 rfl
set_option maxRecDepth 100000 in
theorem f_65_46 : fe 65 46 = some (.aload_n 0, 1, 4, some .int) := fe_of pg_65 rfl
set_option maxRecDepth 100000 in
theorem f_65_47 : fe 65 47 = some (.getfield 24, 3, 4, some .int) := fe_of pg_65 rfl
set_option maxRecDepth 100000 in
theorem f_65_50 : fe 65 50 = some (.iload 5, 2, 4, some .int) := fe_of pg_65 rfl
set_option maxRecDepth 100000 in
theorem f_65_52 : fe 65 52 = some (.iaload, 1, 4, some .int) := fe_of pg_65 rfl
set_option maxRecDepth 100000 in
theorem f_65_53 : fe 65 53 = some (.bipush 16, 2, 4, some .int) := fe_of pg_65 rfl
set_option maxRecDepth 100000 in
theorem f_65_55 : fe 65 55 = some (.imul, 1, 4, some .int) := fe_of pg_65 rfl
set_option maxRecDepth 100000 in
theorem f_65_56 : fe 65 56 = some (.iconst 1, 1, 4, some .int) := fe_of pg_65 rfl
set_option maxRecDepth 100000 in
theorem f_65_57 : fe 65 57 = some (.iadd, 1, 4, some .int) := fe_of pg_65 rfl
set_option maxRecDepth 100000 in
theorem f_65_58 : fe 65 58 = some (.aload_n 0, 1, 4, some .int) := fe_of pg_65 rfl
set_option maxRecDepth 100000 in
theorem f_65_59 : fe 65 59 = some (.getfield 27, 3, 4, some .int) := fe_of pg_65 rfl
set_option maxRecDepth 100000 in
theorem f_65_62 : fe 65 62 = some (.iload_n 3, 1, 4, some .int) := fe_of pg_65 rfl
set_option maxRecDepth 100000 in
theorem f_65_63 : fe 65 63 = some (.iload 5, 2, 4, some .int) := fe_of pg_65 rfl
set_option maxRecDepth 100000 in
theorem f_65_65 : fe 65 65 = some (.isub, 1, 4, some .int) := fe_of pg_65 rfl
set_option maxRecDepth 100000 in
theorem f_65_66 : fe 65 66 = some (.iaload, 1, 4, some .int) := fe_of pg_65 rfl
set_option maxRecDepth 100000 in
theorem f_65_67 : fe 65 67 = some (.iadd, 1, 4, some .int) := fe_of pg_65 rfl
set_option maxRecDepth 100000 in
theorem f_65_68 : fe 65 68 = some (.invokestatic 76, 3, 4, some .int) := fe_of pg_65 rfl
set_option maxRecDepth 100000 in
theorem f_65_71 : fe 65 71 = some (.istore 4, 2, 4, some .int) := fe_of pg_65 rfl
set_option maxRecDepth 100000 in
theorem f_65_73 : fe 65 73 = some (.iinc 5 1, 3, 4, some .int) := fe_of pg_65 rfl
set_option maxRecDepth 100000 in
theorem f_65_76 : fe 65 76 = some (.goto (-38), 3, 4, some .int) := fe_of pg_65 rfl
set_option maxRecDepth 100000 in
theorem f_65_79 : fe 65 79 = some (.aload_n 0, 1, 4, some .int) := fe_of pg_65 rfl
set_option maxRecDepth 100000 in
theorem f_65_80 : fe 65 80 = some (.getfield 27, 3, 4, some .int) := fe_of pg_65 rfl
set_option maxRecDepth 100000 in
theorem f_65_83 : fe 65 83 = some (.iload_n 3, 1, 4, some .int) := fe_of pg_65 rfl
set_option maxRecDepth 100000 in
theorem f_65_84 : fe 65 84 = some (.iload 4, 2, 4, some .int) := fe_of pg_65 rfl
set_option maxRecDepth 100000 in
theorem f_65_86 : fe 65 86 = some (.iastore, 1, 4, some .int) := fe_of pg_65 rfl
set_option maxRecDepth 100000 in
theorem f_65_87 : fe 65 87 = some (.iinc 3 1, 3, 4, some .int) := fe_of pg_65 rfl
set_option maxRecDepth 100000 in
theorem f_65_90 : fe 65 90 = some (.goto (-73), 3, 4, some .int) := fe_of pg_65 rfl
set_option maxRecDepth 100000 in
theorem f_65_93 : fe 65 93 = some (.aload_n 0, 1, 4, some .int) := fe_of pg_65 rfl
set_option maxRecDepth 100000 in
theorem f_65_94 : fe 65 94 = some (.getfield 27, 3, 4, some .int) := fe_of pg_65 rfl
set_option maxRecDepth 100000 in
theorem f_65_97 : fe 65 97 = some (.iload_n 2, 1, 4, some .int) := fe_of pg_65 rfl
set_option maxRecDepth 100000 in
theorem f_65_98 : fe 65 98 = some (.iaload, 1, 4, some .int) := fe_of pg_65 rfl
set_option maxRecDepth 100000 in
theorem f_65_99 : fe 65 99 = some (.ireturn, 1, 4, some .int) := fe_of pg_65 rfl
set_option maxRecDepth 100000 in
theorem f_66_0 : fe 66 0 = some (.iload_n 2, 1, 4, some .int) := fe_of pg_66 rfl
set_option maxRecDepth 100000 in
theorem f_66_1 : fe 66 1 = some (.istore_n 3, 1, 4, some .int) := fe_of pg_66 rfl
set_option maxRecDepth 100000 in
theorem f_66_2 : fe 66 2 = some (.iload_n 2, 1, 4, some .int) := fe_of pg_66 rfl
set_option maxRecDepth 100000 in
theorem f_66_3 : fe 66 3 = some (.iconst 1, 1, 4, some .int) := fe_of pg_66 rfl
set_option maxRecDepth 100000 in
theorem f_66_4 : fe 66 4 = some (.iadd, 1, 4, some .int) := fe_of pg_66 rfl
set_option maxRecDepth 100000 in
theorem f_66_5 : fe 66 5 = some (.istore 4, 2, 4, some .int) := fe_of pg_66 rfl
set_option maxRecDepth 100000 in
theorem f_66_7 : fe 66 7 = some (.iload 4, 2, 4, some .int) := fe_of pg_66 rfl
set_option maxRecDepth 100000 in
theorem f_66_9 : fe 66 9 = some (.aload_n 0, 1, 4, some .int) := fe_of pg_66 rfl
set_option maxRecDepth 100000 in
theorem f_66_10 : fe 66 10 = some (.getfield 33, 3, 4, some .int) := fe_of pg_66 rfl
set_option maxRecDepth 100000 in
theorem f_66_13 : fe 66 13 = some (.if_icmp .gt 32, 3, 4, some .int) := fe_of pg_66 rfl
set_option maxRecDepth 100000 in
theorem f_66_16 : fe 66 16 = some (.aload_n 0, 1, 4, some .int) := fe_of pg_66 rfl
set_option maxRecDepth 100000 in
theorem f_66_17 : fe 66 17 = some (.getfield 24, 3, 4, some .int) := fe_of pg_66 rfl
set_option maxRecDepth 100000 in
theorem f_66_20 : fe 66 20 = some (.iload 4, 2, 4, some .int) := fe_of pg_66 rfl
set_option maxRecDepth 100000 in
theorem f_66_22 : fe 66 22 = some (.iload_n 1, 1, 4, some .int) := fe_of pg_66 rfl
set_option maxRecDepth 100000 in
theorem f_66_23 : fe 66 23 = some (.isub, 1, 4, some .int) := fe_of pg_66 rfl
set_option maxRecDepth 100000 in
theorem f_66_24 : fe 66 24 = some (.iaload, 1, 4, some .int) := fe_of pg_66 rfl
set_option maxRecDepth 100000 in
theorem f_66_25 : fe 66 25 = some (.aload_n 0, 1, 4, some .int) := fe_of pg_66 rfl
set_option maxRecDepth 100000 in
theorem f_66_26 : fe 66 26 = some (.getfield 24, 3, 4, some .int) := fe_of pg_66 rfl
set_option maxRecDepth 100000 in
theorem f_66_29 : fe 66 29 = some (.iload_n 3, 1, 4, some .int) := fe_of pg_66 rfl
set_option maxRecDepth 100000 in
theorem f_66_30 : fe 66 30 = some (.iload_n 1, 1, 4, some .int) := fe_of pg_66 rfl
set_option maxRecDepth 100000 in
theorem f_66_31 : fe 66 31 = some (.isub, 1, 4, some .int) := fe_of pg_66 rfl
set_option maxRecDepth 100000 in
theorem f_66_32 : fe 66 32 = some (.iaload, 1, 4, some .int) := fe_of pg_66 rfl
set_option maxRecDepth 100000 in
theorem f_66_33 : fe 66 33 = some (.if_icmp .ge 6, 3, 4, some .int) := fe_of pg_66 rfl
set_option maxRecDepth 100000 in
theorem f_66_36 : fe 66 36 = some (.iload 4, 2, 4, some .int) := fe_of pg_66 rfl
set_option maxRecDepth 100000 in
theorem f_66_38 : fe 66 38 = some (.istore_n 3, 1, 4, some .int) := fe_of pg_66 rfl
set_option maxRecDepth 100000 in
theorem f_66_39 : fe 66 39 = some (.iinc 4 1, 3, 4, some .int) := fe_of pg_66 rfl
set_option maxRecDepth 100000 in
theorem f_66_42 : fe 66 42 = some (.goto (-35), 3, 4, some .int) := fe_of pg_66 rfl
set_option maxRecDepth 100000 in
theorem f_66_45 : fe 66 45 = some (.iload_n 3, 1, 4, some .int) := fe_of pg_66 rfl
set_option maxRecDepth 100000 in
theorem f_66_46 : fe 66 46 = some (.ireturn, 1, 4, some .int) := fe_of pg_66 rfl
set_option maxRecDepth 100000 in
theorem f_67_0 : fe 67 0 = some (.iconst 0, 1, 4, some .int) := fe_of pg_67 rfl
set_option maxRecDepth 100000 in
theorem f_67_1 : fe 67 1 = some (.istore_n 2, 1, 4, some .int) := fe_of pg_67 rfl
set_option maxRecDepth 100000 in
theorem f_67_2 : fe 67 2 = some (.iload_n 2, 1, 4, some .int) := fe_of pg_67 rfl
set_option maxRecDepth 100000 in
theorem f_67_3 : fe 67 3 = some (.aload_n 0, 1, 4, some .int) := fe_of pg_67 rfl
set_option maxRecDepth 100000 in
theorem f_67_4 : fe 67 4 = some (.getfield 33, 3, 4, some .int) := fe_of pg_67 rfl
set_option maxRecDepth 100000 in
theorem f_67_7 : fe 67 7 = some (.if_icmp .ge 20, 3, 4, some .int) := fe_of pg_67 rfl
set_option maxRecDepth 100000 in
theorem f_67_10 : fe 67 10 = some (.aload_n 0, 1, 4, some .int) := fe_of pg_67 rfl
set_option maxRecDepth 100000 in
theorem f_67_11 : fe 67 11 = some (.iload_n 2, 1, 4, some .int) := fe_of pg_67 rfl
set_option maxRecDepth 100000 in
theorem f_67_12 : fe 67 12 = some (.invokevirtual 81, 3, 4, some .int) := fe_of pg_67 rfl
set_option maxRecDepth 100000 in
theorem f_67_15 : fe 67 15 = some (.iload_n 1, 1, 4, some .int) := fe_of pg_67 rfl
set_option maxRecDepth 100000 in
theorem f_67_16 : fe 67 16 = some (.if_icmp .ne 5, 3, 4, some .int) := fe_of pg_67 rfl
set_option maxRecDepth 100000 in
theorem f_67_19 : fe 67 19 = some (.iload_n 2, 1, 4, some .int) := fe_of pg_67 rfl
set_option maxRecDepth 100000 in
theorem f_67_20 : fe 67 20 = some (.ireturn, 1, 4, some .int) := fe_of pg_67 rfl
set_option maxRecDepth 100000 in
theorem f_67_21 : fe 67 21 = some (.iinc 2 1, 3, 4, some .int) := fe_of pg_67 rfl
set_option maxRecDepth 100000 in
theorem f_67_24 : fe 67 24 = some (.goto (-22), 3, 4, some .int) := fe_of pg_67 rfl
set_option maxRecDepth 100000 in
theorem f_67_27 : fe 67 27 = some (.iconst (-1), 1, 4, some .int) := fe_of pg_67 rfl
set_option maxRecDepth 100000 in
theorem f_67_28 : fe 67 28 = some (.ireturn, 1, 4, some .int) := fe_of pg_67 rfl
set_option maxRecDepth 100000 in
theorem f_68_0 : fe 68 0 = some (.iconst 0, 1, 4, some .int) := fe_of pg_68 rfl
set_option maxRecDepth 100000 in
theorem f_68_1 : fe 68 1 = some (.istore_n 2, 1, 4, some .int) := fe_of pg_68 rfl
set_option maxRecDepth 100000 in
theorem f_68_2 : fe 68 2 = some (.iconst 0, 1, 4, some .int) := fe_of pg_68 rfl
set_option maxRecDepth 100000 in
theorem f_68_3 : fe 68 3 = some (.istore_n 3, 1, 4, some .int) := fe_of pg_68 rfl
set_option maxRecDepth 100000 in
theorem f_68_4 : fe 68 4 = some (.iload_n 3, 1, 4, some .int) := fe_of pg_68 rfl
set_option maxRecDepth 100000 in
theorem f_68_5 : fe 68 5 = some (.aload_n 0, 1, 4, some .int) := fe_of pg_68 rfl
set_option maxRecDepth 100000 in
theorem f_68_6 : fe 68 6 = some (.getfield 33, 3, 4, some .int) := fe_of pg_68 rfl
set_option maxRecDepth 100000 in
theorem f_68_9 : fe 68 9 = some (.if_icmp .ge 47, 3, 4, some .int) := fe_of pg_68 rfl
set_option maxRecDepth 100000 in
theorem f_68_12 : fe 68 12 = some (.aload_n 0, 1, 4, some .int) := fe_of pg_68 rfl
set_option maxRecDepth 100000 in
theorem f_68_13 : fe 68 13 = some (.getfield 9, 3, 4, some .int) := fe_of pg_68 rfl
set_option maxRecDepth 100000 in
theorem f_68_16 : fe 68 16 = some (.iload_n 3, 1, 4, some .int) := fe_of pg_68 rfl
set_option maxRecDepth 100000 in
theorem f_68_17 : fe 68 17 = some (.iaload, 1, 4, some .int) := fe_of pg_68 rfl
set_option maxRecDepth 100000 in
theorem f_68_18 : fe 68 18 = some (.aload_n 0, 1, 4, some .int) := fe_of pg_68 rfl
set_option maxRecDepth 100000 in
theorem f_68_19 : fe 68 19 = some (.getfield 9, 3, 4, some .int) := fe_of pg_68 rfl
set_option maxRecDepth 100000 in
theorem f_68_22 : fe 68 22 = some (.iload_n 1, 1, 4, some .int) := fe_of pg_68 rfl
set_option maxRecDepth 100000 in
theorem f_68_23 : fe 68 23 = some (.iaload, 1, 4, some .int) := fe_of pg_68 rfl
set_option maxRecDepth 100000 in
theorem f_68_24 : fe 68 24 = some (.if_icmp .gt 23, 3, 4, some .int) := fe_of pg_68 rfl
set_option maxRecDepth 100000 in
theorem f_68_27 : fe 68 27 = some (.aload_n 0, 1, 4, some .int) := fe_of pg_68 rfl
set_option maxRecDepth 100000 in
theorem f_68_28 : fe 68 28 = some (.getfield 9, 3, 4, some .int) := fe_of pg_68 rfl
set_option maxRecDepth 100000 in
theorem f_68_31 : fe 68 31 = some (.iload_n 3, 1, 4, some .int) := fe_of pg_68 rfl
set_option maxRecDepth 100000 in
theorem f_68_32 : fe 68 32 = some (.iaload, 1, 4, some .int) := fe_of pg_68 rfl
set_option maxRecDepth 100000 in
theorem f_68_33 : fe 68 33 = some (.aload_n 0, 1, 4, some .int) := fe_of pg_68 rfl
set_option maxRecDepth 100000 in
theorem f_68_34 : fe 68 34 = some (.getfield 9, 3, 4, some .int) := fe_of pg_68 rfl
set_option maxRecDepth 100000 in
theorem f_68_37 : fe 68 37 = some (.iload_n 1, 1, 4, some .int) := fe_of pg_68 rfl
set_option maxRecDepth 100000 in
theorem f_68_38 : fe 68 38 = some (.iaload, 1, 4, some .int) := fe_of pg_68 rfl
set_option maxRecDepth 100000 in
theorem f_68_39 : fe 68 39 = some (.if_icmp .ne 11, 3, 4, some .int) := fe_of pg_68 rfl
set_option maxRecDepth 100000 in
theorem f_68_42 : fe 68 42 = some (.iload_n 3, 1, 4, some .int) := fe_of pg_68 rfl
set_option maxRecDepth 100000 in
theorem f_68_43 : fe 68 43 = some (.iload_n 1, 1, 4, some .int) := fe_of pg_68 rfl
set_option maxRecDepth 100000 in
theorem f_68_44 : fe 68 44 = some (.if_icmp .ge 6, 3, 4, some .int) := fe_of pg_68 rfl
set_option maxRecDepth 100000 in
theorem f_68_47 : fe 68 47 = some (.iinc 2 1, 3, 4, some .int) := fe_of pg_68 rfl
set_option maxRecDepth 100000 in
theorem f_68_50 : fe 68 50 = some (.iinc 3 1, 3, 4, some .int) := fe_of pg_68 rfl
set_option maxRecDepth 100000 in
theorem f_68_53 : fe 68 53 = some (.goto (-49), 3, 4, some .int) := fe_of pg_68 rfl
set_option maxRecDepth 100000 in
theorem f_68_56 : fe 68 56 = some (.iload_n 2, 1, 4, some .int) := fe_of pg_68 rfl
set_option maxRecDepth 100000 in
theorem f_68_57 : fe 68 57 = some (.ireturn, 1, 4, some .int) := fe_of pg_68 rfl
