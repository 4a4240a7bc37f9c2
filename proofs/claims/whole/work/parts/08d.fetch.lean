set_option maxRecDepth 100000 in
theorem f_69_0 : fe 69 0 = some (.aload_n 0, 1, 5, none) := fe_of pg_69 rfl
set_option maxRecDepth 100000 in
theorem f_69_1 : fe 69 1 = some (.invokespecial 3, 3, 5, none) := fe_of pg_69 rfl
set_option maxRecDepth 100000 in
theorem f_69_4 : fe 69 4 = some (.aload_n 0, 1, 5, none) := fe_of pg_69 rfl
set_option maxRecDepth 100000 in
theorem f_69_5 : fe 69 5 = some (.new 9, 3, 5, none) := fe_of pg_69 rfl
set_option maxRecDepth 100000 in
theorem f_69_8 : fe 69 8 = some (.dup, 1, 5, none) := fe_of pg_69 rfl
set_option maxRecDepth 100000 in
theorem f_69_9 : fe 69 9 = some (.invokespecial 11, 3, 5, none) := fe_of pg_69 rfl
set_option maxRecDepth 100000 in
theorem f_69_12 : fe 69 12 = some (.putfield 12, 3, 5, none) := fe_of pg_69 rfl
set_option maxRecDepth 100000 in
theorem f_69_15 : fe 69 15 = some (.aload_n 0, 1, 5, none) := fe_of pg_69 rfl
set_option maxRecDepth 100000 in
theorem f_69_16 : fe 69 16 = some (.new 18, 3, 5, none) := fe_of pg_69 rfl
set_option maxRecDepth 100000 in
theorem f_69_19 : fe 69 19 = some (.dup, 1, 5, none) := fe_of pg_69 rfl
set_option maxRecDepth 100000 in
theorem f_69_20 : fe 69 20 = some (.invokespecial 20, 3, 5, none) := fe_of pg_69 rfl
set_option maxRecDepth 100000 in
theorem f_69_23 : fe 69 23 = some (.putfield 21, 3, 5, none) := fe_of pg_69 rfl
set_option maxRecDepth 100000 in
theorem f_69_26 : fe 69 26 = some (.aload_n 0, 1, 5, none) := fe_of pg_69 rfl
set_option maxRecDepth 100000 in
theorem f_69_27 : fe 69 27 = some (.new 25, 3, 5, none) := fe_of pg_69 rfl
set_option maxRecDepth 100000 in
theorem f_69_30 : fe 69 30 = some (.dup, 1, 5, none) := fe_of pg_69 rfl
set_option maxRecDepth 100000 in
theorem f_69_31 : fe 69 31 = some (.invokespecial 27, 3, 5, none) := fe_of pg_69 rfl
set_option maxRecDepth 100000 in
theorem f_69_34 : fe 69 34 = some (.putfield 28, 3, 5, none) := fe_of pg_69 rfl
set_option maxRecDepth 100000 in
theorem f_69_37 : fe 69 37 = some (.aload_n 0, 1, 5, none) := fe_of pg_69 rfl
set_option maxRecDepth 100000 in
theorem f_69_38 : fe 69 38 = some (.new 32, 3, 5, none) := fe_of pg_69 rfl
set_option maxRecDepth 100000 in
theorem f_69_41 : fe 69 41 = some (.dup, 1, 5, none) := fe_of pg_69 rfl
set_option maxRecDepth 100000 in
theorem f_69_42 : fe 69 42 = some (.invokespecial 34, 3, 5, none) := fe_of pg_69 rfl
set_option maxRecDepth 100000 in
theorem f_69_45 : fe 69 45 = some (.putfield 35, 3, 5, none) := fe_of pg_69 rfl
set_option maxRecDepth 100000 in
theorem f_69_48 : fe 69 48 = some (.aload_n 0, 1, 5, none) := fe_of pg_69 rfl
set_option maxRecDepth 100000 in
theorem f_69_49 : fe 69 49 = some (.iconst 0, 1, 5, none) := fe_of pg_69 rfl
set_option maxRecDepth 100000 in
theorem f_69_50 : fe 69 50 = some (.newarray .byte, 2, 5, none) := fe_of pg_69 rfl
set_option maxRecDepth 100000 in
theorem f_69_52 : fe 69 52 = some (.putfield 39, 3, 5, none) := fe_of pg_69 rfl
set_option maxRecDepth 100000 in
theorem f_69_55 : fe 69 55 = some (.aload_n 0, 1, 5, none) := fe_of pg_69 rfl
set_option maxRecDepth 100000 in
theorem f_69_56 : fe 69 56 = some (.iconst 2, 1, 5, none) := fe_of pg_69 rfl
set_option maxRecDepth 100000 in
theorem f_69_57 : fe 69 57 = some (.newarray .int, 2, 5, none) := fe_of pg_69 rfl
set_option maxRecDepth 100000 in
theorem f_69_59 : fe 69 59 = some (.putfield 43, 3, 5, none) := fe_of pg_69 rfl
set_option maxRecDepth 100000 in
theorem f_69_62 : fe 69 62 = some (.return_, 1, 5, none) := fe_of pg_69 rfl
set_option maxRecDepth 100000 in
theorem f_70_0 : fe 70 0 = some (.aload_n 0, 1, 5, none) := fe_of pg_70 rfl
set_option maxRecDepth 100000 in
theorem f_70_1 : fe 70 1 = some (.aload_n 1, 1, 5, none) := fe_of pg_70 rfl
set_option maxRecDepth 100000 in
theorem f_70_2 : fe 70 2 = some (.putfield 39, 3, 5, none) := fe_of pg_70 rfl
set_option maxRecDepth 100000 in
theorem f_70_5 : fe 70 5 = some (.aload_n 0, 1, 5, none) := fe_of pg_70 rfl
set_option maxRecDepth 100000 in
theorem f_70_6 : fe 70 6 = some (.iload_n 2, 1, 5, none) := fe_of pg_70 rfl
set_option maxRecDepth 100000 in
theorem f_70_7 : fe 70 7 = some (.iconst 0, 1, 5, none) := fe_of pg_70 rfl
set_option maxRecDepth 100000 in
theorem f_70_8 : fe 70 8 = some (.aload_n 1, 1, 5, none) := fe_of pg_70 rfl
set_option maxRecDepth 100000 in
theorem f_70_9 : fe 70 9 = some (.arraylength, 1, 5, none) := fe_of pg_70 rfl
set_option maxRecDepth 100000 in
theorem f_70_10 : fe 70 10 = some (.invokestatic 47, 3, 5, none) := fe_of pg_70 rfl
set_option maxRecDepth 100000 in
theorem f_70_13 : fe 70 13 = some (.putfield 51, 3, 5, none) := fe_of pg_70 rfl
set_option maxRecDepth 100000 in
theorem f_70_16 : fe 70 16 = some (.aload_n 0, 1, 5, none) := fe_of pg_70 rfl
set_option maxRecDepth 100000 in
theorem f_70_17 : fe 70 17 = some (.iconst 0, 1, 5, none) := fe_of pg_70 rfl
set_option maxRecDepth 100000 in
theorem f_70_18 : fe 70 18 = some (.putfield 55, 3, 5, none) := fe_of pg_70 rfl
set_option maxRecDepth 100000 in
theorem f_70_21 : fe 70 21 = some (.aload_n 0, 1, 5, none) := fe_of pg_70 rfl
set_option maxRecDepth 100000 in
theorem f_70_22 : fe 70 22 = some (.iconst 0, 1, 5, none) := fe_of pg_70 rfl
set_option maxRecDepth 100000 in
theorem f_70_23 : fe 70 23 = some (.putfield 58, 3, 5, none) := fe_of pg_70 rfl
set_option maxRecDepth 100000 in
theorem f_70_26 : fe 70 26 = some (.aload_n 0, 1, 5, none) := fe_of pg_70 rfl
set_option maxRecDepth 100000 in
theorem f_70_27 : fe 70 27 = some (.iconst (-1), 1, 5, none) := fe_of pg_70 rfl
set_option maxRecDepth 100000 in
theorem f_70_28 : fe 70 28 = some (.putfield 61, 3, 5, none) := fe_of pg_70 rfl
set_option maxRecDepth 100000 in
theorem f_70_31 : fe 70 31 = some (.aload_n 0, 1, 5, none) := fe_of pg_70 rfl
set_option maxRecDepth 100000 in
theorem f_70_32 : fe 70 32 = some (.iload_n 3, 1, 5, none) := fe_of pg_70 rfl
set_option maxRecDepth 100000 in
theorem f_70_33 : fe 70 33 = some (.invokevirtual 64, 3, 5, none) := fe_of pg_70 rfl
set_option maxRecDepth 100000 in
theorem f_70_36 : fe 70 36 = some (.aload_n 0, 1, 5, none) := fe_of pg_70 rfl
set_option maxRecDepth 100000 in
theorem f_70_37 : fe 70 37 = some (.invokevirtual 68, 3, 5, none) := fe_of pg_70 rfl
set_option maxRecDepth 100000 in
theorem f_70_40 : fe 70 40 = some (.iconst 0, 1, 5, none) := fe_of pg_70 rfl
set_option maxRecDepth 100000 in
theorem f_70_41 : fe 70 41 = some (.istore 4, 2, 5, none) := fe_of pg_70 rfl
set_option maxRecDepth 100000 in
theorem f_70_43 : fe 70 43 = some (.iload 4, 2, 5, none) := fe_of pg_70 rfl
set_option maxRecDepth 100000 in
theorem f_70_45 : fe 70 45 = some (.sipush 600, 3, 5, none) := fe_of pg_70 rfl
set_option maxRecDepth 100000 in
theorem f_70_48 : fe 70 48 = some (.if_icmp .gt 45, 3, 5, none) := fe_of pg_70 rfl
set_option maxRecDepth 100000 in
theorem f_70_51 : fe 70 51 = some (.aload_n 0, 1, 5, none) := fe_of pg_70 rfl
set_option maxRecDepth 100000 in
theorem f_70_52 : fe 70 52 = some (.getfield 71, 3, 5, none) := fe_of pg_70 rfl
set_option maxRecDepth 100000 in
theorem f_70_55 : fe 70 55 = some (.ifCond .eq 38, 3, 5, none) := fe_of pg_70 rfl
set_option maxRecDepth 100000 in
theorem f_70_58 : fe 70 58 = some (.aload_n 0, 1, 5, none) := fe_of pg_70 rfl
set_option maxRecDepth 100000 in
theorem f_70_59 : fe 70 59 = some (.getfield 58, 3, 5, none) := fe_of pg_70 rfl
set_option maxRecDepth 100000 in
theorem f_70_62 : fe 70 62 = some (.iconst 1, 1, 5, none) := fe_of pg_70 rfl
set_option maxRecDepth 100000 in
theorem f_70_63 : fe 70 63 = some (.if_icmp .eq 30, 3, 5, none) := fe_of pg_70 rfl
set_option maxRecDepth 100000 in
theorem f_70_66 : fe 70 66 = some (.aload_n 0, 1, 5, none) := fe_of pg_70 rfl
set_option maxRecDepth 100000 in
theorem f_70_67 : fe 70 67 = some (.iload_n 3, 1, 5, none) := fe_of pg_70 rfl
set_option maxRecDepth 100000 in
theorem f_70_68 : fe 70 68 = some (.invokevirtual 74, 3, 5, none) := fe_of pg_70 rfl
set_option maxRecDepth 100000 in
theorem f_70_71 : fe 70 71 = some (.ifCond .ne 16, 3, 5, none) := fe_of pg_70 rfl
set_option maxRecDepth 100000 in
theorem f_70_74 : fe 70 74 = some (.aload_n 0, 1, 5, none) := fe_of pg_70 rfl
set_option maxRecDepth 100000 in
theorem f_70_75 : fe 70 75 = some (.iconst 1, 1, 5, none) := fe_of pg_70 rfl
set_option maxRecDepth 100000 in
theorem f_70_76 : fe 70 76 = some (.putfield 58, 3, 5, none) := fe_of pg_70 rfl
set_option maxRecDepth 100000 in
theorem f_70_79 : fe 70 79 = some (.aload_n 0, 1, 5, none) := fe_of pg_70 rfl
set_option maxRecDepth 100000 in
theorem f_70_80 : fe 70 80 = some (.aload_n 0, 1, 5, none) := fe_of pg_70 rfl
set_option maxRecDepth 100000 in
theorem f_70_81 : fe 70 81 = some (.getfield 78, 3, 5, none) := fe_of pg_70 rfl
set_option maxRecDepth 100000 in
theorem f_70_84 : fe 70 84 = some (.putfield 61, 3, 5, none) := fe_of pg_70 rfl
set_option maxRecDepth 100000 in
theorem f_70_87 : fe 70 87 = some (.iinc 4 1, 3, 5, none) := fe_of pg_70 rfl
set_option maxRecDepth 100000 in
theorem f_70_90 : fe 70 90 = some (.goto (-47), 3, 5, none) := fe_of pg_70 rfl
set_option maxRecDepth 100000 in
theorem f_70_93 : fe 70 93 = some (.aload_n 0, 1, 5, none) := fe_of pg_70 rfl
set_option maxRecDepth 100000 in
theorem f_70_94 : fe 70 94 = some (.getfield 58, 3, 5, none) := fe_of pg_70 rfl
set_option maxRecDepth 100000 in
theorem f_70_97 : fe 70 97 = some (.ifCond .ne 27, 3, 5, none) := fe_of pg_70 rfl
set_option maxRecDepth 100000 in
theorem f_70_100 : fe 70 100 = some (.iload_n 3, 1, 5, none) := fe_of pg_70 rfl
set_option maxRecDepth 100000 in
theorem f_70_101 : fe 70 101 = some (.iconst 3, 1, 5, none) := fe_of pg_70 rfl
set_option maxRecDepth 100000 in
theorem f_70_102 : fe 70 102 = some (.if_icmp .ne 22, 3, 5, none) := fe_of pg_70 rfl
set_option maxRecDepth 100000 in
theorem f_70_105 : fe 70 105 = some (.aload_n 0, 1, 5, none) := fe_of pg_70 rfl
set_option maxRecDepth 100000 in
theorem f_70_106 : fe 70 106 = some (.getfield 35, 3, 5, none) := fe_of pg_70 rfl
set_option maxRecDepth 100000 in
theorem f_70_109 : fe 70 109 = some (.invokevirtual 81, 3, 5, none) := fe_of pg_70 rfl
set_option maxRecDepth 100000 in
theorem f_70_112 : fe 70 112 = some (.ifCond .eq 12, 3, 5, none) := fe_of pg_70 rfl
set_option maxRecDepth 100000 in
theorem f_70_115 : fe 70 115 = some (.aload_n 0, 1, 5, none) := fe_of pg_70 rfl
set_option maxRecDepth 100000 in
theorem f_70_116 : fe 70 116 = some (.iconst 4, 1, 5, none) := fe_of pg_70 rfl
set_option maxRecDepth 100000 in
theorem f_70_117 : fe 70 117 = some (.aload_n 0, 1, 5, none) := fe_of pg_70 rfl
set_option maxRecDepth 100000 in
theorem f_70_118 : fe 70 118 = some (.getfield 51, 3, 5, none) := fe_of pg_70 rfl
set_option maxRecDepth 100000 in
theorem f_70_121 : fe 70 121 = some (.invokevirtual 85, 3, 5, none) := fe_of pg_70 rfl
set_option maxRecDepth 100000 in
theorem f_70_124 : fe 70 124 = some (.return_, 1, 5, none) := fe_of pg_70 rfl
set_option maxRecDepth 100000 in
theorem f_71_0 : fe 71 0 = some (.iload_n 1, 1, 5, none) := fe_of pg_71 rfl
set_option maxRecDepth 100000 in
theorem f_71_1 : fe 71 1 = some (.tableswitch 58 0 2 #[27, 37, 48], 27, 5, none) := fe_of pg_71 rfl
set_option maxRecDepth 100000 in
theorem f_71_28 : fe 71 28 = some (.aload_n 0, 1, 5, none) := fe_of pg_71 rfl
set_option maxRecDepth 100000 in
theorem f_71_29 : fe 71 29 = some (.getfield 12, 3, 5, none) := fe_of pg_71 rfl
set_option maxRecDepth 100000 in
theorem f_71_32 : fe 71 32 = some (.invokevirtual 89, 3, 5, none) := fe_of pg_71 rfl
set_option maxRecDepth 100000 in
theorem f_71_35 : fe 71 35 = some (.goto 31, 3, 5, none) := fe_of pg_71 rfl
set_option maxRecDepth 100000 in
theorem f_71_38 : fe 71 38 = some (.aload_n 0, 1, 5, none) := fe_of pg_71 rfl
set_option maxRecDepth 100000 in
theorem f_71_39 : fe 71 39 = some (.getfield 21, 3, 5, none) := fe_of pg_71 rfl
set_option maxRecDepth 100000 in
theorem f_71_42 : fe 71 42 = some (.iconst 0, 1, 5, none) := fe_of pg_71 rfl
set_option maxRecDepth 100000 in
theorem f_71_43 : fe 71 43 = some (.putfield 92, 3, 5, none) := fe_of pg_71 rfl
set_option maxRecDepth 100000 in
theorem f_71_46 : fe 71 46 = some (.goto 20, 3, 5, none) := fe_of pg_71 rfl
set_option maxRecDepth 100000 in
theorem f_71_49 : fe 71 49 = some (.aload_n 0, 1, 5, none) := fe_of pg_71 rfl
set_option maxRecDepth 100000 in
theorem f_71_50 : fe 71 50 = some (.getfield 28, 3, 5, none) := fe_of pg_71 rfl
set_option maxRecDepth 100000 in
theorem f_71_53 : fe 71 53 = some (.invokevirtual 95, 3, 5, none) := fe_of pg_71 rfl
set_option maxRecDepth 100000 in
theorem f_71_56 : fe 71 56 = some (.goto 10, 3, 5, none) := fe_of pg_71 rfl
set_option maxRecDepth 100000 in
theorem f_71_59 : fe 71 59 = some (.aload_n 0, 1, 5, none) := fe_of pg_71 rfl
set_option maxRecDepth 100000 in
theorem f_71_60 : fe 71 60 = some (.getfield 35, 3, 5, none) := fe_of pg_71 rfl
set_option maxRecDepth 100000 in
theorem f_71_63 : fe 71 63 = some (.invokevirtual 96, 3, 5, none) := fe_of pg_71 rfl
set_option maxRecDepth 100000 in
theorem f_71_66 : fe 71 66 = some (.return_, 1, 5, none) := fe_of pg_71 rfl
set_option maxRecDepth 100000 in
theorem f_72_0 : fe 72 0 = some (.aload_n 0, 1, 5, some .boolean) := fe_of pg_72 rfl
set_option maxRecDepth 100000 in
theorem f_72_1 : fe 72 1 = some (.iload_n 1, 1, 5, some .boolean) := fe_of pg_72 rfl
set_option maxRecDepth 100000 in
theorem f_72_2 : fe 72 2 = some (.invokevirtual 97, 3, 5, some .boolean) := fe_of pg_72 rfl
set_option maxRecDepth 100000 in
theorem f_72_5 : fe 72 5 = some (.istore_n 2, 1, 5, some .boolean) := fe_of pg_72 rfl
set_option maxRecDepth 100000 in
theorem f_72_6 : fe 72 6 = some (.iload_n 2, 1, 5, some .boolean) := fe_of pg_72 rfl
set_option maxRecDepth 100000 in
theorem f_72_7 : fe 72 7 = some (.iconst (-1), 1, 5, some .boolean) := fe_of pg_72 rfl
set_option maxRecDepth 100000 in
theorem f_72_8 : fe 72 8 = some (.if_icmp .ne 5, 3, 5, some .boolean) := fe_of pg_72 rfl
set_option maxRecDepth 100000 in
theorem f_72_11 : fe 72 11 = some (.iconst 0, 1, 5, some .boolean) := fe_of pg_72 rfl
set_option maxRecDepth 100000 in
theorem f_72_12 : fe 72 12 = some (.ireturn, 1, 5, some .boolean) := fe_of pg_72 rfl
set_option maxRecDepth 100000 in
theorem f_72_13 : fe 72 13 = some (.aload_n 0, 1, 5, some .boolean) := fe_of pg_72 rfl
set_option maxRecDepth 100000 in
theorem f_72_14 : fe 72 14 = some (.iload_n 2, 1, 5, some .boolean) := fe_of pg_72 rfl
set_option maxRecDepth 100000 in
theorem f_72_15 : fe 72 15 = some (.invokevirtual 101, 3, 5, some .boolean) := fe_of pg_72 rfl
set_option maxRecDepth 100000 in
theorem f_72_18 : fe 72 18 = some (.ifCond .eq 12, 3, 5, some .boolean) := fe_of pg_72 rfl
set_option maxRecDepth 100000 in
theorem f_72_21 : fe 72 21 = some (.aload_n 0, 1, 5, some .boolean) := fe_of pg_72 rfl
set_option maxRecDepth 100000 in
theorem f_72_22 : fe 72 22 = some (.iconst 3, 1, 5, some .boolean) := fe_of pg_72 rfl
set_option maxRecDepth 100000 in
theorem f_72_23 : fe 72 23 = some (.aload_n 0, 1, 5, some .boolean) := fe_of pg_72 rfl
set_option maxRecDepth 100000 in
theorem f_72_24 : fe 72 24 = some (.getfield 78, 3, 5, some .boolean) := fe_of pg_72 rfl
set_option maxRecDepth 100000 in
theorem f_72_27 : fe 72 27 = some (.invokevirtual 85, 3, 5, some .boolean) := fe_of pg_72 rfl
set_option maxRecDepth 100000 in
theorem f_72_30 : fe 72 30 = some (.aload_n 0, 1, 5, some .boolean) := fe_of pg_72 rfl
set_option maxRecDepth 100000 in
theorem f_72_31 : fe 72 31 = some (.invokevirtual 68, 3, 5, some .boolean) := fe_of pg_72 rfl
set_option maxRecDepth 100000 in
theorem f_72_34 : fe 72 34 = some (.aload_n 0, 1, 5, some .boolean) := fe_of pg_72 rfl
set_option maxRecDepth 100000 in
theorem f_72_35 : fe 72 35 = some (.iload_n 2, 1, 5, some .boolean) := fe_of pg_72 rfl
set_option maxRecDepth 100000 in
theorem f_72_36 : fe 72 36 = some (.invokevirtual 104, 3, 5, some .boolean) := fe_of pg_72 rfl
set_option maxRecDepth 100000 in
theorem f_72_39 : fe 72 39 = some (.ifCond .eq 19, 3, 5, some .boolean) := fe_of pg_72 rfl
set_option maxRecDepth 100000 in
theorem f_72_42 : fe 72 42 = some (.aload_n 0, 1, 5, some .boolean) := fe_of pg_72 rfl
set_option maxRecDepth 100000 in
theorem f_72_43 : fe 72 43 = some (.iload_n 2, 1, 5, some .boolean) := fe_of pg_72 rfl
set_option maxRecDepth 100000 in
theorem f_72_44 : fe 72 44 = some (.invokevirtual 107, 3, 5, some .boolean) := fe_of pg_72 rfl
set_option maxRecDepth 100000 in
theorem f_72_47 : fe 72 47 = some (.ifCond .eq 11, 3, 5, some .boolean) := fe_of pg_72 rfl
set_option maxRecDepth 100000 in
theorem f_72_50 : fe 72 50 = some (.aload_n 0, 1, 5, some .boolean) := fe_of pg_72 rfl
set_option maxRecDepth 100000 in
theorem f_72_51 : fe 72 51 = some (.getfield 71, 3, 5, some .boolean) := fe_of pg_72 rfl
set_option maxRecDepth 100000 in
theorem f_72_54 : fe 72 54 = some (.iconst 3, 1, 5, some .boolean) := fe_of pg_72 rfl
set_option maxRecDepth 100000 in
theorem f_72_55 : fe 72 55 = some (.if_icmp .eq 5, 3, 5, some .boolean) := fe_of pg_72 rfl
set_option maxRecDepth 100000 in
theorem f_72_58 : fe 72 58 = some (.iconst 0, 1, 5, some .boolean) := fe_of pg_72 rfl
set_option maxRecDepth 100000 in
theorem f_72_59 : fe 72 59 = some (.ireturn, 1, 5, some .boolean) := fe_of pg_72 rfl
set_option maxRecDepth 100000 in
theorem f_72_60 : fe 72 60 = some (.aload_n 0, 1, 5, some .boolean) := fe_of pg_72 rfl
set_option maxRecDepth 100000 in
theorem f_72_61 : fe 72 61 = some (.invokevirtual 68, 3, 5, some .boolean) := fe_of pg_72 rfl
set_option maxRecDepth 100000 in
theorem f_72_64 : fe 72 64 = some (.aload_n 0, 1, 5, some .boolean) := fe_of pg_72 rfl
set_option maxRecDepth 100000 in
theorem f_72_65 : fe 72 65 = some (.getfield 58, 3, 5, some .boolean) := fe_of pg_72 rfl
set_option maxRecDepth 100000 in
theorem f_72_68 : fe 72 68 = some (.ifCond .ne 8, 3, 5, some .boolean) := fe_of pg_72 rfl
set_option maxRecDepth 100000 in
theorem f_72_71 : fe 72 71 = some (.aload_n 0, 1, 5, some .boolean) := fe_of pg_72 rfl
set_option maxRecDepth 100000 in
theorem f_72_72 : fe 72 72 = some (.iload_n 2, 1, 5, some .boolean) := fe_of pg_72 rfl
set_option maxRecDepth 100000 in
theorem f_72_73 : fe 72 73 = some (.invokevirtual 110, 3, 5, some .boolean) := fe_of pg_72 rfl
set_option maxRecDepth 100000 in
theorem f_72_76 : fe 72 76 = some (.iconst 1, 1, 5, some .boolean) := fe_of pg_72 rfl
set_option maxRecDepth 100000 in
theorem f_72_77 : fe 72 77 = some (.ireturn, 1, 5, some .boolean) := fe_of pg_72 rfl
set_option maxRecDepth 100000 in
theorem f_73_0 : fe 73 0 = some (.getstatic 113, 3, 5, some .boolean) := fe_of pg_73 rfl
set_option maxRecDepth 100000 in
theorem f_73_3 : fe 73 3 = some (.iload_n 1, 1, 5, some .boolean) := fe_of pg_73 rfl
set_option maxRecDepth 100000 in
theorem f_73_4 : fe 73 4 = some (.bipush 6, 2, 5, some .boolean) := fe_of pg_73 rfl
set_option maxRecDepth 100000 in
theorem f_73_6 : fe 73 6 = some (.imul, 1, 5, some .boolean) := fe_of pg_73 rfl
set_option maxRecDepth 100000 in
theorem f_73_7 : fe 73 7 = some (.iaload, 1, 5, some .boolean) := fe_of pg_73 rfl
set_option maxRecDepth 100000 in
theorem f_73_8 : fe 73 8 = some (.ifCond .ne 5, 3, 5, some .boolean) := fe_of pg_73 rfl
set_option maxRecDepth 100000 in
theorem f_73_11 : fe 73 11 = some (.iconst 1, 1, 5, some .boolean) := fe_of pg_73 rfl
set_option maxRecDepth 100000 in
theorem f_73_12 : fe 73 12 = some (.ireturn, 1, 5, some .boolean) := fe_of pg_73 rfl
set_option maxRecDepth 100000 in
theorem f_73_13 : fe 73 13 = some (.aload_n 0, 1, 5, some .boolean) := fe_of pg_73 rfl
set_option maxRecDepth 100000 in
theorem f_73_14 : fe 73 14 = some (.aload_n 0, 1, 5, some .boolean) := fe_of pg_73 rfl
set_option maxRecDepth 100000 in
theorem f_73_15 : fe 73 15 = some (.invokevirtual 116, 3, 5, some .boolean) := fe_of pg_73 rfl
set_option maxRecDepth 100000 in
theorem f_73_18 : fe 73 18 = some (.putfield 120, 3, 5, some .boolean) := fe_of pg_73 rfl
set_option maxRecDepth 100000 in
theorem f_73_21 : fe 73 21 = some (.aload_n 0, 1, 5, some .boolean) := fe_of pg_73 rfl
set_option maxRecDepth 100000 in
theorem f_73_22 : fe 73 22 = some (.getfield 120, 3, 5, some .boolean) := fe_of pg_73 rfl
set_option maxRecDepth 100000 in
theorem f_73_25 : fe 73 25 = some (.iconst (-1), 1, 5, some .boolean) := fe_of pg_73 rfl
set_option maxRecDepth 100000 in
theorem f_73_26 : fe 73 26 = some (.if_icmp .ne 5, 3, 5, some .boolean) := fe_of pg_73 rfl
set_option maxRecDepth 100000 in
theorem f_73_29 : fe 73 29 = some (.iconst 0, 1, 5, some .boolean) := fe_of pg_73 rfl
set_option maxRecDepth 100000 in
theorem f_73_30 : fe 73 30 = some (.ireturn, 1, 5, some .boolean) := fe_of pg_73 rfl
set_option maxRecDepth 100000 in
theorem f_73_31 : fe 73 31 = some (.aload_n 0, 1, 5, some .boolean) := fe_of pg_73 rfl
set_option maxRecDepth 100000 in
theorem f_73_32 : fe 73 32 = some (.invokevirtual 68, 3, 5, some .boolean) := fe_of pg_73 rfl
set_option maxRecDepth 100000 in
theorem f_73_35 : fe 73 35 = some (.iconst 1, 1, 5, some .boolean) := fe_of pg_73 rfl
set_option maxRecDepth 100000 in
theorem f_73_36 : fe 73 36 = some (.ireturn, 1, 5, some .boolean) := fe_of pg_73 rfl
set_option maxRecDepth 100000 in
theorem f_74_0 : fe 74 0 = some (.iload_n 1, 1, 5, some .boolean) := fe_of pg_74 rfl
set_option maxRecDepth 100000 in
theorem f_74_1 : fe 74 1 = some (.bipush 6, 2, 5, some .boolean) := fe_of pg_74 rfl
set_option maxRecDepth 100000 in
theorem f_74_3 : fe 74 3 = some (.imul, 1, 5, some .boolean) := fe_of pg_74 rfl
set_option maxRecDepth 100000 in
theorem f_74_4 : fe 74 4 = some (.istore_n 2, 1, 5, some .boolean) := fe_of pg_74 rfl
set_option maxRecDepth 100000 in
theorem f_74_5 : fe 74 5 = some (.aload_n 0, 1, 5, some .boolean) := fe_of pg_74 rfl
set_option maxRecDepth 100000 in
theorem f_74_6 : fe 74 6 = some (.getfield 43, 3, 5, some .boolean) := fe_of pg_74 rfl
set_option maxRecDepth 100000 in
theorem f_74_9 : fe 74 9 = some (.iconst (-1), 1, 5, some .boolean) := fe_of pg_74 rfl
set_option maxRecDepth 100000 in
theorem f_74_10 : fe 74 10 = some (.invokestatic 123, 3, 5, some .boolean) := fe_of pg_74 rfl
set_option maxRecDepth 100000 in
theorem f_74_13 : fe 74 13 = some (.iconst 0, 1, 5, some .boolean) := fe_of pg_74 rfl
set_option maxRecDepth 100000 in
theorem f_74_14 : fe 74 14 = some (.istore_n 3, 1, 5, some .boolean) := fe_of pg_74 rfl
set_option maxRecDepth 100000 in
theorem f_74_15 : fe 74 15 = some (.iload_n 3, 1, 5, some .boolean) := fe_of pg_74 rfl
set_option maxRecDepth 100000 in
theorem f_74_16 : fe 74 16 = some (.getstatic 113, 3, 5, some .boolean) := fe_of pg_74 rfl
set_option maxRecDepth 100000 in
theorem f_74_19 : fe 74 19 = some (.iload_n 2, 1, 5, some .boolean) := fe_of pg_74 rfl
set_option maxRecDepth 100000 in
theorem f_74_20 : fe 74 20 = some (.iconst 1, 1, 5, some .boolean) := fe_of pg_74 rfl
set_option maxRecDepth 100000 in
theorem f_74_21 : fe 74 21 = some (.iadd, 1, 5, some .boolean) := fe_of pg_74 rfl
set_option maxRecDepth 100000 in
theorem f_74_22 : fe 74 22 = some (.iaload, 1, 5, some .boolean) := fe_of pg_74 rfl
set_option maxRecDepth 100000 in
theorem f_74_23 : fe 74 23 = some (.if_icmp .ge 78, 3, 5, some .boolean) := fe_of pg_74 rfl
set_option maxRecDepth 100000 in
theorem f_74_26 : fe 74 26 = some (.aload_n 0, 1, 5, some .boolean) := fe_of pg_74 rfl
set_option maxRecDepth 100000 in
theorem f_74_27 : fe 74 27 = some (.getfield 71, 3, 5, some .boolean) := fe_of pg_74 rfl
set_option maxRecDepth 100000 in
theorem f_74_30 : fe 74 30 = some (.iconst 2, 1, 5, some .boolean) := fe_of pg_74 rfl
set_option maxRecDepth 100000 in
theorem f_74_31 : fe 74 31 = some (.if_icmp .eq 5, 3, 5, some .boolean) := fe_of pg_74 rfl
set_option maxRecDepth 100000 in
theorem f_74_34 : fe 74 34 = some (.iconst 0, 1, 5, some .boolean) := fe_of pg_74 rfl
set_option maxRecDepth 100000 in
theorem f_74_35 : fe 74 35 = some (.ireturn, 1, 5, some .boolean) := fe_of pg_74 rfl
set_option maxRecDepth 100000 in
theorem f_74_36 : fe 74 36 = some (.aload_n 0, 1, 5, some .boolean) := fe_of pg_74 rfl
set_option maxRecDepth 100000 in
theorem f_74_37 : fe 74 37 = some (.getfield 127, 3, 5, some .boolean) := fe_of pg_74 rfl
set_option maxRecDepth 100000 in
theorem f_74_40 : fe 74 40 = some (.getstatic 113, 3, 5, some .boolean) := fe_of pg_74 rfl
set_option maxRecDepth 100000 in
theorem f_74_43 : fe 74 43 = some (.iload_n 2, 1, 5, some .boolean) := fe_of pg_74 rfl
set_option maxRecDepth 100000 in
theorem f_74_44 : fe 74 44 = some (.iconst 2, 1, 5, some .boolean) := fe_of pg_74 rfl
set_option maxRecDepth 100000 in
theorem f_74_45 : fe 74 45 = some (.iadd, 1, 5, some .boolean) := fe_of pg_74 rfl
set_option maxRecDepth 100000 in
theorem f_74_46 : fe 74 46 = some (.iconst 2, 1, 5, some .boolean) := fe_of pg_74 rfl
set_option maxRecDepth 100000 in
theorem f_74_47 : fe 74 47 = some (.iload_n 3, 1, 5, some .boolean) := fe_of pg_74 rfl
set_option maxRecDepth 100000 in
theorem f_74_48 : fe 74 48 = some (.imul, 1, 5, some .boolean) := fe_of pg_74 rfl
set_option maxRecDepth 100000 in
theorem f_74_49 : fe 74 49 = some (.iadd, 1, 5, some .boolean) := fe_of pg_74 rfl
set_option maxRecDepth 100000 in
theorem f_74_50 : fe 74 50 = some (.iaload, 1, 5, some .boolean) := fe_of pg_74 rfl
set_option maxRecDepth 100000 in
theorem f_74_51 : fe 74 51 = some (.if_icmp .lt 21, 3, 5, some .boolean) := fe_of pg_74 rfl
set_option maxRecDepth 100000 in
theorem f_74_54 : fe 74 54 = some (.aload_n 0, 1, 5, some .boolean) := fe_of pg_74 rfl
set_option maxRecDepth 100000 in
theorem f_74_55 : fe 74 55 = some (.getfield 127, 3, 5, some .boolean) := fe_of pg_74 rfl
set_option maxRecDepth 100000 in
theorem f_74_58 : fe 74 58 = some (.getstatic 113, 3, 5, some .boolean) := fe_of pg_74 rfl
set_option maxRecDepth 100000 in
theorem f_74_61 : fe 74 61 = some (.iload_n 2, 1, 5, some .boolean) := fe_of pg_74 rfl
set_option maxRecDepth 100000 in
theorem f_74_62 : fe 74 62 = some (.iconst 3, 1, 5, some .boolean) := fe_of pg_74 rfl
set_option maxRecDepth 100000 in
theorem f_74_63 : fe 74 63 = some (.iadd, 1, 5, some .boolean) := fe_of pg_74 rfl
set_option maxRecDepth 100000 in
theorem f_74_64 : fe 74 64 = some (.iconst 2, 1, 5, some .boolean) := fe_of pg_74 rfl
set_option maxRecDepth 100000 in
theorem f_74_65 : fe 74 65 = some (.iload_n 3, 1, 5, some .boolean) := fe_of pg_74 rfl
set_option maxRecDepth 100000 in
theorem f_74_66 : fe 74 66 = some (.imul, 1, 5, some .boolean) := fe_of pg_74 rfl
set_option maxRecDepth 100000 in
theorem f_74_67 : fe 74 67 = some (.iadd, 1, 5, some .boolean) := fe_of pg_74 rfl
set_option maxRecDepth 100000 in
theorem f_74_68 : fe 74 68 = some (.iaload, 1, 5, some .boolean) := fe_of pg_74 rfl
set_option maxRecDepth 100000 in
theorem f_74_69 : fe 74 69 = some (.if_icmp .le 12, 3, 5, some .boolean) := fe_of pg_74 rfl
set_option maxRecDepth 100000 in
theorem f_74_72 : fe 74 72 = some (.aload_n 0, 1, 5, some .boolean) := fe_of pg_74 rfl
set_option maxRecDepth 100000 in
theorem f_74_73 : fe 74 73 = some (.iconst 2, 1, 5, some .boolean) := fe_of pg_74 rfl
set_option maxRecDepth 100000 in
theorem f_74_74 : fe 74 74 = some (.aload_n 0, 1, 5, some .boolean) := fe_of pg_74 rfl
set_option maxRecDepth 100000 in
theorem f_74_75 : fe 74 75 = some (.getfield 78, 3, 5, some .boolean) := fe_of pg_74 rfl
set_option maxRecDepth 100000 in
theorem f_74_78 : fe 74 78 = some (.invokevirtual 85, 3, 5, some .boolean) := fe_of pg_74 rfl
set_option maxRecDepth 100000 in
theorem f_74_81 : fe 74 81 = some (.aload_n 0, 1, 5, some .boolean) := fe_of pg_74 rfl
set_option maxRecDepth 100000 in
theorem f_74_82 : fe 74 82 = some (.getfield 43, 3, 5, some .boolean) := fe_of pg_74 rfl
set_option maxRecDepth 100000 in
theorem f_74_85 : fe 74 85 = some (.iload_n 3, 1, 5, some .boolean) := fe_of pg_74 rfl
set_option maxRecDepth 100000 in
theorem f_74_86 : fe 74 86 = some (.aload_n 0, 1, 5, some .boolean) := fe_of pg_74 rfl
set_option maxRecDepth 100000 in
theorem f_74_87 : fe 74 87 = some (.getfield 127, 3, 5, some .boolean) := fe_of pg_74 rfl
set_option maxRecDepth 100000 in
theorem f_74_90 : fe 74 90 = some (.iastore, 1, 5, some .boolean) := fe_of pg_74 rfl
set_option maxRecDepth 100000 in
theorem f_74_91 : fe 74 91 = some (.aload_n 0, 1, 5, some .boolean) := fe_of pg_74 rfl
set_option maxRecDepth 100000 in
theorem f_74_92 : fe 74 92 = some (.invokevirtual 68, 3, 5, some .boolean) := fe_of pg_74 rfl
set_option maxRecDepth 100000 in
theorem f_74_95 : fe 74 95 = some (.iinc 3 1, 3, 5, some .boolean) := fe_of pg_74 rfl
set_option maxRecDepth 100000 in
theorem f_74_98 : fe 74 98 = some (.goto (-83), 3, 5, some .boolean) := fe_of pg_74 rfl
set_option maxRecDepth 100000 in
theorem f_74_101 : fe 74 101 = some (.iconst 1, 1, 5, some .boolean) := fe_of pg_74 rfl
set_option maxRecDepth 100000 in
theorem f_74_102 : fe 74 102 = some (.ireturn, 1, 5, some .boolean) := fe_of pg_74 rfl
set_option maxRecDepth 100000 in
theorem f_75_0 : fe 75 0 = some (.aload_n 0, 1, 5, none) := fe_of pg_75 rfl
set_option maxRecDepth 100000 in
theorem f_75_1 : fe 75 1 = some (.getfield 58, 3, 5, none) := fe_of pg_75 rfl
set_option maxRecDepth 100000 in
theorem f_75_4 : fe 75 4 = some (.ifCond .ne 13, 3, 5, none) := fe_of pg_75 rfl
set_option maxRecDepth 100000 in
theorem f_75_7 : fe 75 7 = some (.aload_n 0, 1, 5, none) := fe_of pg_75 rfl
set_option maxRecDepth 100000 in
theorem f_75_8 : fe 75 8 = some (.iload_n 1, 1, 5, none) := fe_of pg_75 rfl
set_option maxRecDepth 100000 in
theorem f_75_9 : fe 75 9 = some (.putfield 58, 3, 5, none) := fe_of pg_75 rfl
set_option maxRecDepth 100000 in
theorem f_75_12 : fe 75 12 = some (.aload_n 0, 1, 5, none) := fe_of pg_75 rfl
set_option maxRecDepth 100000 in
theorem f_75_13 : fe 75 13 = some (.iload_n 2, 1, 5, none) := fe_of pg_75 rfl
set_option maxRecDepth 100000 in
theorem f_75_14 : fe 75 14 = some (.putfield 61, 3, 5, none) := fe_of pg_75 rfl
set_option maxRecDepth 100000 in
theorem f_75_17 : fe 75 17 = some (.return_, 1, 5, none) := fe_of pg_75 rfl
set_option maxRecDepth 100000 in
theorem f_76_0 : fe 76 0 = some (.iload_n 1, 1, 5, some .boolean) := fe_of pg_76 rfl
set_option maxRecDepth 100000 in
theorem f_76_1 : fe 76 1 = some (.ifCond .ne 21, 3, 5, some .boolean) := fe_of pg_76 rfl
set_option maxRecDepth 100000 in
theorem f_76_4 : fe 76 4 = some (.aload_n 0, 1, 5, some .boolean) := fe_of pg_76 rfl
set_option maxRecDepth 100000 in
theorem f_76_5 : fe 76 5 = some (.getfield 12, 3, 5, some .boolean) := fe_of pg_76 rfl
set_option maxRecDepth 100000 in
theorem f_76_8 : fe 76 8 = some (.getfield 130, 3, 5, some .boolean) := fe_of pg_76 rfl
set_option maxRecDepth 100000 in
theorem f_76_11 : fe 76 11 = some (.bipush 8, 2, 5, some .boolean) := fe_of pg_76 rfl
set_option maxRecDepth 100000 in
theorem f_76_13 : fe 76 13 = some (.if_icmp .lt 7, 3, 5, some .boolean) := fe_of pg_76 rfl
set_option maxRecDepth 100000 in
theorem f_76_16 : fe 76 16 = some (.iconst 1, 1, 5, some .boolean) := fe_of pg_76 rfl
set_option maxRecDepth 100000 in
theorem f_76_17 : fe 76 17 = some (.goto 4, 3, 5, some .boolean) := fe_of pg_76 rfl
set_option maxRecDepth 100000 in
theorem f_76_20 : fe 76 20 = some (.iconst 0, 1, 5, some .boolean) := fe_of pg_76 rfl
set_option maxRecDepth 100000 in
theorem f_76_21 : fe 76 21 = some (.ireturn, 1, 5, some .boolean) := fe_of pg_76 rfl
set_option maxRecDepth 100000 in
theorem f_76_22 : fe 76 22 = some (.iload_n 1, 1, 5, some .boolean) := fe_of pg_76 rfl
set_option maxRecDepth 100000 in
theorem f_76_23 : fe 76 23 = some (.iconst 2, 1, 5, some .boolean) := fe_of pg_76 rfl
set_option maxRecDepth 100000 in
theorem f_76_24 : fe 76 24 = some (.if_icmp .ne 21, 3, 5, some .boolean) := fe_of pg_76 rfl
set_option maxRecDepth 100000 in
theorem f_76_27 : fe 76 27 = some (.aload_n 0, 1, 5, some .boolean) := fe_of pg_76 rfl
set_option maxRecDepth 100000 in
theorem f_76_28 : fe 76 28 = some (.getfield 12, 3, 5, some .boolean) := fe_of pg_76 rfl
set_option maxRecDepth 100000 in
theorem f_76_31 : fe 76 31 = some (.getfield 133, 3, 5, some .boolean) := fe_of pg_76 rfl
set_option maxRecDepth 100000 in
theorem f_76_34 : fe 76 34 = some (.bipush 8, 2, 5, some .boolean) := fe_of pg_76 rfl
set_option maxRecDepth 100000 in
theorem f_76_36 : fe 76 36 = some (.if_icmp .lt 7, 3, 5, some .boolean) := fe_of pg_76 rfl
set_option maxRecDepth 100000 in
theorem f_76_39 : fe 76 39 = some (.iconst 1, 1, 5, some .boolean) := fe_of pg_76 rfl
set_option maxRecDepth 100000 in
theorem f_76_40 : fe 76 40 = some (.goto 4, 3, 5, some .boolean) := fe_of pg_76 rfl
set_option maxRecDepth 100000 in
theorem f_76_43 : fe 76 43 = some (.iconst 0, 1, 5, some .boolean) := fe_of pg_76 rfl
set_option maxRecDepth 100000 in
theorem f_76_44 : fe 76 44 = some (.ireturn, 1, 5, some .boolean) := fe_of pg_76 rfl
set_option maxRecDepth 100000 in
theorem f_76_45 : fe 76 45 = some (.iload_n 1, 1, 5, some .boolean) := fe_of pg_76 rfl
set_option maxRecDepth 100000 in
theorem f_76_46 : fe 76 46 = some (.iconst 5, 1, 5, some .boolean) := fe_of pg_76 rfl
set_option maxRecDepth 100000 in
theorem f_76_47 : fe 76 47 = some (.if_icmp .lt 27, 3, 5, some .boolean) := fe_of pg_76 rfl
set_option maxRecDepth 100000 in
theorem f_76_50 : fe 76 50 = some (.iload_n 1, 1, 5, some .boolean) := fe_of pg_76 rfl
set_option maxRecDepth 100000 in
theorem f_76_51 : fe 76 51 = some (.bipush 12, 2, 5, some .boolean) := fe_of pg_76 rfl
set_option maxRecDepth 100000 in
theorem f_76_53 : fe 76 53 = some (.if_icmp .gt 21, 3, 5, some .boolean) := fe_of pg_76 rfl
set_option maxRecDepth 100000 in
theorem f_76_56 : fe 76 56 = some (.aload_n 0, 1, 5, some .boolean) := fe_of pg_76 rfl
set_option maxRecDepth 100000 in
theorem f_76_57 : fe 76 57 = some (.getfield 21, 3, 5, some .boolean) := fe_of pg_76 rfl
set_option maxRecDepth 100000 in
theorem f_76_60 : fe 76 60 = some (.getfield 92, 3, 5, some .boolean) := fe_of pg_76 rfl
set_option maxRecDepth 100000 in
theorem f_76_63 : fe 76 63 = some (.bipush 40, 2, 5, some .boolean) := fe_of pg_76 rfl
set_option maxRecDepth 100000 in
theorem f_76_65 : fe 76 65 = some (.if_icmp .lt 7, 3, 5, some .boolean) := fe_of pg_76 rfl
set_option maxRecDepth 100000 in
theorem f_76_68 : fe 76 68 = some (.iconst 1, 1, 5, some .boolean) := fe_of pg_76 rfl
set_option maxRecDepth 100000 in
theorem f_76_69 : fe 76 69 = some (.goto 4, 3, 5, some .boolean) := fe_of pg_76 rfl
set_option maxRecDepth 100000 in
theorem f_76_72 : fe 76 72 = some (.iconst 0, 1, 5, some .boolean) := fe_of pg_76 rfl
set_option maxRecDepth 100000 in
theorem f_76_73 : fe 76 73 = some (.ireturn, 1, 5, some .boolean) := fe_of pg_76 rfl
set_option maxRecDepth 100000 in
theorem f_76_74 : fe 76 74 = some (.iload_n 1, 1, 5, some .boolean) := fe_of pg_76 rfl
set_option maxRecDepth 100000 in
theorem f_76_75 : fe 76 75 = some (.bipush 16, 2, 5, some .boolean) := fe_of pg_76 rfl
set_option maxRecDepth 100000 in
theorem f_76_77 : fe 76 77 = some (.if_icmp .eq 9, 3, 5, some .boolean) := fe_of pg_76 rfl
set_option maxRecDepth 100000 in
theorem f_76_80 : fe 76 80 = some (.iload_n 1, 1, 5, some .boolean) := fe_of pg_76 rfl
set_option maxRecDepth 100000 in
theorem f_76_81 : fe 76 81 = some (.bipush 17, 2, 5, some .boolean) := fe_of pg_76 rfl
set_option maxRecDepth 100000 in
theorem f_76_83 : fe 76 83 = some (.if_icmp .ne 19, 3, 5, some .boolean) := fe_of pg_76 rfl
set_option maxRecDepth 100000 in
theorem f_76_86 : fe 76 86 = some (.aload_n 0, 1, 5, some .boolean) := fe_of pg_76 rfl
set_option maxRecDepth 100000 in
theorem f_76_87 : fe 76 87 = some (.getfield 35, 3, 5, some .boolean) := fe_of pg_76 rfl
set_option maxRecDepth 100000 in
theorem f_76_90 : fe 76 90 = some (.getfield 136, 3, 5, some .boolean) := fe_of pg_76 rfl
set_option maxRecDepth 100000 in
theorem f_76_93 : fe 76 93 = some (.bipush 10, 2, 5, some .boolean) := fe_of pg_76 rfl
set_option maxRecDepth 100000 in
theorem f_76_95 : fe 76 95 = some (.if_icmp .lt 7, 3, 5, some .boolean) := fe_of pg_76 rfl
set_option maxRecDepth 100000 in
theorem f_76_98 : fe 76 98 = some (.iconst 1, 1, 5, some .boolean) := fe_of pg_76 rfl
set_option maxRecDepth 100000 in
theorem f_76_99 : fe 76 99 = some (.goto 4, 3, 5, some .boolean) := fe_of pg_76 rfl
set_option maxRecDepth 100000 in
theorem f_76_102 : fe 76 102 = some (.iconst 0, 1, 5, some .boolean) := fe_of pg_76 rfl
set_option maxRecDepth 100000 in
theorem f_76_103 : fe 76 103 = some (.ireturn, 1, 5, some .boolean) := fe_of pg_76 rfl
set_option maxRecDepth 100000 in
theorem f_77_0 : fe 77 0 = some (.aload_n 0, 1, 5, none) := fe_of pg_77 rfl
set_option maxRecDepth 100000 in
theorem f_77_1 : fe 77 1 = some (.getfield 43, 3, 5, none) := fe_of pg_77 rfl
set_option maxRecDepth 100000 in
theorem f_77_4 : fe 77 4 = some (.iconst 0, 1, 5, none) := fe_of pg_77 rfl
set_option maxRecDepth 100000 in
theorem f_77_5 : fe 77 5 = some (.iaload, 1, 5, none) := fe_of pg_77 rfl
set_option maxRecDepth 100000 in
theorem f_77_6 : fe 77 6 = some (.istore_n 2, 1, 5, none) := fe_of pg_77 rfl
set_option maxRecDepth 100000 in
theorem f_77_7 : fe 77 7 = some (.aload_n 0, 1, 5, none) := fe_of pg_77 rfl
set_option maxRecDepth 100000 in
theorem f_77_8 : fe 77 8 = some (.getfield 43, 3, 5, none) := fe_of pg_77 rfl
set_option maxRecDepth 100000 in
theorem f_77_11 : fe 77 11 = some (.iconst 1, 1, 5, none) := fe_of pg_77 rfl
set_option maxRecDepth 100000 in
theorem f_77_12 : fe 77 12 = some (.iaload, 1, 5, none) := fe_of pg_77 rfl
set_option maxRecDepth 100000 in
theorem f_77_13 : fe 77 13 = some (.istore_n 3, 1, 5, none) := fe_of pg_77 rfl
set_option maxRecDepth 100000 in
theorem f_77_14 : fe 77 14 = some (.iload_n 1, 1, 5, none) := fe_of pg_77 rfl
set_option maxRecDepth 100000 in
theorem f_77_15 : fe 77 15 = some (.tableswitch 212 0 17 #[85, 96, 107, 122, 138, 212, 212, 212, 212, 212, 212, 212, 212, 151, 162, 175, 186, 199], 85, 5, none) := fe_of pg_77 rfl
set_option maxRecDepth 100000 in
theorem f_77_100 : fe 77 100 = some (.aload_n 0, 1, 5, none) := fe_of pg_77 rfl
set_option maxRecDepth 100000 in
theorem f_77_101 : fe 77 101 = some (.getfield 12, 3, 5, none) := fe_of pg_77 rfl
set_option maxRecDepth 100000 in
theorem f_77_104 : fe 77 104 = some (.iload_n 2, 1, 5, none) := fe_of pg_77 rfl
set_option maxRecDepth 100000 in
theorem f_77_105 : fe 77 105 = some (.invokevirtual 139, 3, 5, none) := fe_of pg_77 rfl
set_option maxRecDepth 100000 in
theorem f_77_108 : fe 77 108 = some (.goto 131, 3, 5, none) := fe_of pg_77 rfl
set_option maxRecDepth 100000 in
theorem f_77_111 : fe 77 111 = some (.aload_n 0, 1, 5, none) := fe_of pg_77 rfl
set_option maxRecDepth 100000 in
theorem f_77_112 : fe 77 112 = some (.getfield 12, 3, 5, none) := fe_of pg_77 rfl
set_option maxRecDepth 100000 in
theorem f_77_115 : fe 77 115 = some (.iload_n 2, 1, 5, none) := fe_of pg_77 rfl
set_option maxRecDepth 100000 in
theorem f_77_116 : fe 77 116 = some (.putfield 142, 3, 5, none) := fe_of pg_77 rfl
set_option maxRecDepth 100000 in
theorem f_77_119 : fe 77 119 = some (.goto 120, 3, 5, none) := fe_of pg_77 rfl
set_option maxRecDepth 100000 in
theorem f_77_122 : fe 77 122 = some (.aload_n 0, 1, 5, none) := fe_of pg_77 rfl
set_option maxRecDepth 100000 in
theorem f_77_123 : fe 77 123 = some (.getfield 12, 3, 5, none) := fe_of pg_77 rfl
set_option maxRecDepth 100000 in
theorem f_77_126 : fe 77 126 = some (.aload_n 0, 1, 5, none) := fe_of pg_77 rfl
set_option maxRecDepth 100000 in
theorem f_77_127 : fe 77 127 = some (.getfield 120, 3, 5, none) := fe_of pg_77 rfl
set_option maxRecDepth 100000 in
theorem f_77_130 : fe 77 130 = some (.iload_n 2, 1, 5, none) := fe_of pg_77 rfl
set_option maxRecDepth 100000 in
theorem f_77_131 : fe 77 131 = some (.invokevirtual 145, 3, 5, none) := fe_of pg_77 rfl
set_option maxRecDepth 100000 in
theorem f_77_134 : fe 77 134 = some (.goto 105, 3, 5, none) := fe_of pg_77 rfl
set_option maxRecDepth 100000 in
theorem f_77_137 : fe 77 137 = some (.aload_n 0, 1, 5, none) := fe_of pg_77 rfl
set_option maxRecDepth 100000 in
theorem f_77_138 : fe 77 138 = some (.getfield 12, 3, 5, none) := fe_of pg_77 rfl
set_option maxRecDepth 100000 in
theorem f_77_141 : fe 77 141 = some (.getfield 148, 3, 5, none) := fe_of pg_77 rfl
set_option maxRecDepth 100000 in
theorem f_77_144 : fe 77 144 = some (.aload_n 0, 1, 5, none) := fe_of pg_77 rfl
set_option maxRecDepth 100000 in
theorem f_77_145 : fe 77 145 = some (.getfield 120, 3, 5, none) := fe_of pg_77 rfl
set_option maxRecDepth 100000 in
theorem f_77_148 : fe 77 148 = some (.iload_n 2, 1, 5, none) := fe_of pg_77 rfl
set_option maxRecDepth 100000 in
theorem f_77_149 : fe 77 149 = some (.iastore, 1, 5, none) := fe_of pg_77 rfl
set_option maxRecDepth 100000 in
theorem f_77_150 : fe 77 150 = some (.goto 89, 3, 5, none) := fe_of pg_77 rfl
set_option maxRecDepth 100000 in
theorem f_77_153 : fe 77 153 = some (.aload_n 0, 1, 5, none) := fe_of pg_77 rfl
set_option maxRecDepth 100000 in
theorem f_77_154 : fe 77 154 = some (.getfield 12, 3, 5, none) := fe_of pg_77 rfl
set_option maxRecDepth 100000 in
theorem f_77_157 : fe 77 157 = some (.getfield 151, 3, 5, none) := fe_of pg_77 rfl
set_option maxRecDepth 100000 in
theorem f_77_160 : fe 77 160 = some (.iload_n 2, 1, 5, none) := fe_of pg_77 rfl
set_option maxRecDepth 100000 in
theorem f_77_161 : fe 77 161 = some (.iload_n 3, 1, 5, none) := fe_of pg_77 rfl
set_option maxRecDepth 100000 in
theorem f_77_162 : fe 77 162 = some (.iastore, 1, 5, none) := fe_of pg_77 rfl
set_option maxRecDepth 100000 in
theorem f_77_163 : fe 77 163 = some (.goto 76, 3, 5, none) := fe_of pg_77 rfl
set_option maxRecDepth 100000 in
theorem f_77_166 : fe 77 166 = some (.aload_n 0, 1, 5, none) := fe_of pg_77 rfl
set_option maxRecDepth 100000 in
theorem f_77_167 : fe 77 167 = some (.getfield 28, 3, 5, none) := fe_of pg_77 rfl
set_option maxRecDepth 100000 in
theorem f_77_170 : fe 77 170 = some (.iload_n 2, 1, 5, none) := fe_of pg_77 rfl
set_option maxRecDepth 100000 in
theorem f_77_171 : fe 77 171 = some (.putfield 154, 3, 5, none) := fe_of pg_77 rfl
set_option maxRecDepth 100000 in
theorem f_77_174 : fe 77 174 = some (.goto 65, 3, 5, none) := fe_of pg_77 rfl
set_option maxRecDepth 100000 in
theorem f_77_177 : fe 77 177 = some (.aload_n 0, 1, 5, none) := fe_of pg_77 rfl
set_option maxRecDepth 100000 in
theorem f_77_178 : fe 77 178 = some (.getfield 28, 3, 5, none) := fe_of pg_77 rfl
set_option maxRecDepth 100000 in
theorem f_77_181 : fe 77 181 = some (.getfield 157, 3, 5, none) := fe_of pg_77 rfl
set_option maxRecDepth 100000 in
theorem f_77_184 : fe 77 184 = some (.iload_n 2, 1, 5, none) := fe_of pg_77 rfl
set_option maxRecDepth 100000 in
theorem f_77_185 : fe 77 185 = some (.iload_n 3, 1, 5, none) := fe_of pg_77 rfl
set_option maxRecDepth 100000 in
theorem f_77_186 : fe 77 186 = some (.iastore, 1, 5, none) := fe_of pg_77 rfl
set_option maxRecDepth 100000 in
theorem f_77_187 : fe 77 187 = some (.goto 52, 3, 5, none) := fe_of pg_77 rfl
set_option maxRecDepth 100000 in
theorem f_77_190 : fe 77 190 = some (.aload_n 0, 1, 5, none) := fe_of pg_77 rfl
set_option maxRecDepth 100000 in
theorem f_77_191 : fe 77 191 = some (.getfield 35, 3, 5, none) := fe_of pg_77 rfl
set_option maxRecDepth 100000 in
theorem f_77_194 : fe 77 194 = some (.iload_n 2, 1, 5, none) := fe_of pg_77 rfl
set_option maxRecDepth 100000 in
theorem f_77_195 : fe 77 195 = some (.putfield 160, 3, 5, none) := fe_of pg_77 rfl
set_option maxRecDepth 100000 in
theorem f_77_198 : fe 77 198 = some (.goto 41, 3, 5, none) := fe_of pg_77 rfl
set_option maxRecDepth 100000 in
theorem f_77_201 : fe 77 201 = some (.aload_n 0, 1, 5, none) := fe_of pg_77 rfl
set_option maxRecDepth 100000 in
theorem f_77_202 : fe 77 202 = some (.getfield 35, 3, 5, none) := fe_of pg_77 rfl
set_option maxRecDepth 100000 in
theorem f_77_205 : fe 77 205 = some (.iconst 1, 1, 5, none) := fe_of pg_77 rfl
set_option maxRecDepth 100000 in
theorem f_77_206 : fe 77 206 = some (.iload_n 2, 1, 5, none) := fe_of pg_77 rfl
set_option maxRecDepth 100000 in
theorem f_77_207 : fe 77 207 = some (.iload_n 3, 1, 5, none) := fe_of pg_77 rfl
set_option maxRecDepth 100000 in
theorem f_77_208 : fe 77 208 = some (.invokevirtual 163, 3, 5, none) := fe_of pg_77 rfl
set_option maxRecDepth 100000 in
theorem f_77_211 : fe 77 211 = some (.goto 28, 3, 5, none) := fe_of pg_77 rfl
set_option maxRecDepth 100000 in
theorem f_77_214 : fe 77 214 = some (.aload_n 0, 1, 5, none) := fe_of pg_77 rfl
set_option maxRecDepth 100000 in
theorem f_77_215 : fe 77 215 = some (.getfield 35, 3, 5, none) := fe_of pg_77 rfl
set_option maxRecDepth 100000 in
theorem f_77_218 : fe 77 218 = some (.iconst 0, 1, 5, none) := fe_of pg_77 rfl
set_option maxRecDepth 100000 in
theorem f_77_219 : fe 77 219 = some (.iload_n 2, 1, 5, none) := fe_of pg_77 rfl
set_option maxRecDepth 100000 in
theorem f_77_220 : fe 77 220 = some (.iload_n 3, 1, 5, none) := fe_of pg_77 rfl
set_option maxRecDepth 100000 in
theorem f_77_221 : fe 77 221 = some (.invokevirtual 163, 3, 5, none) := fe_of pg_77 rfl
set_option maxRecDepth 100000 in
theorem f_77_224 : fe 77 224 = some (.goto 15, 3, 5, none) := fe_of pg_77 rfl
set_option maxRecDepth 100000 in
theorem f_77_227 : fe 77 227 = some (.aload_n 0, 1, 5, none) := fe_of pg_77 rfl
set_option maxRecDepth 100000 in
theorem f_77_228 : fe 77 228 = some (.getfield 21, 3, 5, none) := fe_of pg_77 rfl
set_option maxRecDepth 100000 in
theorem f_77_231 : fe 77 231 = some (.iload_n 1, 1, 5, none) := fe_of pg_77 rfl
set_option maxRecDepth 100000 in
theorem f_77_232 : fe 77 232 = some (.iconst 5, 1, 5, none) := fe_of pg_77 rfl
set_option maxRecDepth 100000 in
theorem f_77_233 : fe 77 233 = some (.isub, 1, 5, none) := fe_of pg_77 rfl
set_option maxRecDepth 100000 in
theorem f_77_234 : fe 77 234 = some (.iload_n 2, 1, 5, none) := fe_of pg_77 rfl
set_option maxRecDepth 100000 in
theorem f_77_235 : fe 77 235 = some (.iload_n 3, 1, 5, none) := fe_of pg_77 rfl
set_option maxRecDepth 100000 in
theorem f_77_236 : fe 77 236 = some (.invokevirtual 167, 3, 5, none) := fe_of pg_77 rfl
set_option maxRecDepth 100000 in
theorem f_77_239 : fe 77 239 = some (.return_, 1, 5, none) := fe_of pg_77 rfl
set_option maxRecDepth 100000 in
theorem f_78_0 : fe 78 0 = some (.aload_n 0, 1, 5, none) := fe_of pg_78 rfl
set_option maxRecDepth 100000 in
theorem f_78_1 : fe 78 1 = some (.getfield 55, 3, 5, none) := fe_of pg_78 rfl
set_option maxRecDepth 100000 in
theorem f_78_4 : fe 78 4 = some (.aload_n 0, 1, 5, none) := fe_of pg_78 rfl
set_option maxRecDepth 100000 in
theorem f_78_5 : fe 78 5 = some (.getfield 51, 3, 5, none) := fe_of pg_78 rfl
set_option maxRecDepth 100000 in
theorem f_78_8 : fe 78 8 = some (.if_icmp .ge 31, 3, 5, none) := fe_of pg_78 rfl
set_option maxRecDepth 100000 in
theorem f_78_11 : fe 78 11 = some (.aload_n 0, 1, 5, none) := fe_of pg_78 rfl
set_option maxRecDepth 100000 in
theorem f_78_12 : fe 78 12 = some (.getfield 39, 3, 5, none) := fe_of pg_78 rfl
set_option maxRecDepth 100000 in
theorem f_78_15 : fe 78 15 = some (.aload_n 0, 1, 5, none) := fe_of pg_78 rfl
set_option maxRecDepth 100000 in
theorem f_78_16 : fe 78 16 = some (.getfield 55, 3, 5, none) := fe_of pg_78 rfl
set_option maxRecDepth 100000 in
theorem f_78_19 : fe 78 19 = some (.baload, 1, 5, none) := fe_of pg_78 rfl
set_option maxRecDepth 100000 in
theorem f_78_20 : fe 78 20 = some (.invokestatic 170, 3, 5, none) := fe_of pg_78 rfl
set_option maxRecDepth 100000 in
theorem f_78_23 : fe 78 23 = some (.ifCond .eq 16, 3, 5, none) := fe_of pg_78 rfl
set_option maxRecDepth 100000 in
theorem f_78_26 : fe 78 26 = some (.aload_n 0, 1, 5, none) := fe_of pg_78 rfl
set_option maxRecDepth 100000 in
theorem f_78_27 : fe 78 27 = some (.dup, 1, 5, none) := fe_of pg_78 rfl
set_option maxRecDepth 100000 in
theorem f_78_28 : fe 78 28 = some (.getfield 55, 3, 5, none) := fe_of pg_78 rfl
set_option maxRecDepth 100000 in
theorem f_78_31 : fe 78 31 = some (.iconst 1, 1, 5, none) := fe_of pg_78 rfl
set_option maxRecDepth 100000 in
theorem f_78_32 : fe 78 32 = some (.iadd, 1, 5, none) := fe_of pg_78 rfl
set_option maxRecDepth 100000 in
theorem f_78_33 : fe 78 33 = some (.putfield 55, 3, 5, none) := fe_of pg_78 rfl
set_option maxRecDepth 100000 in
theorem f_78_36 : fe 78 36 = some (.goto (-36), 3, 5, none) := fe_of pg_78 rfl
set_option maxRecDepth 100000 in
theorem f_78_39 : fe 78 39 = some (.aload_n 0, 1, 5, none) := fe_of pg_78 rfl
set_option maxRecDepth 100000 in
theorem f_78_40 : fe 78 40 = some (.aload_n 0, 1, 5, none) := fe_of pg_78 rfl
set_option maxRecDepth 100000 in
theorem f_78_41 : fe 78 41 = some (.getfield 55, 3, 5, none) := fe_of pg_78 rfl
set_option maxRecDepth 100000 in
theorem f_78_44 : fe 78 44 = some (.putfield 78, 3, 5, none) := fe_of pg_78 rfl
set_option maxRecDepth 100000 in
theorem f_78_47 : fe 78 47 = some (.aload_n 0, 1, 5, none) := fe_of pg_78 rfl
set_option maxRecDepth 100000 in
theorem f_78_48 : fe 78 48 = some (.getfield 55, 3, 5, none) := fe_of pg_78 rfl
set_option maxRecDepth 100000 in
theorem f_78_51 : fe 78 51 = some (.aload_n 0, 1, 5, none) := fe_of pg_78 rfl
set_option maxRecDepth 100000 in
theorem f_78_52 : fe 78 52 = some (.getfield 51, 3, 5, none) := fe_of pg_78 rfl
set_option maxRecDepth 100000 in
theorem f_78_55 : fe 78 55 = some (.if_icmp .lt 11, 3, 5, none) := fe_of pg_78 rfl
set_option maxRecDepth 100000 in
theorem f_78_58 : fe 78 58 = some (.aload_n 0, 1, 5, none) := fe_of pg_78 rfl
set_option maxRecDepth 100000 in
theorem f_78_59 : fe 78 59 = some (.iconst 0, 1, 5, none) := fe_of pg_78 rfl
set_option maxRecDepth 100000 in
theorem f_78_60 : fe 78 60 = some (.putfield 71, 3, 5, none) := fe_of pg_78 rfl
set_option maxRecDepth 100000 in
theorem f_78_63 : fe 78 63 = some (.goto 80, 3, 5, none) := fe_of pg_78 rfl
set_option maxRecDepth 100000 in
theorem f_78_66 : fe 78 66 = some (.aload_n 0, 1, 5, none) := fe_of pg_78 rfl
set_option maxRecDepth 100000 in
theorem f_78_67 : fe 78 67 = some (.getfield 39, 3, 5, none) := fe_of pg_78 rfl
set_option maxRecDepth 100000 in
theorem f_78_70 : fe 78 70 = some (.aload_n 0, 1, 5, none) := fe_of pg_78 rfl
set_option maxRecDepth 100000 in
theorem f_78_71 : fe 78 71 = some (.getfield 55, 3, 5, none) := fe_of pg_78 rfl
set_option maxRecDepth 100000 in
theorem f_78_74 : fe 78 74 = some (.baload, 1, 5, none) := fe_of pg_78 rfl
set_option maxRecDepth 100000 in
theorem f_78_75 : fe 78 75 = some (.invokestatic 174, 3, 5, none) := fe_of pg_78 rfl
set_option maxRecDepth 100000 in
theorem f_78_78 : fe 78 78 = some (.ifCond .eq 10, 3, 5, none) := fe_of pg_78 rfl
set_option maxRecDepth 100000 in
theorem f_78_81 : fe 78 81 = some (.aload_n 0, 1, 5, none) := fe_of pg_78 rfl
set_option maxRecDepth 100000 in
theorem f_78_82 : fe 78 82 = some (.invokevirtual 177, 3, 5, none) := fe_of pg_78 rfl
set_option maxRecDepth 100000 in
theorem f_78_85 : fe 78 85 = some (.goto 58, 3, 5, none) := fe_of pg_78 rfl
set_option maxRecDepth 100000 in
theorem f_78_88 : fe 78 88 = some (.aload_n 0, 1, 5, none) := fe_of pg_78 rfl
set_option maxRecDepth 100000 in
theorem f_78_89 : fe 78 89 = some (.getfield 39, 3, 5, none) := fe_of pg_78 rfl
set_option maxRecDepth 100000 in
theorem f_78_92 : fe 78 92 = some (.aload_n 0, 1, 5, none) := fe_of pg_78 rfl
set_option maxRecDepth 100000 in
theorem f_78_93 : fe 78 93 = some (.getfield 55, 3, 5, none) := fe_of pg_78 rfl
set_option maxRecDepth 100000 in
theorem f_78_96 : fe 78 96 = some (.baload, 1, 5, none) := fe_of pg_78 rfl
set_option maxRecDepth 100000 in
theorem f_78_97 : fe 78 97 = some (.invokestatic 180, 3, 5, none) := fe_of pg_78 rfl
set_option maxRecDepth 100000 in
theorem f_78_100 : fe 78 100 = some (.ifCond .eq 10, 3, 5, none) := fe_of pg_78 rfl
set_option maxRecDepth 100000 in
theorem f_78_103 : fe 78 103 = some (.aload_n 0, 1, 5, none) := fe_of pg_78 rfl
set_option maxRecDepth 100000 in
theorem f_78_104 : fe 78 104 = some (.invokevirtual 183, 3, 5, none) := fe_of pg_78 rfl
set_option maxRecDepth 100000 in
theorem f_78_107 : fe 78 107 = some (.goto 36, 3, 5, none) := fe_of pg_78 rfl
set_option maxRecDepth 100000 in
theorem f_78_110 : fe 78 110 = some (.aload_n 0, 1, 5, none) := fe_of pg_78 rfl
set_option maxRecDepth 100000 in
theorem f_78_111 : fe 78 111 = some (.aload_n 0, 1, 5, none) := fe_of pg_78 rfl
set_option maxRecDepth 100000 in
theorem f_78_112 : fe 78 112 = some (.getfield 39, 3, 5, none) := fe_of pg_78 rfl
set_option maxRecDepth 100000 in
theorem f_78_115 : fe 78 115 = some (.aload_n 0, 1, 5, none) := fe_of pg_78 rfl
set_option maxRecDepth 100000 in
theorem f_78_116 : fe 78 116 = some (.getfield 55, 3, 5, none) := fe_of pg_78 rfl
set_option maxRecDepth 100000 in
theorem f_78_119 : fe 78 119 = some (.baload, 1, 5, none) := fe_of pg_78 rfl
set_option maxRecDepth 100000 in
theorem f_78_120 : fe 78 120 = some (.bipush 59, 2, 5, none) := fe_of pg_78 rfl
set_option maxRecDepth 100000 in
theorem f_78_122 : fe 78 122 = some (.if_icmp .ne 7, 3, 5, none) := fe_of pg_78 rfl
set_option maxRecDepth 100000 in
theorem f_78_125 : fe 78 125 = some (.iconst 3, 1, 5, none) := fe_of pg_78 rfl
set_option maxRecDepth 100000 in
theorem f_78_126 : fe 78 126 = some (.goto 4, 3, 5, none) := fe_of pg_78 rfl
set_option maxRecDepth 100000 in
theorem f_78_129 : fe 78 129 = some (.iconst 4, 1, 5, none) := fe_of pg_78 rfl
set_option maxRecDepth 100000 in
theorem f_78_130 : fe 78 130 = some (.putfield 71, 3, 5, none) := fe_of pg_78 rfl
set_option maxRecDepth 100000 in
theorem f_78_133 : fe 78 133 = some (.aload_n 0, 1, 5, none) := fe_of pg_78 rfl
set_option maxRecDepth 100000 in
theorem f_78_134 : fe 78 134 = some (.dup, 1, 5, none) := fe_of pg_78 rfl
set_option maxRecDepth 100000 in
theorem f_78_135 : fe 78 135 = some (.getfield 55, 3, 5, none) := fe_of pg_78 rfl
set_option maxRecDepth 100000 in
theorem f_78_138 : fe 78 138 = some (.iconst 1, 1, 5, none) := fe_of pg_78 rfl
set_option maxRecDepth 100000 in
theorem f_78_139 : fe 78 139 = some (.iadd, 1, 5, none) := fe_of pg_78 rfl
set_option maxRecDepth 100000 in
theorem f_78_140 : fe 78 140 = some (.putfield 55, 3, 5, none) := fe_of pg_78 rfl
set_option maxRecDepth 100000 in
theorem f_78_143 : fe 78 143 = some (.return_, 1, 5, none) := fe_of pg_78 rfl
set_option maxRecDepth 100000 in
theorem f_79_0 : fe 79 0 = some (.aload_n 0, 1, 5, none) := fe_of pg_79 rfl
set_option maxRecDepth 100000 in
theorem f_79_1 : fe 79 1 = some (.getfield 55, 3, 5, none) := fe_of pg_79 rfl
set_option maxRecDepth 100000 in
theorem f_79_4 : fe 79 4 = some (.aload_n 0, 1, 5, none) := fe_of pg_79 rfl
set_option maxRecDepth 100000 in
theorem f_79_5 : fe 79 5 = some (.getfield 51, 3, 5, none) := fe_of pg_79 rfl
set_option maxRecDepth 100000 in
theorem f_79_8 : fe 79 8 = some (.if_icmp .ge 31, 3, 5, none) := fe_of pg_79 rfl
set_option maxRecDepth 100000 in
theorem f_79_11 : fe 79 11 = some (.aload_n 0, 1, 5, none) := fe_of pg_79 rfl
set_option maxRecDepth 100000 in
theorem f_79_12 : fe 79 12 = some (.getfield 39, 3, 5, none) := fe_of pg_79 rfl
set_option maxRecDepth 100000 in
theorem f_79_15 : fe 79 15 = some (.aload_n 0, 1, 5, none) := fe_of pg_79 rfl
set_option maxRecDepth 100000 in
theorem f_79_16 : fe 79 16 = some (.getfield 55, 3, 5, none) := fe_of pg_79 rfl
set_option maxRecDepth 100000 in
theorem f_79_19 : fe 79 19 = some (.baload, 1, 5, none) := fe_of pg_79 rfl
set_option maxRecDepth 100000 in
theorem f_79_20 : fe 79 20 = some (.invokestatic 174, 3, 5, none) := fe_of pg_79 rfl
set_option maxRecDepth 100000 in
theorem f_79_23 : fe 79 23 = some (.ifCond .eq 16, 3, 5, none) := fe_of pg_79 rfl
set_option maxRecDepth 100000 in
theorem f_79_26 : fe 79 26 = some (.aload_n 0, 1, 5, none) := fe_of pg_79 rfl
set_option maxRecDepth 100000 in
theorem f_79_27 : fe 79 27 = some (.dup, 1, 5, none) := fe_of pg_79 rfl
set_option maxRecDepth 100000 in
theorem f_79_28 : fe 79 28 = some (.getfield 55, 3, 5, none) := fe_of pg_79 rfl
set_option maxRecDepth 100000 in
theorem f_79_31 : fe 79 31 = some (.iconst 1, 1, 5, none) := fe_of pg_79 rfl
set_option maxRecDepth 100000 in
theorem f_79_32 : fe 79 32 = some (.iadd, 1, 5, none) := fe_of pg_79 rfl
set_option maxRecDepth 100000 in
theorem f_79_33 : fe 79 33 = some (.putfield 55, 3, 5, none) := fe_of pg_79 rfl
set_option maxRecDepth 100000 in
theorem f_79_36 : fe 79 36 = some (.goto (-36), 3, 5, none) := fe_of pg_79 rfl
set_option maxRecDepth 100000 in
theorem f_79_39 : fe 79 39 = some (.aload_n 0, 1, 5, none) := fe_of pg_79 rfl
set_option maxRecDepth 100000 in
theorem f_79_40 : fe 79 40 = some (.iconst 1, 1, 5, none) := fe_of pg_79 rfl
set_option maxRecDepth 100000 in
theorem f_79_41 : fe 79 41 = some (.putfield 71, 3, 5, none) := fe_of pg_79 rfl
set_option maxRecDepth 100000 in
theorem f_79_44 : fe 79 44 = some (.return_, 1, 5, none) := fe_of pg_79 rfl
set_option maxRecDepth 100000 in
theorem f_80_0 : fe 80 0 = some (.aload_n 0, 1, 5, none) := fe_of pg_80 rfl
set_option maxRecDepth 100000 in
theorem f_80_1 : fe 80 1 = some (.iconst 0, 1, 5, none) := fe_of pg_80 rfl
set_option maxRecDepth 100000 in
theorem f_80_2 : fe 80 2 = some (.putfield 127, 3, 5, none) := fe_of pg_80 rfl
set_option maxRecDepth 100000 in
theorem f_80_5 : fe 80 5 = some (.aload_n 0, 1, 5, none) := fe_of pg_80 rfl
set_option maxRecDepth 100000 in
theorem f_80_6 : fe 80 6 = some (.getfield 55, 3, 5, none) := fe_of pg_80 rfl
set_option maxRecDepth 100000 in
theorem f_80_9 : fe 80 9 = some (.aload_n 0, 1, 5, none) := fe_of pg_80 rfl
set_option maxRecDepth 100000 in
theorem f_80_10 : fe 80 10 = some (.getfield 51, 3, 5, none) := fe_of pg_80 rfl
set_option maxRecDepth 100000 in
theorem f_80_13 : fe 80 13 = some (.if_icmp .ge 55, 3, 5, none) := fe_of pg_80 rfl
set_option maxRecDepth 100000 in
theorem f_80_16 : fe 80 16 = some (.aload_n 0, 1, 5, none) := fe_of pg_80 rfl
set_option maxRecDepth 100000 in
theorem f_80_17 : fe 80 17 = some (.getfield 39, 3, 5, none) := fe_of pg_80 rfl
set_option maxRecDepth 100000 in
theorem f_80_20 : fe 80 20 = some (.aload_n 0, 1, 5, none) := fe_of pg_80 rfl
set_option maxRecDepth 100000 in
theorem f_80_21 : fe 80 21 = some (.getfield 55, 3, 5, none) := fe_of pg_80 rfl
set_option maxRecDepth 100000 in
theorem f_80_24 : fe 80 24 = some (.baload, 1, 5, none) := fe_of pg_80 rfl
set_option maxRecDepth 100000 in
theorem f_80_25 : fe 80 25 = some (.invokestatic 180, 3, 5, none) := fe_of pg_80 rfl
set_option maxRecDepth 100000 in
theorem f_80_28 : fe 80 28 = some (.ifCond .eq 40, 3, 5, none) := fe_of pg_80 rfl
set_option maxRecDepth 100000 in
theorem f_80_31 : fe 80 31 = some (.aload_n 0, 1, 5, none) := fe_of pg_80 rfl
set_option maxRecDepth 100000 in
theorem f_80_32 : fe 80 32 = some (.aload_n 0, 1, 5, none) := fe_of pg_80 rfl
set_option maxRecDepth 100000 in
theorem f_80_33 : fe 80 33 = some (.getfield 127, 3, 5, none) := fe_of pg_80 rfl
set_option maxRecDepth 100000 in
theorem f_80_36 : fe 80 36 = some (.bipush 10, 2, 5, none) := fe_of pg_80 rfl
set_option maxRecDepth 100000 in
theorem f_80_38 : fe 80 38 = some (.imul, 1, 5, none) := fe_of pg_80 rfl
set_option maxRecDepth 100000 in
theorem f_80_39 : fe 80 39 = some (.aload_n 0, 1, 5, none) := fe_of pg_80 rfl
set_option maxRecDepth 100000 in
theorem f_80_40 : fe 80 40 = some (.getfield 39, 3, 5, none) := fe_of pg_80 rfl
set_option maxRecDepth 100000 in
theorem f_80_43 : fe 80 43 = some (.aload_n 0, 1, 5, none) := fe_of pg_80 rfl
set_option maxRecDepth 100000 in
theorem f_80_44 : fe 80 44 = some (.getfield 55, 3, 5, none) := fe_of pg_80 rfl
set_option maxRecDepth 100000 in
theorem f_80_47 : fe 80 47 = some (.baload, 1, 5, none) := fe_of pg_80 rfl
set_option maxRecDepth 100000 in
theorem f_80_48 : fe 80 48 = some (.iadd, 1, 5, none) := fe_of pg_80 rfl
set_option maxRecDepth 100000 in
theorem f_80_49 : fe 80 49 = some (.bipush 48, 2, 5, none) := fe_of pg_80 rfl
set_option maxRecDepth 100000 in
theorem f_80_51 : fe 80 51 = some (.isub, 1, 5, none) := fe_of pg_80 rfl
set_option maxRecDepth 100000 in
theorem f_80_52 : fe 80 52 = some (.putfield 127, 3, 5, none) := fe_of pg_80 rfl
set_option maxRecDepth 100000 in
theorem f_80_55 : fe 80 55 = some (.aload_n 0, 1, 5, none) := fe_of pg_80 rfl
set_option maxRecDepth 100000 in
theorem f_80_56 : fe 80 56 = some (.dup, 1, 5, none) := fe_of pg_80 rfl
set_option maxRecDepth 100000 in
theorem f_80_57 : fe 80 57 = some (.getfield 55, 3, 5, none) := fe_of pg_80 rfl
set_option maxRecDepth 100000 in
theorem f_80_60 : fe 80 60 = some (.iconst 1, 1, 5, none) := fe_of pg_80 rfl
set_option maxRecDepth 100000 in
theorem f_80_61 : fe 80 61 = some (.iadd, 1, 5, none) := fe_of pg_80 rfl
set_option maxRecDepth 100000 in
theorem f_80_62 : fe 80 62 = some (.putfield 55, 3, 5, none) := fe_of pg_80 rfl
set_option maxRecDepth 100000 in
theorem f_80_65 : fe 80 65 = some (.goto (-60), 3, 5, none) := fe_of pg_80 rfl
set_option maxRecDepth 100000 in
theorem f_80_68 : fe 80 68 = some (.aload_n 0, 1, 5, none) := fe_of pg_80 rfl
set_option maxRecDepth 100000 in
theorem f_80_69 : fe 80 69 = some (.aload_n 0, 1, 5, none) := fe_of pg_80 rfl
set_option maxRecDepth 100000 in
theorem f_80_70 : fe 80 70 = some (.getfield 55, 3, 5, none) := fe_of pg_80 rfl
set_option maxRecDepth 100000 in
theorem f_80_73 : fe 80 73 = some (.aload_n 0, 1, 5, none) := fe_of pg_80 rfl
set_option maxRecDepth 100000 in
theorem f_80_74 : fe 80 74 = some (.getfield 78, 3, 5, none) := fe_of pg_80 rfl
set_option maxRecDepth 100000 in
theorem f_80_77 : fe 80 77 = some (.isub, 1, 5, none) := fe_of pg_80 rfl
set_option maxRecDepth 100000 in
theorem f_80_78 : fe 80 78 = some (.iconst 2, 1, 5, none) := fe_of pg_80 rfl
set_option maxRecDepth 100000 in
theorem f_80_79 : fe 80 79 = some (.if_icmp .gt 7, 3, 5, none) := fe_of pg_80 rfl
set_option maxRecDepth 100000 in
theorem f_80_82 : fe 80 82 = some (.iconst 2, 1, 5, none) := fe_of pg_80 rfl
set_option maxRecDepth 100000 in
theorem f_80_83 : fe 80 83 = some (.goto 4, 3, 5, none) := fe_of pg_80 rfl
set_option maxRecDepth 100000 in
theorem f_80_86 : fe 80 86 = some (.iconst 4, 1, 5, none) := fe_of pg_80 rfl
set_option maxRecDepth 100000 in
theorem f_80_87 : fe 80 87 = some (.putfield 71, 3, 5, none) := fe_of pg_80 rfl
set_option maxRecDepth 100000 in
theorem f_80_90 : fe 80 90 = some (.return_, 1, 5, none) := fe_of pg_80 rfl
set_option maxRecDepth 100000 in
theorem f_81_0 : fe 81 0 = some (.iload_n 0, 1, 5, some .boolean) := fe_of pg_81 rfl
set_option maxRecDepth 100000 in
theorem f_81_1 : fe 81 1 = some (.bipush 10, 2, 5, some .boolean) := fe_of pg_81 rfl
set_option maxRecDepth 100000 in
theorem f_81_3 : fe 81 3 = some (.if_icmp .eq 9, 3, 5, some .boolean) := fe_of pg_81 rfl
set_option maxRecDepth 100000 in
theorem f_81_6 : fe 81 6 = some (.iload_n 0, 1, 5, some .boolean) := fe_of pg_81 rfl
set_option maxRecDepth 100000 in
theorem f_81_7 : fe 81 7 = some (.bipush 32, 2, 5, some .boolean) := fe_of pg_81 rfl
set_option maxRecDepth 100000 in
theorem f_81_9 : fe 81 9 = some (.if_icmp .ne 7, 3, 5, some .boolean) := fe_of pg_81 rfl
set_option maxRecDepth 100000 in
theorem f_81_12 : fe 81 12 = some (.iconst 1, 1, 5, some .boolean) := fe_of pg_81 rfl
set_option maxRecDepth 100000 in
theorem f_81_13 : fe 81 13 = some (.goto 4, 3, 5, some .boolean) := fe_of pg_81 rfl
set_option maxRecDepth 100000 in
theorem f_81_16 : fe 81 16 = some (.iconst 0, 1, 5, some .boolean) := fe_of pg_81 rfl
set_option maxRecDepth 100000 in
theorem f_81_17 : fe 81 17 = some (.ireturn, 1, 5, some .boolean) := fe_of pg_81 rfl
set_option maxRecDepth 100000 in
theorem f_82_0 : fe 82 0 = some (.iload_n 0, 1, 5, some .boolean) := fe_of pg_82 rfl
set_option maxRecDepth 100000 in
theorem f_82_1 : fe 82 1 = some (.bipush 97, 2, 5, some .boolean) := fe_of pg_82 rfl
set_option maxRecDepth 100000 in
theorem f_82_3 : fe 82 3 = some (.if_icmp .lt 13, 3, 5, some .boolean) := fe_of pg_82 rfl
set_option maxRecDepth 100000 in
theorem f_82_6 : fe 82 6 = some (.iload_n 0, 1, 5, some .boolean) := fe_of pg_82 rfl
set_option maxRecDepth 100000 in
theorem f_82_7 : fe 82 7 = some (.bipush 122, 2, 5, some .boolean) := fe_of pg_82 rfl
set_option maxRecDepth 100000 in
theorem f_82_9 : fe 82 9 = some (.if_icmp .gt 7, 3, 5, some .boolean) := fe_of pg_82 rfl
set_option maxRecDepth 100000 in
theorem f_82_12 : fe 82 12 = some (.iconst 1, 1, 5, some .boolean) := fe_of pg_82 rfl
set_option maxRecDepth 100000 in
theorem f_82_13 : fe 82 13 = some (.goto 4, 3, 5, some .boolean) := fe_of pg_82 rfl
set_option maxRecDepth 100000 in
theorem f_82_16 : fe 82 16 = some (.iconst 0, 1, 5, some .boolean) := fe_of pg_82 rfl
set_option maxRecDepth 100000 in
theorem f_82_17 : fe 82 17 = some (.ireturn, 1, 5, some .boolean) := fe_of pg_82 rfl
set_option maxRecDepth 100000 in
theorem f_83_0 : fe 83 0 = some (.iload_n 0, 1, 5, some .boolean) := fe_of pg_83 rfl
set_option maxRecDepth 100000 in
theorem f_83_1 : fe 83 1 = some (.bipush 48, 2, 5, some .boolean) := fe_of pg_83 rfl
set_option maxRecDepth 100000 in
theorem f_83_3 : fe 83 3 = some (.if_icmp .lt 13, 3, 5, some .boolean) := fe_of pg_83 rfl
set_option maxRecDepth 100000 in
theorem f_83_6 : fe 83 6 = some (.iload_n 0, 1, 5, some .boolean) := fe_of pg_83 rfl
set_option maxRecDepth 100000 in
theorem f_83_7 : fe 83 7 = some (.bipush 57, 2, 5, some .boolean) := fe_of pg_83 rfl
set_option maxRecDepth 100000 in
theorem f_83_9 : fe 83 9 = some (.if_icmp .gt 7, 3, 5, some .boolean) := fe_of pg_83 rfl
set_option maxRecDepth 100000 in
theorem f_83_12 : fe 83 12 = some (.iconst 1, 1, 5, some .boolean) := fe_of pg_83 rfl
set_option maxRecDepth 100000 in
theorem f_83_13 : fe 83 13 = some (.goto 4, 3, 5, some .boolean) := fe_of pg_83 rfl
set_option maxRecDepth 100000 in
theorem f_83_16 : fe 83 16 = some (.iconst 0, 1, 5, some .boolean) := fe_of pg_83 rfl
set_option maxRecDepth 100000 in
theorem f_83_17 : fe 83 17 = some (.ireturn, 1, 5, some .boolean) := fe_of pg_83 rfl
set_option maxRecDepth 100000 in
theorem f_84_0 : fe 84 0 = some (.getstatic 186, 3, 5, some .int) := fe_of pg_84 rfl
set_option maxRecDepth 100000 in
theorem f_84_3 : fe 84 3 = some (.iload_n 1, 1, 5, some .int) := fe_of pg_84 rfl
set_option maxRecDepth 100000 in
theorem f_84_4 : fe 84 4 = some (.iaload, 1, 5, some .int) := fe_of pg_84 rfl
set_option maxRecDepth 100000 in
theorem f_84_5 : fe 84 5 = some (.istore_n 2, 1, 5, some .int) := fe_of pg_84 rfl
set_option maxRecDepth 100000 in
theorem f_84_6 : fe 84 6 = some (.iload_n 2, 1, 5, some .int) := fe_of pg_84 rfl
set_option maxRecDepth 100000 in
theorem f_84_7 : fe 84 7 = some (.getstatic 186, 3, 5, some .int) := fe_of pg_84 rfl
set_option maxRecDepth 100000 in
theorem f_84_10 : fe 84 10 = some (.iload_n 1, 1, 5, some .int) := fe_of pg_84 rfl
set_option maxRecDepth 100000 in
theorem f_84_11 : fe 84 11 = some (.iconst 1, 1, 5, some .int) := fe_of pg_84 rfl
set_option maxRecDepth 100000 in
theorem f_84_12 : fe 84 12 = some (.iadd, 1, 5, some .int) := fe_of pg_84 rfl
set_option maxRecDepth 100000 in
theorem f_84_13 : fe 84 13 = some (.iaload, 1, 5, some .int) := fe_of pg_84 rfl
set_option maxRecDepth 100000 in
theorem f_84_14 : fe 84 14 = some (.if_icmp .ge 22, 3, 5, some .int) := fe_of pg_84 rfl
set_option maxRecDepth 100000 in
theorem f_84_17 : fe 84 17 = some (.aload_n 0, 1, 5, some .int) := fe_of pg_84 rfl
set_option maxRecDepth 100000 in
theorem f_84_18 : fe 84 18 = some (.iload_n 2, 1, 5, some .int) := fe_of pg_84 rfl
set_option maxRecDepth 100000 in
theorem f_84_19 : fe 84 19 = some (.invokestatic 189, 3, 5, some .int) := fe_of pg_84 rfl
set_option maxRecDepth 100000 in
theorem f_84_22 : fe 84 22 = some (.invokevirtual 193, 3, 5, some .int) := fe_of pg_84 rfl
set_option maxRecDepth 100000 in
theorem f_84_25 : fe 84 25 = some (.ifCond .eq 5, 3, 5, some .int) := fe_of pg_84 rfl
set_option maxRecDepth 100000 in
theorem f_84_28 : fe 84 28 = some (.iload_n 2, 1, 5, some .int) := fe_of pg_84 rfl
set_option maxRecDepth 100000 in
theorem f_84_29 : fe 84 29 = some (.ireturn, 1, 5, some .int) := fe_of pg_84 rfl
set_option maxRecDepth 100000 in
theorem f_84_30 : fe 84 30 = some (.iinc 2 1, 3, 5, some .int) := fe_of pg_84 rfl
set_option maxRecDepth 100000 in
theorem f_84_33 : fe 84 33 = some (.goto (-27), 3, 5, some .int) := fe_of pg_84 rfl
set_option maxRecDepth 100000 in
theorem f_84_36 : fe 84 36 = some (.iconst (-1), 1, 5, some .int) := fe_of pg_84 rfl
set_option maxRecDepth 100000 in
theorem f_84_37 : fe 84 37 = some (.ireturn, 1, 5, some .int) := fe_of pg_84 rfl
set_option maxRecDepth 100000 in
theorem f_85_0 : fe 85 0 = some (.iconst 0, 1, 5, some .int) := fe_of pg_85 rfl
set_option maxRecDepth 100000 in
theorem f_85_1 : fe 85 1 = some (.istore_n 1, 1, 5, some .int) := fe_of pg_85 rfl
set_option maxRecDepth 100000 in
theorem f_85_2 : fe 85 2 = some (.iload_n 1, 1, 5, some .int) := fe_of pg_85 rfl
set_option maxRecDepth 100000 in
theorem f_85_3 : fe 85 3 = some (.iconst 4, 1, 5, some .int) := fe_of pg_85 rfl
set_option maxRecDepth 100000 in
theorem f_85_4 : fe 85 4 = some (.if_icmp .ge 22, 3, 5, some .int) := fe_of pg_85 rfl
set_option maxRecDepth 100000 in
theorem f_85_7 : fe 85 7 = some (.aload_n 0, 1, 5, some .int) := fe_of pg_85 rfl
set_option maxRecDepth 100000 in
theorem f_85_8 : fe 85 8 = some (.iload_n 1, 1, 5, some .int) := fe_of pg_85 rfl
set_option maxRecDepth 100000 in
theorem f_85_9 : fe 85 9 = some (.invokestatic 197, 3, 5, some .int) := fe_of pg_85 rfl
set_option maxRecDepth 100000 in
theorem f_85_12 : fe 85 12 = some (.invokevirtual 193, 3, 5, some .int) := fe_of pg_85 rfl
set_option maxRecDepth 100000 in
theorem f_85_15 : fe 85 15 = some (.ifCond .eq 5, 3, 5, some .int) := fe_of pg_85 rfl
set_option maxRecDepth 100000 in
theorem f_85_18 : fe 85 18 = some (.iload_n 1, 1, 5, some .int) := fe_of pg_85 rfl
set_option maxRecDepth 100000 in
theorem f_85_19 : fe 85 19 = some (.ireturn, 1, 5, some .int) := fe_of pg_85 rfl
set_option maxRecDepth 100000 in
theorem f_85_20 : fe 85 20 = some (.iinc 1 1, 3, 5, some .int) := fe_of pg_85 rfl
set_option maxRecDepth 100000 in
theorem f_85_23 : fe 85 23 = some (.goto (-21), 3, 5, some .int) := fe_of pg_85 rfl
set_option maxRecDepth 100000 in
theorem f_85_26 : fe 85 26 = some (.iconst (-1), 1, 5, some .int) := fe_of pg_85 rfl
set_option maxRecDepth 100000 in
theorem f_85_27 : fe 85 27 = some (.ireturn, 1, 5, some .int) := fe_of pg_85 rfl
set_option maxRecDepth 100000 in
theorem f_86_0 : fe 86 0 = some (.aload_n 0, 1, 5, some .boolean) := fe_of pg_86 rfl
set_option maxRecDepth 100000 in
theorem f_86_1 : fe 86 1 = some (.getfield 71, 3, 5, some .boolean) := fe_of pg_86 rfl
set_option maxRecDepth 100000 in
theorem f_86_4 : fe 86 4 = some (.iconst 1, 1, 5, some .boolean) := fe_of pg_86 rfl
set_option maxRecDepth 100000 in
theorem f_86_5 : fe 86 5 = some (.if_icmp .ne 19, 3, 5, some .boolean) := fe_of pg_86 rfl
set_option maxRecDepth 100000 in
theorem f_86_8 : fe 86 8 = some (.aload_n 0, 1, 5, some .boolean) := fe_of pg_86 rfl
set_option maxRecDepth 100000 in
theorem f_86_9 : fe 86 9 = some (.getfield 55, 3, 5, some .boolean) := fe_of pg_86 rfl
set_option maxRecDepth 100000 in
theorem f_86_12 : fe 86 12 = some (.aload_n 0, 1, 5, some .boolean) := fe_of pg_86 rfl
set_option maxRecDepth 100000 in
theorem f_86_13 : fe 86 13 = some (.getfield 78, 3, 5, some .boolean) := fe_of pg_86 rfl
set_option maxRecDepth 100000 in
theorem f_86_16 : fe 86 16 = some (.isub, 1, 5, some .boolean) := fe_of pg_86 rfl
set_option maxRecDepth 100000 in
theorem f_86_17 : fe 86 17 = some (.aload_n 1, 1, 5, some .boolean) := fe_of pg_86 rfl
set_option maxRecDepth 100000 in
theorem f_86_18 : fe 86 18 = some (.invokevirtual 200, 3, 5, some .boolean) := fe_of pg_86 rfl
set_option maxRecDepth 100000 in
theorem f_86_21 : fe 86 21 = some (.if_icmp .eq 5, 3, 5, some .boolean) := fe_of pg_86 rfl
set_option maxRecDepth 100000 in
theorem f_86_24 : fe 86 24 = some (.iconst 0, 1, 5, some .boolean) := fe_of pg_86 rfl
set_option maxRecDepth 100000 in
theorem f_86_25 : fe 86 25 = some (.ireturn, 1, 5, some .boolean) := fe_of pg_86 rfl
set_option maxRecDepth 100000 in
theorem f_86_26 : fe 86 26 = some (.iconst 0, 1, 5, some .boolean) := fe_of pg_86 rfl
set_option maxRecDepth 100000 in
theorem f_86_27 : fe 86 27 = some (.istore_n 2, 1, 5, some .boolean) := fe_of pg_86 rfl
set_option maxRecDepth 100000 in
theorem f_86_28 : fe 86 28 = some (.iload_n 2, 1, 5, some .boolean) := fe_of pg_86 rfl
set_option maxRecDepth 100000 in
theorem f_86_29 : fe 86 29 = some (.aload_n 1, 1, 5, some .boolean) := fe_of pg_86 rfl
set_option maxRecDepth 100000 in
theorem f_86_30 : fe 86 30 = some (.invokevirtual 200, 3, 5, some .boolean) := fe_of pg_86 rfl
set_option maxRecDepth 100000 in
theorem f_86_33 : fe 86 33 = some (.if_icmp .ge 30, 3, 5, some .boolean) := fe_of pg_86 rfl
set_option maxRecDepth 100000 in
theorem f_86_36 : fe 86 36 = some (.aload_n 0, 1, 5, some .boolean) := fe_of pg_86 rfl
set_option maxRecDepth 100000 in
theorem f_86_37 : fe 86 37 = some (.getfield 39, 3, 5, some .boolean) := fe_of pg_86 rfl
set_option maxRecDepth 100000 in
theorem f_86_40 : fe 86 40 = some (.aload_n 0, 1, 5, some .boolean) := fe_of pg_86 rfl
set_option maxRecDepth 100000 in
theorem f_86_41 : fe 86 41 = some (.getfield 78, 3, 5, some .boolean) := fe_of pg_86 rfl
set_option maxRecDepth 100000 in
theorem f_86_44 : fe 86 44 = some (.iload_n 2, 1, 5, some .boolean) := fe_of pg_86 rfl
set_option maxRecDepth 100000 in
theorem f_86_45 : fe 86 45 = some (.iadd, 1, 5, some .boolean) := fe_of pg_86 rfl
set_option maxRecDepth 100000 in
theorem f_86_46 : fe 86 46 = some (.baload, 1, 5, some .boolean) := fe_of pg_86 rfl
set_option maxRecDepth 100000 in
theorem f_86_47 : fe 86 47 = some (.aload_n 1, 1, 5, some .boolean) := fe_of pg_86 rfl
set_option maxRecDepth 100000 in
theorem f_86_48 : fe 86 48 = some (.iload_n 2, 1, 5, some .boolean) := fe_of pg_86 rfl
set_option maxRecDepth 100000 in
theorem f_86_49 : fe 86 49 = some (.invokevirtual 204, 3, 5, some .boolean) := fe_of pg_86 rfl
set_option maxRecDepth 100000 in
theorem f_86_52 : fe 86 52 = some (.if_icmp .eq 5, 3, 5, some .boolean) := fe_of pg_86 rfl
set_option maxRecDepth 100000 in
theorem f_86_55 : fe 86 55 = some (.iconst 0, 1, 5, some .boolean) := fe_of pg_86 rfl
set_option maxRecDepth 100000 in
theorem f_86_56 : fe 86 56 = some (.ireturn, 1, 5, some .boolean) := fe_of pg_86 rfl
set_option maxRecDepth 100000 in
theorem f_86_57 : fe 86 57 = some (.iinc 2 1, 3, 5, some .boolean) := fe_of pg_86 rfl
set_option maxRecDepth 100000 in
theorem f_86_60 : fe 86 60 = some (.goto (-32), 3, 5, some .boolean) := fe_of pg_86 rfl
set_option maxRecDepth 100000 in
theorem f_86_63 : fe 86 63 = some (.iconst 1, 1, 5, some .boolean) := fe_of pg_86 rfl
set_option maxRecDepth 100000 in
theorem f_86_64 : fe 86 64 = some (.ireturn, 1, 5, some .boolean) := fe_of pg_86 rfl
set_option maxRecDepth 100000 in
theorem f_87_0 : fe 87 0 = some (.iload_n 0, 1, 5, some (.object "java/lang/String")) := fe_of pg_87 rfl
set_option maxRecDepth 100000 in
theorem f_87_1 : fe 87 1 = some (.tableswitch 36 0 2 #[27, 30, 33], 27, 5, some (.object "java/lang/String")) := fe_of pg_87 rfl
set_option maxRecDepth 100000 in
theorem f_87_28 : fe 87 28 = some (.ldc 208, 2, 5, some (.object "java/lang/String")) := fe_of pg_87 rfl
set_option maxRecDepth 100000 in
theorem f_87_30 : fe 87 30 = some (.areturn, 1, 5, some (.object "java/lang/String")) := fe_of pg_87 rfl
set_option maxRecDepth 100000 in
theorem f_87_31 : fe 87 31 = some (.ldc 210, 2, 5, some (.object "java/lang/String")) := fe_of pg_87 rfl
set_option maxRecDepth 100000 in
theorem f_87_33 : fe 87 33 = some (.areturn, 1, 5, some (.object "java/lang/String")) := fe_of pg_87 rfl
set_option maxRecDepth 100000 in
theorem f_87_34 : fe 87 34 = some (.ldc 212, 2, 5, some (.object "java/lang/String")) := fe_of pg_87 rfl
set_option maxRecDepth 100000 in
theorem f_87_36 : fe 87 36 = some (.areturn, 1, 5, some (.object "java/lang/String")) := fe_of pg_87 rfl
set_option maxRecDepth 100000 in
theorem f_87_37 : fe 87 37 = some (.ldc 214, 2, 5, some (.object "java/lang/String")) := fe_of pg_87 rfl
set_option maxRecDepth 100000 in
theorem f_87_39 : fe 87 39 = some (.areturn, 1, 5, some (.object "java/lang/String")) := fe_of pg_87 rfl
set_option maxRecDepth 100000 in
theorem f_88_0 : fe 88 0 = some (.iload_n 0, 1, 5, some (.object "java/lang/String")) := fe_of pg_88 rfl
set_option maxRecDepth 100000 in
theorem f_88_1 : fe 88 1 = some (.tableswitch 134 0 16 #[83, 86, 89, 92, 95, 98, 101, 104, 107, 110, 113, 116, 119, 122, 125, 128, 131], 83, 5, some (.object "java/lang/String")) := fe_of pg_88 rfl
set_option maxRecDepth 100000 in
theorem f_88_84 : fe 88 84 = some (.ldc 216, 2, 5, some (.object "java/lang/String")) := fe_of pg_88 rfl
set_option maxRecDepth 100000 in
theorem f_88_86 : fe 88 86 = some (.areturn, 1, 5, some (.object "java/lang/String")) := fe_of pg_88 rfl
set_option maxRecDepth 100000 in
theorem f_88_87 : fe 88 87 = some (.ldc 218, 2, 5, some (.object "java/lang/String")) := fe_of pg_88 rfl
set_option maxRecDepth 100000 in
theorem f_88_89 : fe 88 89 = some (.areturn, 1, 5, some (.object "java/lang/String")) := fe_of pg_88 rfl
set_option maxRecDepth 100000 in
theorem f_88_90 : fe 88 90 = some (.ldc 219, 2, 5, some (.object "java/lang/String")) := fe_of pg_88 rfl
set_option maxRecDepth 100000 in
theorem f_88_92 : fe 88 92 = some (.areturn, 1, 5, some (.object "java/lang/String")) := fe_of pg_88 rfl
set_option maxRecDepth 100000 in
theorem f_88_93 : fe 88 93 = some (.ldc 221, 2, 5, some (.object "java/lang/String")) := fe_of pg_88 rfl
set_option maxRecDepth 100000 in
theorem f_88_95 : fe 88 95 = some (.areturn, 1, 5, some (.object "java/lang/String")) := fe_of pg_88 rfl
set_option maxRecDepth 100000 in
theorem f_88_96 : fe 88 96 = some (.ldc 222, 2, 5, some (.object "java/lang/String")) := fe_of pg_88 rfl
set_option maxRecDepth 100000 in
theorem f_88_98 : fe 88 98 = some (.areturn, 1, 5, some (.object "java/lang/String")) := fe_of pg_88 rfl
set_option maxRecDepth 100000 in
theorem f_88_99 : fe 88 99 = some (.ldc 224, 2, 5, some (.object "java/lang/String")) := fe_of pg_88 rfl
set_option maxRecDepth 100000 in
theorem f_88_101 : fe 88 101 = some (.areturn, 1, 5, some (.object "java/lang/String")) := fe_of pg_88 rfl
set_option maxRecDepth 100000 in
theorem f_88_102 : fe 88 102 = some (.ldc 226, 2, 5, some (.object "java/lang/String")) := fe_of pg_88 rfl
set_option maxRecDepth 100000 in
theorem f_88_104 : fe 88 104 = some (.areturn, 1, 5, some (.object "java/lang/String")) := fe_of pg_88 rfl
set_option maxRecDepth 100000 in
theorem f_88_105 : fe 88 105 = some (.ldc 228, 2, 5, some (.object "java/lang/String")) := fe_of pg_88 rfl
set_option maxRecDepth 100000 in
theorem f_88_107 : fe 88 107 = some (.areturn, 1, 5, some (.object "java/lang/String")) := fe_of pg_88 rfl
set_option maxRecDepth 100000 in
theorem f_88_108 : fe 88 108 = some (.ldc 230, 2, 5, some (.object "java/lang/String")) := fe_of pg_88 rfl
set_option maxRecDepth 100000 in
theorem f_88_110 : fe 88 110 = some (.areturn, 1, 5, some (.object "java/lang/String")) := fe_of pg_88 rfl
set_option maxRecDepth 100000 in
theorem f_88_111 : fe 88 111 = some (.ldc 232, 2, 5, some (.object "java/lang/String")) := fe_of pg_88 rfl
set_option maxRecDepth 100000 in
theorem f_88_113 : fe 88 113 = some (.areturn, 1, 5, some (.object "java/lang/String")) := fe_of pg_88 rfl
set_option maxRecDepth 100000 in
theorem f_88_114 : fe 88 114 = some (.ldc 234, 2, 5, some (.object "java/lang/String")) := fe_of pg_88 rfl
set_option maxRecDepth 100000 in
theorem f_88_116 : fe 88 116 = some (.areturn, 1, 5, some (.object "java/lang/String")) := fe_of pg_88 rfl
set_option maxRecDepth 100000 in
theorem f_88_117 : fe 88 117 = some (.ldc 236, 2, 5, some (.object "java/lang/String")) := fe_of pg_88 rfl
set_option maxRecDepth 100000 in
theorem f_88_119 : fe 88 119 = some (.areturn, 1, 5, some (.object "java/lang/String")) := fe_of pg_88 rfl
set_option maxRecDepth 100000 in
theorem f_88_120 : fe 88 120 = some (.ldc 238, 2, 5, some (.object "java/lang/String")) := fe_of pg_88 rfl
set_option maxRecDepth 100000 in
theorem f_88_122 : fe 88 122 = some (.areturn, 1, 5, some (.object "java/lang/String")) := fe_of pg_88 rfl
set_option maxRecDepth 100000 in
theorem f_88_123 : fe 88 123 = some (.ldc 240, 2, 5, some (.object "java/lang/String")) := fe_of pg_88 rfl
set_option maxRecDepth 100000 in
theorem f_88_125 : fe 88 125 = some (.areturn, 1, 5, some (.object "java/lang/String")) := fe_of pg_88 rfl
set_option maxRecDepth 100000 in
theorem f_88_126 : fe 88 126 = some (.ldc 241, 2, 5, some (.object "java/lang/String")) := fe_of pg_88 rfl
set_option maxRecDepth 100000 in
theorem f_88_128 : fe 88 128 = some (.areturn, 1, 5, some (.object "java/lang/String")) := fe_of pg_88 rfl
set_option maxRecDepth 100000 in
theorem f_88_129 : fe 88 129 = some (.ldc 242, 2, 5, some (.object "java/lang/String")) := fe_of pg_88 rfl
set_option maxRecDepth 100000 in
theorem f_88_131 : fe 88 131 = some (.areturn, 1, 5, some (.object "java/lang/String")) := fe_of pg_88 rfl
set_option maxRecDepth 100000 in
theorem f_88_132 : fe 88 132 = some (.ldc 244, 2, 5, some (.object "java/lang/String")) := fe_of pg_88 rfl
set_option maxRecDepth 100000 in
theorem f_88_134 : fe 88 134 = some (.areturn, 1, 5, some (.object "java/lang/String")) := fe_of pg_88 rfl
set_option maxRecDepth 100000 in
theorem f_88_135 : fe 88 135 = some (.ldc 246, 2, 5, some (.object "java/lang/String")) := fe_of pg_88 rfl
set_option maxRecDepth 100000 in
theorem f_88_137 : fe 88 137 = some (.areturn, 1, 5, some (.object "java/lang/String")) := fe_of pg_88 rfl
set_option maxRecDepth 100000 in
theorem f_89_0 : fe 89 0 = some (.aload_n 0, 1, 6, none) := fe_of pg_89 rfl
set_option maxRecDepth 100000 in
theorem f_89_1 : fe 89 1 = some (.invokespecial 3, 3, 6, none) := fe_of pg_89 rfl
set_option maxRecDepth 100000 in
theorem f_89_4 : fe 89 4 = some (.aload_n 0, 1, 6, none) := fe_of pg_89 rfl
set_option maxRecDepth 100000 in
theorem f_89_5 : fe 89 5 = some (.bipush 40, 2, 6, none) := fe_of pg_89 rfl
set_option maxRecDepth 100000 in
theorem f_89_7 : fe 89 7 = some (.newarray .int, 2, 6, none) := fe_of pg_89 rfl
set_option maxRecDepth 100000 in
theorem f_89_9 : fe 89 9 = some (.putfield 9, 3, 6, none) := fe_of pg_89 rfl
set_option maxRecDepth 100000 in
theorem f_89_12 : fe 89 12 = some (.aload_n 0, 1, 6, none) := fe_of pg_89 rfl
set_option maxRecDepth 100000 in
theorem f_89_13 : fe 89 13 = some (.bipush 40, 2, 6, none) := fe_of pg_89 rfl
set_option maxRecDepth 100000 in
theorem f_89_15 : fe 89 15 = some (.newarray .int, 2, 6, none) := fe_of pg_89 rfl
set_option maxRecDepth 100000 in
theorem f_89_17 : fe 89 17 = some (.putfield 15, 3, 6, none) := fe_of pg_89 rfl
set_option maxRecDepth 100000 in
theorem f_89_20 : fe 89 20 = some (.aload_n 0, 1, 6, none) := fe_of pg_89 rfl
set_option maxRecDepth 100000 in
theorem f_89_21 : fe 89 21 = some (.bipush 40, 2, 6, none) := fe_of pg_89 rfl
set_option maxRecDepth 100000 in
theorem f_89_23 : fe 89 23 = some (.newarray .int, 2, 6, none) := fe_of pg_89 rfl
set_option maxRecDepth 100000 in
theorem f_89_25 : fe 89 25 = some (.putfield 18, 3, 6, none) := fe_of pg_89 rfl
set_option maxRecDepth 100000 in
theorem f_89_28 : fe 89 28 = some (.return_, 1, 6, none) := fe_of pg_89 rfl
set_option maxRecDepth 100000 in
theorem f_90_0 : fe 90 0 = some (.aload_n 1, 1, 6, none) := fe_of pg_90 rfl
set_option maxRecDepth 100000 in
theorem f_90_1 : fe 90 1 = some (.getfield 9, 3, 6, none) := fe_of pg_90 rfl
set_option maxRecDepth 100000 in
theorem f_90_4 : fe 90 4 = some (.aload_n 0, 1, 6, none) := fe_of pg_90 rfl
set_option maxRecDepth 100000 in
theorem f_90_5 : fe 90 5 = some (.getfield 9, 3, 6, none) := fe_of pg_90 rfl
set_option maxRecDepth 100000 in
theorem f_90_8 : fe 90 8 = some (.invokestatic 21, 3, 6, none) := fe_of pg_90 rfl
set_option maxRecDepth 100000 in
theorem f_90_11 : fe 90 11 = some (.aload_n 1, 1, 6, none) := fe_of pg_90 rfl
set_option maxRecDepth 100000 in
theorem f_90_12 : fe 90 12 = some (.getfield 15, 3, 6, none) := fe_of pg_90 rfl
set_option maxRecDepth 100000 in
theorem f_90_15 : fe 90 15 = some (.aload_n 0, 1, 6, none) := fe_of pg_90 rfl
set_option maxRecDepth 100000 in
theorem f_90_16 : fe 90 16 = some (.getfield 15, 3, 6, none) := fe_of pg_90 rfl
set_option maxRecDepth 100000 in
theorem f_90_19 : fe 90 19 = some (.invokestatic 21, 3, 6, none) := fe_of pg_90 rfl
set_option maxRecDepth 100000 in
theorem f_90_22 : fe 90 22 = some (.aload_n 1, 1, 6, none) := fe_of pg_90 rfl
set_option maxRecDepth 100000 in
theorem f_90_23 : fe 90 23 = some (.getfield 18, 3, 6, none) := fe_of pg_90 rfl
set_option maxRecDepth 100000 in
theorem f_90_26 : fe 90 26 = some (.aload_n 0, 1, 6, none) := fe_of pg_90 rfl
set_option maxRecDepth 100000 in
theorem f_90_27 : fe 90 27 = some (.getfield 18, 3, 6, none) := fe_of pg_90 rfl
set_option maxRecDepth 100000 in
theorem f_90_30 : fe 90 30 = some (.invokestatic 21, 3, 6, none) := fe_of pg_90 rfl
set_option maxRecDepth 100000 in
theorem f_90_33 : fe 90 33 = some (.aload_n 0, 1, 6, none) := fe_of pg_90 rfl
set_option maxRecDepth 100000 in
theorem f_90_34 : fe 90 34 = some (.aload_n 1, 1, 6, none) := fe_of pg_90 rfl
set_option maxRecDepth 100000 in
theorem f_90_35 : fe 90 35 = some (.getfield 25, 3, 6, none) := fe_of pg_90 rfl
set_option maxRecDepth 100000 in
theorem f_90_38 : fe 90 38 = some (.putfield 25, 3, 6, none) := fe_of pg_90 rfl
set_option maxRecDepth 100000 in
theorem f_90_41 : fe 90 41 = some (.return_, 1, 6, none) := fe_of pg_90 rfl
set_option maxRecDepth 100000 in
theorem f_91_0 : fe 91 0 = some (.aload_n 0, 1, 6, none) := fe_of pg_91 rfl
set_option maxRecDepth 100000 in
theorem f_91_1 : fe 91 1 = some (.getfield 25, 3, 6, none) := fe_of pg_91 rfl
set_option maxRecDepth 100000 in
theorem f_91_4 : fe 91 4 = some (.bipush 40, 2, 6, none) := fe_of pg_91 rfl
set_option maxRecDepth 100000 in
theorem f_91_6 : fe 91 6 = some (.if_icmp .ge 43, 3, 6, none) := fe_of pg_91 rfl
set_option maxRecDepth 100000 in
theorem f_91_9 : fe 91 9 = some (.aload_n 0, 1, 6, none) := fe_of pg_91 rfl
set_option maxRecDepth 100000 in
theorem f_91_10 : fe 91 10 = some (.getfield 9, 3, 6, none) := fe_of pg_91 rfl
set_option maxRecDepth 100000 in
theorem f_91_13 : fe 91 13 = some (.aload_n 0, 1, 6, none) := fe_of pg_91 rfl
set_option maxRecDepth 100000 in
theorem f_91_14 : fe 91 14 = some (.getfield 25, 3, 6, none) := fe_of pg_91 rfl
set_option maxRecDepth 100000 in
theorem f_91_17 : fe 91 17 = some (.iload_n 1, 1, 6, none) := fe_of pg_91 rfl
set_option maxRecDepth 100000 in
theorem f_91_18 : fe 91 18 = some (.iastore, 1, 6, none) := fe_of pg_91 rfl
set_option maxRecDepth 100000 in
theorem f_91_19 : fe 91 19 = some (.aload_n 0, 1, 6, none) := fe_of pg_91 rfl
set_option maxRecDepth 100000 in
theorem f_91_20 : fe 91 20 = some (.getfield 15, 3, 6, none) := fe_of pg_91 rfl
set_option maxRecDepth 100000 in
theorem f_91_23 : fe 91 23 = some (.aload_n 0, 1, 6, none) := fe_of pg_91 rfl
set_option maxRecDepth 100000 in
theorem f_91_24 : fe 91 24 = some (.getfield 25, 3, 6, none) := fe_of pg_91 rfl
set_option maxRecDepth 100000 in
theorem f_91_27 : fe 91 27 = some (.iload_n 2, 1, 6, none) := fe_of pg_91 rfl
set_option maxRecDepth 100000 in
theorem f_91_28 : fe 91 28 = some (.iastore, 1, 6, none) := fe_of pg_91 rfl
set_option maxRecDepth 100000 in
theorem f_91_29 : fe 91 29 = some (.aload_n 0, 1, 6, none) := fe_of pg_91 rfl
set_option maxRecDepth 100000 in
theorem f_91_30 : fe 91 30 = some (.getfield 18, 3, 6, none) := fe_of pg_91 rfl
set_option maxRecDepth 100000 in
theorem f_91_33 : fe 91 33 = some (.aload_n 0, 1, 6, none) := fe_of pg_91 rfl
set_option maxRecDepth 100000 in
theorem f_91_34 : fe 91 34 = some (.getfield 25, 3, 6, none) := fe_of pg_91 rfl
set_option maxRecDepth 100000 in
theorem f_91_37 : fe 91 37 = some (.iload_n 3, 1, 6, none) := fe_of pg_91 rfl
set_option maxRecDepth 100000 in
theorem f_91_38 : fe 91 38 = some (.iastore, 1, 6, none) := fe_of pg_91 rfl
set_option maxRecDepth 100000 in
theorem f_91_39 : fe 91 39 = some (.aload_n 0, 1, 6, none) := fe_of pg_91 rfl
set_option maxRecDepth 100000 in
theorem f_91_40 : fe 91 40 = some (.dup, 1, 6, none) := fe_of pg_91 rfl
set_option maxRecDepth 100000 in
theorem f_91_41 : fe 91 41 = some (.getfield 25, 3, 6, none) := fe_of pg_91 rfl
set_option maxRecDepth 100000 in
theorem f_91_44 : fe 91 44 = some (.iconst 1, 1, 6, none) := fe_of pg_91 rfl
set_option maxRecDepth 100000 in
theorem f_91_45 : fe 91 45 = some (.iadd, 1, 6, none) := fe_of pg_91 rfl
set_option maxRecDepth 100000 in
theorem f_91_46 : fe 91 46 = some (.putfield 25, 3, 6, none) := fe_of pg_91 rfl
set_option maxRecDepth 100000 in
theorem f_91_49 : fe 91 49 = some (.return_, 1, 6, none) := fe_of pg_91 rfl
set_option maxRecDepth 100000 in
theorem f_92_0 : fe 92 0 = some (.iload_n 1, 1, 6, some .int) := fe_of pg_92 rfl
set_option maxRecDepth 100000 in
theorem f_92_1 : fe 92 1 = some (.iconst (-1), 1, 6, some .int) := fe_of pg_92 rfl
set_option maxRecDepth 100000 in
theorem f_92_2 : fe 92 2 = some (.if_icmp .ne 12, 3, 6, some .int) := fe_of pg_92 rfl
set_option maxRecDepth 100000 in
theorem f_92_5 : fe 92 5 = some (.iload_n 2, 1, 6, some .int) := fe_of pg_92 rfl
set_option maxRecDepth 100000 in
theorem f_92_6 : fe 92 6 = some (.ifCond .ne 8, 3, 6, some .int) := fe_of pg_92 rfl
set_option maxRecDepth 100000 in
theorem f_92_9 : fe 92 9 = some (.aload_n 0, 1, 6, some .int) := fe_of pg_92 rfl
set_option maxRecDepth 100000 in
theorem f_92_10 : fe 92 10 = some (.getfield 25, 3, 6, some .int) := fe_of pg_92 rfl
set_option maxRecDepth 100000 in
theorem f_92_13 : fe 92 13 = some (.ireturn, 1, 6, some .int) := fe_of pg_92 rfl
set_option maxRecDepth 100000 in
theorem f_92_14 : fe 92 14 = some (.iload_n 1, 1, 6, some .int) := fe_of pg_92 rfl
set_option maxRecDepth 100000 in
theorem f_92_15 : fe 92 15 = some (.ifCond .lt 11, 3, 6, some .int) := fe_of pg_92 rfl
set_option maxRecDepth 100000 in
theorem f_92_18 : fe 92 18 = some (.iload_n 1, 1, 6, some .int) := fe_of pg_92 rfl
set_option maxRecDepth 100000 in
theorem f_92_19 : fe 92 19 = some (.aload_n 0, 1, 6, some .int) := fe_of pg_92 rfl
set_option maxRecDepth 100000 in
theorem f_92_20 : fe 92 20 = some (.getfield 25, 3, 6, some .int) := fe_of pg_92 rfl
set_option maxRecDepth 100000 in
theorem f_92_23 : fe 92 23 = some (.if_icmp .lt 6, 3, 6, some .int) := fe_of pg_92 rfl
set_option maxRecDepth 100000 in
theorem f_92_26 : fe 92 26 = some (.bipush (-2), 2, 6, some .int) := fe_of pg_92 rfl
set_option maxRecDepth 100000 in
theorem f_92_28 : fe 92 28 = some (.ireturn, 1, 6, some .int) := fe_of pg_92 rfl
set_option maxRecDepth 100000 in
theorem f_92_29 : fe 92 29 = some (.iload_n 2, 1, 6, some .int) := fe_of pg_92 rfl
set_option maxRecDepth 100000 in
theorem f_92_30 : fe 92 30 = some (.tableswitch 47 0 2 #[26, 33, 40], 26, 6, some .int) := fe_of pg_92 rfl
set_option maxRecDepth 100000 in
theorem f_92_56 : fe 92 56 = some (.aload_n 0, 1, 6, some .int) := fe_of pg_92 rfl
set_option maxRecDepth 100000 in
theorem f_92_57 : fe 92 57 = some (.getfield 9, 3, 6, some .int) := fe_of pg_92 rfl
set_option maxRecDepth 100000 in
theorem f_92_60 : fe 92 60 = some (.iload_n 1, 1, 6, some .int) := fe_of pg_92 rfl
set_option maxRecDepth 100000 in
theorem f_92_61 : fe 92 61 = some (.iaload, 1, 6, some .int) := fe_of pg_92 rfl
set_option maxRecDepth 100000 in
theorem f_92_62 : fe 92 62 = some (.ireturn, 1, 6, some .int) := fe_of pg_92 rfl
set_option maxRecDepth 100000 in
theorem f_92_63 : fe 92 63 = some (.aload_n 0, 1, 6, some .int) := fe_of pg_92 rfl
set_option maxRecDepth 100000 in
theorem f_92_64 : fe 92 64 = some (.getfield 15, 3, 6, some .int) := fe_of pg_92 rfl
set_option maxRecDepth 100000 in
theorem f_92_67 : fe 92 67 = some (.iload_n 1, 1, 6, some .int) := fe_of pg_92 rfl
set_option maxRecDepth 100000 in
theorem f_92_68 : fe 92 68 = some (.iaload, 1, 6, some .int) := fe_of pg_92 rfl
set_option maxRecDepth 100000 in
theorem f_92_69 : fe 92 69 = some (.ireturn, 1, 6, some .int) := fe_of pg_92 rfl
set_option maxRecDepth 100000 in
theorem f_92_70 : fe 92 70 = some (.aload_n 0, 1, 6, some .int) := fe_of pg_92 rfl
set_option maxRecDepth 100000 in
theorem f_92_71 : fe 92 71 = some (.getfield 18, 3, 6, some .int) := fe_of pg_92 rfl
set_option maxRecDepth 100000 in
theorem f_92_74 : fe 92 74 = some (.iload_n 1, 1, 6, some .int) := fe_of pg_92 rfl
set_option maxRecDepth 100000 in
theorem f_92_75 : fe 92 75 = some (.iaload, 1, 6, some .int) := fe_of pg_92 rfl
set_option maxRecDepth 100000 in
theorem f_92_76 : fe 92 76 = some (.ireturn, 1, 6, some .int) := fe_of pg_92 rfl
set_option maxRecDepth 100000 in
theorem f_92_77 : fe 92 77 = some (.bipush (-2), 2, 6, some .int) := fe_of pg_92 rfl
set_option maxRecDepth 100000 in
theorem f_92_79 : fe 92 79 = some (.ireturn, 1, 6, some .int) := fe_of pg_92 rfl
set_option maxRecDepth 100000 in
theorem f_93_0 : fe 93 0 = some (.aload_n 0, 1, 7, none) := fe_of pg_93 rfl
set_option maxRecDepth 100000 in
theorem f_93_1 : fe 93 1 = some (.invokespecial 3, 3, 7, none) := fe_of pg_93 rfl
set_option maxRecDepth 100000 in
theorem f_93_4 : fe 93 4 = some (.aload_n 0, 1, 7, none) := fe_of pg_93 rfl
set_option maxRecDepth 100000 in
theorem f_93_5 : fe 93 5 = some (.bipush 10, 2, 7, none) := fe_of pg_93 rfl
set_option maxRecDepth 100000 in
theorem f_93_7 : fe 93 7 = some (.newarray .int, 2, 7, none) := fe_of pg_93 rfl
set_option maxRecDepth 100000 in
theorem f_93_9 : fe 93 9 = some (.putfield 9, 3, 7, none) := fe_of pg_93 rfl
set_option maxRecDepth 100000 in
theorem f_93_12 : fe 93 12 = some (.aload_n 0, 1, 7, none) := fe_of pg_93 rfl
set_option maxRecDepth 100000 in
theorem f_93_13 : fe 93 13 = some (.bipush 10, 2, 7, none) := fe_of pg_93 rfl
set_option maxRecDepth 100000 in
theorem f_93_15 : fe 93 15 = some (.newarray .int, 2, 7, none) := fe_of pg_93 rfl
set_option maxRecDepth 100000 in
theorem f_93_17 : fe 93 17 = some (.putfield 15, 3, 7, none) := fe_of pg_93 rfl
set_option maxRecDepth 100000 in
theorem f_93_20 : fe 93 20 = some (.aload_n 0, 1, 7, none) := fe_of pg_93 rfl
set_option maxRecDepth 100000 in
theorem f_93_21 : fe 93 21 = some (.bipush 10, 2, 7, none) := fe_of pg_93 rfl
set_option maxRecDepth 100000 in
theorem f_93_23 : fe 93 23 = some (.newarray .int, 2, 7, none) := fe_of pg_93 rfl
set_option maxRecDepth 100000 in
theorem f_93_25 : fe 93 25 = some (.putfield 18, 3, 7, none) := fe_of pg_93 rfl
set_option maxRecDepth 100000 in
theorem f_93_28 : fe 93 28 = some (.aload_n 0, 1, 7, none) := fe_of pg_93 rfl
set_option maxRecDepth 100000 in
theorem f_93_29 : fe 93 29 = some (.iconst 4, 1, 7, none) := fe_of pg_93 rfl
set_option maxRecDepth 100000 in
theorem f_93_30 : fe 93 30 = some (.newarray .int, 2, 7, none) := fe_of pg_93 rfl
set_option maxRecDepth 100000 in
theorem f_93_32 : fe 93 32 = some (.putfield 21, 3, 7, none) := fe_of pg_93 rfl
set_option maxRecDepth 100000 in
theorem f_93_35 : fe 93 35 = some (.aload_n 0, 1, 7, none) := fe_of pg_93 rfl
set_option maxRecDepth 100000 in
theorem f_93_36 : fe 93 36 = some (.iconst 4, 1, 7, none) := fe_of pg_93 rfl
set_option maxRecDepth 100000 in
theorem f_93_37 : fe 93 37 = some (.newarray .int, 2, 7, none) := fe_of pg_93 rfl
set_option maxRecDepth 100000 in
theorem f_93_39 : fe 93 39 = some (.putfield 24, 3, 7, none) := fe_of pg_93 rfl
set_option maxRecDepth 100000 in
theorem f_93_42 : fe 93 42 = some (.aload_n 0, 1, 7, none) := fe_of pg_93 rfl
set_option maxRecDepth 100000 in
theorem f_93_43 : fe 93 43 = some (.invokevirtual 27, 3, 7, none) := fe_of pg_93 rfl
set_option maxRecDepth 100000 in
theorem f_93_46 : fe 93 46 = some (.return_, 1, 7, none) := fe_of pg_93 rfl
set_option maxRecDepth 100000 in
theorem f_94_0 : fe 94 0 = some (.aload_n 0, 1, 7, none) := fe_of pg_94 rfl
set_option maxRecDepth 100000 in
theorem f_94_1 : fe 94 1 = some (.iconst 2, 1, 7, none) := fe_of pg_94 rfl
set_option maxRecDepth 100000 in
theorem f_94_2 : fe 94 2 = some (.putfield 30, 3, 7, none) := fe_of pg_94 rfl
set_option maxRecDepth 100000 in
theorem f_94_5 : fe 94 5 = some (.aload_n 0, 1, 7, none) := fe_of pg_94 rfl
set_option maxRecDepth 100000 in
theorem f_94_6 : fe 94 6 = some (.iconst 0, 1, 7, none) := fe_of pg_94 rfl
set_option maxRecDepth 100000 in
theorem f_94_7 : fe 94 7 = some (.putfield 34, 3, 7, none) := fe_of pg_94 rfl
set_option maxRecDepth 100000 in
theorem f_94_10 : fe 94 10 = some (.aload_n 0, 1, 7, none) := fe_of pg_94 rfl
set_option maxRecDepth 100000 in
theorem f_94_11 : fe 94 11 = some (.iconst 0, 1, 7, none) := fe_of pg_94 rfl
set_option maxRecDepth 100000 in
theorem f_94_12 : fe 94 12 = some (.putfield 37, 3, 7, none) := fe_of pg_94 rfl
set_option maxRecDepth 100000 in
theorem f_94_15 : fe 94 15 = some (.return_, 1, 7, none) := fe_of pg_94 rfl
set_option maxRecDepth 100000 in
theorem f_95_0 : fe 95 0 = some (.aload_n 0, 1, 7, none) := fe_of pg_95 rfl
set_option maxRecDepth 100000 in
theorem f_95_1 : fe 95 1 = some (.aload_n 1, 1, 7, none) := fe_of pg_95 rfl
set_option maxRecDepth 100000 in
theorem f_95_2 : fe 95 2 = some (.getfield 30, 3, 7, none) := fe_of pg_95 rfl
set_option maxRecDepth 100000 in
theorem f_95_5 : fe 95 5 = some (.putfield 30, 3, 7, none) := fe_of pg_95 rfl
set_option maxRecDepth 100000 in
theorem f_95_8 : fe 95 8 = some (.aload_n 0, 1, 7, none) := fe_of pg_95 rfl
set_option maxRecDepth 100000 in
theorem f_95_9 : fe 95 9 = some (.aload_n 1, 1, 7, none) := fe_of pg_95 rfl
set_option maxRecDepth 100000 in
theorem f_95_10 : fe 95 10 = some (.getfield 34, 3, 7, none) := fe_of pg_95 rfl
set_option maxRecDepth 100000 in
theorem f_95_13 : fe 95 13 = some (.putfield 34, 3, 7, none) := fe_of pg_95 rfl
set_option maxRecDepth 100000 in
theorem f_95_16 : fe 95 16 = some (.aload_n 1, 1, 7, none) := fe_of pg_95 rfl
set_option maxRecDepth 100000 in
theorem f_95_17 : fe 95 17 = some (.getfield 9, 3, 7, none) := fe_of pg_95 rfl
set_option maxRecDepth 100000 in
theorem f_95_20 : fe 95 20 = some (.aload_n 0, 1, 7, none) := fe_of pg_95 rfl
set_option maxRecDepth 100000 in
theorem f_95_21 : fe 95 21 = some (.getfield 9, 3, 7, none) := fe_of pg_95 rfl
set_option maxRecDepth 100000 in
theorem f_95_24 : fe 95 24 = some (.invokestatic 41, 3, 7, none) := fe_of pg_95 rfl
set_option maxRecDepth 100000 in
theorem f_95_27 : fe 95 27 = some (.aload_n 1, 1, 7, none) := fe_of pg_95 rfl
set_option maxRecDepth 100000 in
theorem f_95_28 : fe 95 28 = some (.getfield 15, 3, 7, none) := fe_of pg_95 rfl
set_option maxRecDepth 100000 in
theorem f_95_31 : fe 95 31 = some (.aload_n 0, 1, 7, none) := fe_of pg_95 rfl
set_option maxRecDepth 100000 in
theorem f_95_32 : fe 95 32 = some (.getfield 15, 3, 7, none) := fe_of pg_95 rfl
set_option maxRecDepth 100000 in
theorem f_95_35 : fe 95 35 = some (.invokestatic 41, 3, 7, none) := fe_of pg_95 rfl
set_option maxRecDepth 100000 in
theorem f_95_38 : fe 95 38 = some (.aload_n 1, 1, 7, none) := fe_of pg_95 rfl
set_option maxRecDepth 100000 in
theorem f_95_39 : fe 95 39 = some (.getfield 18, 3, 7, none) := fe_of pg_95 rfl
set_option maxRecDepth 100000 in
theorem f_95_42 : fe 95 42 = some (.aload_n 0, 1, 7, none) := fe_of pg_95 rfl
set_option maxRecDepth 100000 in
theorem f_95_43 : fe 95 43 = some (.getfield 18, 3, 7, none) := fe_of pg_95 rfl
set_option maxRecDepth 100000 in
theorem f_95_46 : fe 95 46 = some (.invokestatic 41, 3, 7, none) := fe_of pg_95 rfl
set_option maxRecDepth 100000 in
theorem f_95_49 : fe 95 49 = some (.aload_n 0, 1, 7, none) := fe_of pg_95 rfl
set_option maxRecDepth 100000 in
theorem f_95_50 : fe 95 50 = some (.aload_n 1, 1, 7, none) := fe_of pg_95 rfl
set_option maxRecDepth 100000 in
theorem f_95_51 : fe 95 51 = some (.getfield 37, 3, 7, none) := fe_of pg_95 rfl
set_option maxRecDepth 100000 in
theorem f_95_54 : fe 95 54 = some (.putfield 37, 3, 7, none) := fe_of pg_95 rfl
set_option maxRecDepth 100000 in
theorem f_95_57 : fe 95 57 = some (.aload_n 0, 1, 7, none) := fe_of pg_95 rfl
set_option maxRecDepth 100000 in
theorem f_95_58 : fe 95 58 = some (.aload_n 1, 1, 7, none) := fe_of pg_95 rfl
set_option maxRecDepth 100000 in
theorem f_95_59 : fe 95 59 = some (.getfield 45, 3, 7, none) := fe_of pg_95 rfl
set_option maxRecDepth 100000 in
theorem f_95_62 : fe 95 62 = some (.putfield 45, 3, 7, none) := fe_of pg_95 rfl
set_option maxRecDepth 100000 in
theorem f_95_65 : fe 95 65 = some (.aload_n 0, 1, 7, none) := fe_of pg_95 rfl
set_option maxRecDepth 100000 in
theorem f_95_66 : fe 95 66 = some (.aload_n 1, 1, 7, none) := fe_of pg_95 rfl
set_option maxRecDepth 100000 in
theorem f_95_67 : fe 95 67 = some (.getfield 48, 3, 7, none) := fe_of pg_95 rfl
set_option maxRecDepth 100000 in
theorem f_95_70 : fe 95 70 = some (.putfield 48, 3, 7, none) := fe_of pg_95 rfl
set_option maxRecDepth 100000 in
theorem f_95_73 : fe 95 73 = some (.aload_n 1, 1, 7, none) := fe_of pg_95 rfl
set_option maxRecDepth 100000 in
theorem f_95_74 : fe 95 74 = some (.getfield 21, 3, 7, none) := fe_of pg_95 rfl
set_option maxRecDepth 100000 in
theorem f_95_77 : fe 95 77 = some (.aload_n 0, 1, 7, none) := fe_of pg_95 rfl
set_option maxRecDepth 100000 in
theorem f_95_78 : fe 95 78 = some (.getfield 21, 3, 7, none) := fe_of pg_95 rfl
set_option maxRecDepth 100000 in
theorem f_95_81 : fe 95 81 = some (.invokestatic 41, 3, 7, none) := fe_of pg_95 rfl
set_option maxRecDepth 100000 in
theorem f_95_84 : fe 95 84 = some (.aload_n 1, 1, 7, none) := fe_of pg_95 rfl
set_option maxRecDepth 100000 in
theorem f_95_85 : fe 95 85 = some (.getfield 24, 3, 7, none) := fe_of pg_95 rfl
set_option maxRecDepth 100000 in
theorem f_95_88 : fe 95 88 = some (.aload_n 0, 1, 7, none) := fe_of pg_95 rfl
set_option maxRecDepth 100000 in
theorem f_95_89 : fe 95 89 = some (.getfield 24, 3, 7, none) := fe_of pg_95 rfl
set_option maxRecDepth 100000 in
theorem f_95_92 : fe 95 92 = some (.invokestatic 41, 3, 7, none) := fe_of pg_95 rfl
set_option maxRecDepth 100000 in
theorem f_95_95 : fe 95 95 = some (.return_, 1, 7, none) := fe_of pg_95 rfl
set_option maxRecDepth 100000 in
theorem f_96_0 : fe 96 0 = some (.aload_n 0, 1, 7, none) := fe_of pg_96 rfl
set_option maxRecDepth 100000 in
theorem f_96_1 : fe 96 1 = some (.getfield 34, 3, 7, none) := fe_of pg_96 rfl
set_option maxRecDepth 100000 in
theorem f_96_4 : fe 96 4 = some (.bipush 10, 2, 7, none) := fe_of pg_96 rfl
set_option maxRecDepth 100000 in
theorem f_96_6 : fe 96 6 = some (.if_icmp .ge 43, 3, 7, none) := fe_of pg_96 rfl
set_option maxRecDepth 100000 in
theorem f_96_9 : fe 96 9 = some (.aload_n 0, 1, 7, none) := fe_of pg_96 rfl
set_option maxRecDepth 100000 in
theorem f_96_10 : fe 96 10 = some (.getfield 9, 3, 7, none) := fe_of pg_96 rfl
set_option maxRecDepth 100000 in
theorem f_96_13 : fe 96 13 = some (.aload_n 0, 1, 7, none) := fe_of pg_96 rfl
set_option maxRecDepth 100000 in
theorem f_96_14 : fe 96 14 = some (.getfield 34, 3, 7, none) := fe_of pg_96 rfl
set_option maxRecDepth 100000 in
theorem f_96_17 : fe 96 17 = some (.iload_n 1, 1, 7, none) := fe_of pg_96 rfl
set_option maxRecDepth 100000 in
theorem f_96_18 : fe 96 18 = some (.iastore, 1, 7, none) := fe_of pg_96 rfl
set_option maxRecDepth 100000 in
theorem f_96_19 : fe 96 19 = some (.aload_n 0, 1, 7, none) := fe_of pg_96 rfl
set_option maxRecDepth 100000 in
theorem f_96_20 : fe 96 20 = some (.getfield 15, 3, 7, none) := fe_of pg_96 rfl
set_option maxRecDepth 100000 in
theorem f_96_23 : fe 96 23 = some (.aload_n 0, 1, 7, none) := fe_of pg_96 rfl
set_option maxRecDepth 100000 in
theorem f_96_24 : fe 96 24 = some (.getfield 34, 3, 7, none) := fe_of pg_96 rfl
set_option maxRecDepth 100000 in
theorem f_96_27 : fe 96 27 = some (.iload_n 2, 1, 7, none) := fe_of pg_96 rfl
set_option maxRecDepth 100000 in
theorem f_96_28 : fe 96 28 = some (.iastore, 1, 7, none) := fe_of pg_96 rfl
set_option maxRecDepth 100000 in
theorem f_96_29 : fe 96 29 = some (.aload_n 0, 1, 7, none) := fe_of pg_96 rfl
set_option maxRecDepth 100000 in
theorem f_96_30 : fe 96 30 = some (.getfield 18, 3, 7, none) := fe_of pg_96 rfl
set_option maxRecDepth 100000 in
theorem f_96_33 : fe 96 33 = some (.aload_n 0, 1, 7, none) := fe_of pg_96 rfl
set_option maxRecDepth 100000 in
theorem f_96_34 : fe 96 34 = some (.getfield 34, 3, 7, none) := fe_of pg_96 rfl
set_option maxRecDepth 100000 in
theorem f_96_37 : fe 96 37 = some (.iload_n 3, 1, 7, none) := fe_of pg_96 rfl
set_option maxRecDepth 100000 in
theorem f_96_38 : fe 96 38 = some (.iastore, 1, 7, none) := fe_of pg_96 rfl
set_option maxRecDepth 100000 in
theorem f_96_39 : fe 96 39 = some (.aload_n 0, 1, 7, none) := fe_of pg_96 rfl
set_option maxRecDepth 100000 in
theorem f_96_40 : fe 96 40 = some (.dup, 1, 7, none) := fe_of pg_96 rfl
set_option maxRecDepth 100000 in
theorem f_96_41 : fe 96 41 = some (.getfield 34, 3, 7, none) := fe_of pg_96 rfl
set_option maxRecDepth 100000 in
theorem f_96_44 : fe 96 44 = some (.iconst 1, 1, 7, none) := fe_of pg_96 rfl
set_option maxRecDepth 100000 in
theorem f_96_45 : fe 96 45 = some (.iadd, 1, 7, none) := fe_of pg_96 rfl
set_option maxRecDepth 100000 in
theorem f_96_46 : fe 96 46 = some (.putfield 34, 3, 7, none) := fe_of pg_96 rfl
set_option maxRecDepth 100000 in
theorem f_96_49 : fe 96 49 = some (.return_, 1, 7, none) := fe_of pg_96 rfl
set_option maxRecDepth 100000 in
theorem f_97_0 : fe 97 0 = some (.iconst 0, 1, 7, some .boolean) := fe_of pg_97 rfl
set_option maxRecDepth 100000 in
theorem f_97_1 : fe 97 1 = some (.istore_n 1, 1, 7, some .boolean) := fe_of pg_97 rfl
set_option maxRecDepth 100000 in
theorem f_97_2 : fe 97 2 = some (.iload_n 1, 1, 7, some .boolean) := fe_of pg_97 rfl
set_option maxRecDepth 100000 in
theorem f_97_3 : fe 97 3 = some (.aload_n 0, 1, 7, some .boolean) := fe_of pg_97 rfl
set_option maxRecDepth 100000 in
theorem f_97_4 : fe 97 4 = some (.getfield 34, 3, 7, some .boolean) := fe_of pg_97 rfl
set_option maxRecDepth 100000 in
theorem f_97_7 : fe 97 7 = some (.if_icmp .ge 26, 3, 7, some .boolean) := fe_of pg_97 rfl
set_option maxRecDepth 100000 in
theorem f_97_10 : fe 97 10 = some (.aload_n 0, 1, 7, some .boolean) := fe_of pg_97 rfl
set_option maxRecDepth 100000 in
theorem f_97_11 : fe 97 11 = some (.getfield 15, 3, 7, some .boolean) := fe_of pg_97 rfl
set_option maxRecDepth 100000 in
theorem f_97_14 : fe 97 14 = some (.iload_n 1, 1, 7, some .boolean) := fe_of pg_97 rfl
set_option maxRecDepth 100000 in
theorem f_97_15 : fe 97 15 = some (.iaload, 1, 7, some .boolean) := fe_of pg_97 rfl
set_option maxRecDepth 100000 in
theorem f_97_16 : fe 97 16 = some (.iconst 1, 1, 7, some .boolean) := fe_of pg_97 rfl
set_option maxRecDepth 100000 in
theorem f_97_17 : fe 97 17 = some (.aload_n 0, 1, 7, some .boolean) := fe_of pg_97 rfl
set_option maxRecDepth 100000 in
theorem f_97_18 : fe 97 18 = some (.getfield 30, 3, 7, some .boolean) := fe_of pg_97 rfl
set_option maxRecDepth 100000 in
theorem f_97_21 : fe 97 21 = some (.ishl, 1, 7, some .boolean) := fe_of pg_97 rfl
set_option maxRecDepth 100000 in
theorem f_97_22 : fe 97 22 = some (.if_icmp .lt 5, 3, 7, some .boolean) := fe_of pg_97 rfl
set_option maxRecDepth 100000 in
theorem f_97_25 : fe 97 25 = some (.iconst 1, 1, 7, some .boolean) := fe_of pg_97 rfl
set_option maxRecDepth 100000 in
theorem f_97_26 : fe 97 26 = some (.ireturn, 1, 7, some .boolean) := fe_of pg_97 rfl
set_option maxRecDepth 100000 in
theorem f_97_27 : fe 97 27 = some (.iinc 1 1, 3, 7, some .boolean) := fe_of pg_97 rfl
set_option maxRecDepth 100000 in
theorem f_97_30 : fe 97 30 = some (.goto (-28), 3, 7, some .boolean) := fe_of pg_97 rfl
set_option maxRecDepth 100000 in
theorem f_97_33 : fe 97 33 = some (.iconst 0, 1, 7, some .boolean) := fe_of pg_97 rfl
set_option maxRecDepth 100000 in
theorem f_97_34 : fe 97 34 = some (.ireturn, 1, 7, some .boolean) := fe_of pg_97 rfl
set_option maxRecDepth 100000 in
theorem f_98_0 : fe 98 0 = some (.iload_n 1, 1, 7, some .int) := fe_of pg_98 rfl
set_option maxRecDepth 100000 in
theorem f_98_1 : fe 98 1 = some (.iconst (-1), 1, 7, some .int) := fe_of pg_98 rfl
set_option maxRecDepth 100000 in
theorem f_98_2 : fe 98 2 = some (.if_icmp .ne 29, 3, 7, some .int) := fe_of pg_98 rfl
set_option maxRecDepth 100000 in
theorem f_98_5 : fe 98 5 = some (.iload_n 2, 1, 7, some .int) := fe_of pg_98 rfl
set_option maxRecDepth 100000 in
theorem f_98_6 : fe 98 6 = some (.ifCond .ne 10, 3, 7, some .int) := fe_of pg_98 rfl
set_option maxRecDepth 100000 in
theorem f_98_9 : fe 98 9 = some (.aload_n 0, 1, 7, some .int) := fe_of pg_98 rfl
set_option maxRecDepth 100000 in
theorem f_98_10 : fe 98 10 = some (.getfield 30, 3, 7, some .int) := fe_of pg_98 rfl
set_option maxRecDepth 100000 in
theorem f_98_13 : fe 98 13 = some (.goto 17, 3, 7, some .int) := fe_of pg_98 rfl
set_option maxRecDepth 100000 in
theorem f_98_16 : fe 98 16 = some (.iload_n 2, 1, 7, some .int) := fe_of pg_98 rfl
set_option maxRecDepth 100000 in
theorem f_98_17 : fe 98 17 = some (.iconst 1, 1, 7, some .int) := fe_of pg_98 rfl
set_option maxRecDepth 100000 in
theorem f_98_18 : fe 98 18 = some (.if_icmp .ne 10, 3, 7, some .int) := fe_of pg_98 rfl
set_option maxRecDepth 100000 in
theorem f_98_21 : fe 98 21 = some (.aload_n 0, 1, 7, some .int) := fe_of pg_98 rfl
set_option maxRecDepth 100000 in
theorem f_98_22 : fe 98 22 = some (.getfield 34, 3, 7, some .int) := fe_of pg_98 rfl
set_option maxRecDepth 100000 in
theorem f_98_25 : fe 98 25 = some (.goto 5, 3, 7, some .int) := fe_of pg_98 rfl
set_option maxRecDepth 100000 in
theorem f_98_28 : fe 98 28 = some (.bipush (-2), 2, 7, some .int) := fe_of pg_98 rfl
set_option maxRecDepth 100000 in
theorem f_98_30 : fe 98 30 = some (.ireturn, 1, 7, some .int) := fe_of pg_98 rfl
set_option maxRecDepth 100000 in
theorem f_98_31 : fe 98 31 = some (.iload_n 1, 1, 7, some .int) := fe_of pg_98 rfl
set_option maxRecDepth 100000 in
theorem f_98_32 : fe 98 32 = some (.ifCond .lt 11, 3, 7, some .int) := fe_of pg_98 rfl
set_option maxRecDepth 100000 in
theorem f_98_35 : fe 98 35 = some (.iload_n 1, 1, 7, some .int) := fe_of pg_98 rfl
set_option maxRecDepth 100000 in
theorem f_98_36 : fe 98 36 = some (.aload_n 0, 1, 7, some .int) := fe_of pg_98 rfl
set_option maxRecDepth 100000 in
theorem f_98_37 : fe 98 37 = some (.getfield 34, 3, 7, some .int) := fe_of pg_98 rfl
set_option maxRecDepth 100000 in
theorem f_98_40 : fe 98 40 = some (.if_icmp .lt 6, 3, 7, some .int) := fe_of pg_98 rfl
set_option maxRecDepth 100000 in
theorem f_98_43 : fe 98 43 = some (.bipush (-2), 2, 7, some .int) := fe_of pg_98 rfl
set_option maxRecDepth 100000 in
theorem f_98_45 : fe 98 45 = some (.ireturn, 1, 7, some .int) := fe_of pg_98 rfl
set_option maxRecDepth 100000 in
theorem f_98_46 : fe 98 46 = some (.iload_n 2, 1, 7, some .int) := fe_of pg_98 rfl
set_option maxRecDepth 100000 in
theorem f_98_47 : fe 98 47 = some (.tableswitch 46 0 2 #[25, 32, 39], 25, 7, some .int) := fe_of pg_98 rfl
set_option maxRecDepth 100000 in
theorem f_98_72 : fe 98 72 = some (.aload_n 0, 1, 7, some .int) := fe_of pg_98 rfl
set_option maxRecDepth 100000 in
theorem f_98_73 : fe 98 73 = some (.getfield 9, 3, 7, some .int) := fe_of pg_98 rfl
set_option maxRecDepth 100000 in
theorem f_98_76 : fe 98 76 = some (.iload_n 1, 1, 7, some .int) := fe_of pg_98 rfl
set_option maxRecDepth 100000 in
theorem f_98_77 : fe 98 77 = some (.iaload, 1, 7, some .int) := fe_of pg_98 rfl
set_option maxRecDepth 100000 in
theorem f_98_78 : fe 98 78 = some (.ireturn, 1, 7, some .int) := fe_of pg_98 rfl
set_option maxRecDepth 100000 in
theorem f_98_79 : fe 98 79 = some (.aload_n 0, 1, 7, some .int) := fe_of pg_98 rfl
set_option maxRecDepth 100000 in
theorem f_98_80 : fe 98 80 = some (.getfield 15, 3, 7, some .int) := fe_of pg_98 rfl
set_option maxRecDepth 100000 in
theorem f_98_83 : fe 98 83 = some (.iload_n 1, 1, 7, some .int) := fe_of pg_98 rfl
set_option maxRecDepth 100000 in
theorem f_98_84 : fe 98 84 = some (.iaload, 1, 7, some .int) := fe_of pg_98 rfl
set_option maxRecDepth 100000 in
theorem f_98_85 : fe 98 85 = some (.ireturn, 1, 7, some .int) := fe_of pg_98 rfl
set_option maxRecDepth 100000 in
theorem f_98_86 : fe 98 86 = some (.aload_n 0, 1, 7, some .int) := fe_of pg_98 rfl
set_option maxRecDepth 100000 in
theorem f_98_87 : fe 98 87 = some (.getfield 18, 3, 7, some .int) := fe_of pg_98 rfl
set_option maxRecDepth 100000 in
theorem f_98_90 : fe 98 90 = some (.iload_n 1, 1, 7, some .int) := fe_of pg_98 rfl
set_option maxRecDepth 100000 in
theorem f_98_91 : fe 98 91 = some (.iaload, 1, 7, some .int) := fe_of pg_98 rfl
set_option maxRecDepth 100000 in
theorem f_98_92 : fe 98 92 = some (.ireturn, 1, 7, some .int) := fe_of pg_98 rfl
set_option maxRecDepth 100000 in
theorem f_98_93 : fe 98 93 = some (.bipush (-2), 2, 7, some .int) := fe_of pg_98 rfl
set_option maxRecDepth 100000 in
theorem f_98_95 : fe 98 95 = some (.ireturn, 1, 7, some .int) := fe_of pg_98 rfl
set_option maxRecDepth 100000 in
theorem f_99_0 : fe 99 0 = some (.iload_n 1, 1, 7, some .int) := fe_of pg_99 rfl
set_option maxRecDepth 100000 in
theorem f_99_1 : fe 99 1 = some (.ifCond .ne 8, 3, 7, some .int) := fe_of pg_99 rfl
set_option maxRecDepth 100000 in
theorem f_99_4 : fe 99 4 = some (.aload_n 0, 1, 7, some .int) := fe_of pg_99 rfl
set_option maxRecDepth 100000 in
theorem f_99_5 : fe 99 5 = some (.getfield 45, 3, 7, some .int) := fe_of pg_99 rfl
set_option maxRecDepth 100000 in
theorem f_99_8 : fe 99 8 = some (.ireturn, 1, 7, some .int) := fe_of pg_99 rfl
set_option maxRecDepth 100000 in
theorem f_99_9 : fe 99 9 = some (.iload_n 1, 1, 7, some .int) := fe_of pg_99 rfl
set_option maxRecDepth 100000 in
theorem f_99_10 : fe 99 10 = some (.iconst 1, 1, 7, some .int) := fe_of pg_99 rfl
set_option maxRecDepth 100000 in
theorem f_99_11 : fe 99 11 = some (.if_icmp .ne 8, 3, 7, some .int) := fe_of pg_99 rfl
set_option maxRecDepth 100000 in
theorem f_99_14 : fe 99 14 = some (.aload_n 0, 1, 7, some .int) := fe_of pg_99 rfl
set_option maxRecDepth 100000 in
theorem f_99_15 : fe 99 15 = some (.getfield 48, 3, 7, some .int) := fe_of pg_99 rfl
set_option maxRecDepth 100000 in
theorem f_99_18 : fe 99 18 = some (.ireturn, 1, 7, some .int) := fe_of pg_99 rfl
set_option maxRecDepth 100000 in
theorem f_99_19 : fe 99 19 = some (.iload_n 1, 1, 7, some .int) := fe_of pg_99 rfl
set_option maxRecDepth 100000 in
theorem f_99_20 : fe 99 20 = some (.bipush 10, 2, 7, some .int) := fe_of pg_99 rfl
set_option maxRecDepth 100000 in
theorem f_99_22 : fe 99 22 = some (.if_icmp .lt 24, 3, 7, some .int) := fe_of pg_99 rfl
set_option maxRecDepth 100000 in
theorem f_99_25 : fe 99 25 = some (.iload_n 1, 1, 7, some .int) := fe_of pg_99 rfl
set_option maxRecDepth 100000 in
theorem f_99_26 : fe 99 26 = some (.bipush 10, 2, 7, some .int) := fe_of pg_99 rfl
set_option maxRecDepth 100000 in
theorem f_99_28 : fe 99 28 = some (.aload_n 0, 1, 7, some .int) := fe_of pg_99 rfl
set_option maxRecDepth 100000 in
theorem f_99_29 : fe 99 29 = some (.getfield 30, 3, 7, some .int) := fe_of pg_99 rfl
set_option maxRecDepth 100000 in
theorem f_99_32 : fe 99 32 = some (.iadd, 1, 7, some .int) := fe_of pg_99 rfl
set_option maxRecDepth 100000 in
theorem f_99_33 : fe 99 33 = some (.if_icmp .ge 13, 3, 7, some .int) := fe_of pg_99 rfl
set_option maxRecDepth 100000 in
theorem f_99_36 : fe 99 36 = some (.aload_n 0, 1, 7, some .int) := fe_of pg_99 rfl
set_option maxRecDepth 100000 in
theorem f_99_37 : fe 99 37 = some (.getfield 21, 3, 7, some .int) := fe_of pg_99 rfl
set_option maxRecDepth 100000 in
theorem f_99_40 : fe 99 40 = some (.iload_n 1, 1, 7, some .int) := fe_of pg_99 rfl
set_option maxRecDepth 100000 in
theorem f_99_41 : fe 99 41 = some (.bipush 10, 2, 7, some .int) := fe_of pg_99 rfl
set_option maxRecDepth 100000 in
theorem f_99_43 : fe 99 43 = some (.isub, 1, 7, some .int) := fe_of pg_99 rfl
set_option maxRecDepth 100000 in
theorem f_99_44 : fe 99 44 = some (.iaload, 1, 7, some .int) := fe_of pg_99 rfl
set_option maxRecDepth 100000 in
theorem f_99_45 : fe 99 45 = some (.ireturn, 1, 7, some .int) := fe_of pg_99 rfl
set_option maxRecDepth 100000 in
theorem f_99_46 : fe 99 46 = some (.iload_n 1, 1, 7, some .int) := fe_of pg_99 rfl
set_option maxRecDepth 100000 in
theorem f_99_47 : fe 99 47 = some (.bipush 20, 2, 7, some .int) := fe_of pg_99 rfl
set_option maxRecDepth 100000 in
theorem f_99_49 : fe 99 49 = some (.if_icmp .lt 26, 3, 7, some .int) := fe_of pg_99 rfl
set_option maxRecDepth 100000 in
theorem f_99_52 : fe 99 52 = some (.iload_n 1, 1, 7, some .int) := fe_of pg_99 rfl
set_option maxRecDepth 100000 in
theorem f_99_53 : fe 99 53 = some (.bipush 20, 2, 7, some .int) := fe_of pg_99 rfl
set_option maxRecDepth 100000 in
theorem f_99_55 : fe 99 55 = some (.aload_n 0, 1, 7, some .int) := fe_of pg_99 rfl
set_option maxRecDepth 100000 in
theorem f_99_56 : fe 99 56 = some (.getfield 30, 3, 7, some .int) := fe_of pg_99 rfl
set_option maxRecDepth 100000 in
theorem f_99_59 : fe 99 59 = some (.iadd, 1, 7, some .int) := fe_of pg_99 rfl
set_option maxRecDepth 100000 in
theorem f_99_60 : fe 99 60 = some (.if_icmp .ge 15, 3, 7, some .int) := fe_of pg_99 rfl
set_option maxRecDepth 100000 in
theorem f_99_63 : fe 99 63 = some (.aload_n 0, 1, 7, some .int) := fe_of pg_99 rfl
set_option maxRecDepth 100000 in
theorem f_99_64 : fe 99 64 = some (.getfield 24, 3, 7, some .int) := fe_of pg_99 rfl
set_option maxRecDepth 100000 in
theorem f_99_67 : fe 99 67 = some (.iload_n 1, 1, 7, some .int) := fe_of pg_99 rfl
set_option maxRecDepth 100000 in
theorem f_99_68 : fe 99 68 = some (.bipush 20, 2, 7, some .int) := fe_of pg_99 rfl
set_option maxRecDepth 100000 in
theorem f_99_70 : fe 99 70 = some (.isub, 1, 7, some .int) := fe_of pg_99 rfl
set_option maxRecDepth 100000 in
theorem f_99_71 : fe 99 71 = some (.iaload, 1, 7, some .int) := fe_of pg_99 rfl
set_option maxRecDepth 100000 in
theorem f_99_72 : fe 99 72 = some (.goto 5, 3, 7, some .int) := fe_of pg_99 rfl
set_option maxRecDepth 100000 in
theorem f_99_75 : fe 99 75 = some (.bipush (-2), 2, 7, some .int) := fe_of pg_99 rfl
set_option maxRecDepth 100000 in
theorem f_99_77 : fe 99 77 = some (.ireturn, 1, 7, some .int) := fe_of pg_99 rfl
set_option maxRecDepth 100000 in
theorem f_100_0 : fe 100 0 = some (.aload_n 0, 1, 8, none) := fe_of pg_100 rfl
set_option maxRecDepth 100000 in
theorem f_100_1 : fe 100 1 = some (.invokespecial 3, 3, 8, none) := fe_of pg_100 rfl
set_option maxRecDepth 100000 in
theorem f_100_4 : fe 100 4 = some (.aload_n 0, 1, 8, none) := fe_of pg_100 rfl
set_option maxRecDepth 100000 in
theorem f_100_5 : fe 100 5 = some (.sipush 600, 3, 8, none) := fe_of pg_100 rfl
set_option maxRecDepth 100000 in
theorem f_100_8 : fe 100 8 = some (.newarray .byte, 2, 8, none) := fe_of pg_100 rfl
set_option maxRecDepth 100000 in
theorem f_100_10 : fe 100 10 = some (.putfield 9, 3, 8, none) := fe_of pg_100 rfl
set_option maxRecDepth 100000 in
theorem f_100_13 : fe 100 13 = some (.aload_n 0, 1, 8, none) := fe_of pg_100 rfl
set_option maxRecDepth 100000 in
theorem f_100_14 : fe 100 14 = some (.iconst (-1), 1, 8, none) := fe_of pg_100 rfl
set_option maxRecDepth 100000 in
theorem f_100_15 : fe 100 15 = some (.putfield 15, 3, 8, none) := fe_of pg_100 rfl
set_option maxRecDepth 100000 in
theorem f_100_18 : fe 100 18 = some (.aload_n 0, 1, 8, none) := fe_of pg_100 rfl
set_option maxRecDepth 100000 in
theorem f_100_19 : fe 100 19 = some (.iconst 4, 1, 8, none) := fe_of pg_100 rfl
set_option maxRecDepth 100000 in
theorem f_100_20 : fe 100 20 = some (.newarray .int, 2, 8, none) := fe_of pg_100 rfl
set_option maxRecDepth 100000 in
theorem f_100_22 : fe 100 22 = some (.putfield 19, 3, 8, none) := fe_of pg_100 rfl
set_option maxRecDepth 100000 in
theorem f_100_25 : fe 100 25 = some (.aload_n 0, 1, 8, none) := fe_of pg_100 rfl
set_option maxRecDepth 100000 in
theorem f_100_26 : fe 100 26 = some (.iconst 2, 1, 8, none) := fe_of pg_100 rfl
set_option maxRecDepth 100000 in
theorem f_100_27 : fe 100 27 = some (.anewarray 23, 3, 8, none) := fe_of pg_100 rfl
set_option maxRecDepth 100000 in
theorem f_100_30 : fe 100 30 = some (.putfield 25, 3, 8, none) := fe_of pg_100 rfl
set_option maxRecDepth 100000 in
theorem f_100_33 : fe 100 33 = some (.aload_n 0, 1, 8, none) := fe_of pg_100 rfl
set_option maxRecDepth 100000 in
theorem f_100_34 : fe 100 34 = some (.iconst 2, 1, 8, none) := fe_of pg_100 rfl
set_option maxRecDepth 100000 in
theorem f_100_35 : fe 100 35 = some (.anewarray 29, 3, 8, none) := fe_of pg_100 rfl
set_option maxRecDepth 100000 in
theorem f_100_38 : fe 100 38 = some (.putfield 31, 3, 8, none) := fe_of pg_100 rfl
set_option maxRecDepth 100000 in
theorem f_100_41 : fe 100 41 = some (.aload_n 0, 1, 8, none) := fe_of pg_100 rfl
set_option maxRecDepth 100000 in
theorem f_100_42 : fe 100 42 = some (.iconst 2, 1, 8, none) := fe_of pg_100 rfl
set_option maxRecDepth 100000 in
theorem f_100_43 : fe 100 43 = some (.anewarray 35, 3, 8, none) := fe_of pg_100 rfl
set_option maxRecDepth 100000 in
theorem f_100_46 : fe 100 46 = some (.putfield 37, 3, 8, none) := fe_of pg_100 rfl
set_option maxRecDepth 100000 in
theorem f_100_49 : fe 100 49 = some (.aload_n 0, 1, 8, none) := fe_of pg_100 rfl
set_option maxRecDepth 100000 in
theorem f_100_50 : fe 100 50 = some (.iconst 2, 1, 8, none) := fe_of pg_100 rfl
set_option maxRecDepth 100000 in
theorem f_100_51 : fe 100 51 = some (.anewarray 41, 3, 8, none) := fe_of pg_100 rfl
set_option maxRecDepth 100000 in
theorem f_100_54 : fe 100 54 = some (.putfield 43, 3, 8, none) := fe_of pg_100 rfl
set_option maxRecDepth 100000 in
theorem f_100_57 : fe 100 57 = some (.iconst 0, 1, 8, none) := fe_of pg_100 rfl
set_option maxRecDepth 100000 in
theorem f_100_58 : fe 100 58 = some (.istore_n 1, 1, 8, none) := fe_of pg_100 rfl
set_option maxRecDepth 100000 in
theorem f_100_59 : fe 100 59 = some (.iload_n 1, 1, 8, none) := fe_of pg_100 rfl
set_option maxRecDepth 100000 in
theorem f_100_60 : fe 100 60 = some (.iconst 2, 1, 8, none) := fe_of pg_100 rfl
set_option maxRecDepth 100000 in
theorem f_100_61 : fe 100 61 = some (.if_icmp .ge 61, 3, 8, none) := fe_of pg_100 rfl
set_option maxRecDepth 100000 in
theorem f_100_64 : fe 100 64 = some (.aload_n 0, 1, 8, none) := fe_of pg_100 rfl
set_option maxRecDepth 100000 in
theorem f_100_65 : fe 100 65 = some (.getfield 25, 3, 8, none) := fe_of pg_100 rfl
set_option maxRecDepth 100000 in
theorem f_100_68 : fe 100 68 = some (.iload_n 1, 1, 8, none) := fe_of pg_100 rfl
set_option maxRecDepth 100000 in
theorem f_100_69 : fe 100 69 = some (.new 23, 3, 8, none) := fe_of pg_100 rfl
set_option maxRecDepth 100000 in
theorem f_100_72 : fe 100 72 = some (.dup, 1, 8, none) := fe_of pg_100 rfl
set_option maxRecDepth 100000 in
theorem f_100_73 : fe 100 73 = some (.invokespecial 47, 3, 8, none) := fe_of pg_100 rfl
set_option maxRecDepth 100000 in
theorem f_100_76 : fe 100 76 = some (.aastore, 1, 8, none) := fe_of pg_100 rfl
set_option maxRecDepth 100000 in
theorem f_100_77 : fe 100 77 = some (.aload_n 0, 1, 8, none) := fe_of pg_100 rfl
set_option maxRecDepth 100000 in
theorem f_100_78 : fe 100 78 = some (.getfield 31, 3, 8, none) := fe_of pg_100 rfl
set_option maxRecDepth 100000 in
theorem f_100_81 : fe 100 81 = some (.iload_n 1, 1, 8, none) := fe_of pg_100 rfl
set_option maxRecDepth 100000 in
theorem f_100_82 : fe 100 82 = some (.new 29, 3, 8, none) := fe_of pg_100 rfl
set_option maxRecDepth 100000 in
theorem f_100_85 : fe 100 85 = some (.dup, 1, 8, none) := fe_of pg_100 rfl
set_option maxRecDepth 100000 in
theorem f_100_86 : fe 100 86 = some (.invokespecial 48, 3, 8, none) := fe_of pg_100 rfl
set_option maxRecDepth 100000 in
theorem f_100_89 : fe 100 89 = some (.aastore, 1, 8, none) := fe_of pg_100 rfl
set_option maxRecDepth 100000 in
theorem f_100_90 : fe 100 90 = some (.aload_n 0, 1, 8, none) := fe_of pg_100 rfl
set_option maxRecDepth 100000 in
theorem f_100_91 : fe 100 91 = some (.getfield 37, 3, 8, none) := fe_of pg_100 rfl
set_option maxRecDepth 100000 in
theorem f_100_94 : fe 100 94 = some (.iload_n 1, 1, 8, none) := fe_of pg_100 rfl
set_option maxRecDepth 100000 in
theorem f_100_95 : fe 100 95 = some (.new 35, 3, 8, none) := fe_of pg_100 rfl
set_option maxRecDepth 100000 in
theorem f_100_98 : fe 100 98 = some (.dup, 1, 8, none) := fe_of pg_100 rfl
set_option maxRecDepth 100000 in
theorem f_100_99 : fe 100 99 = some (.invokespecial 49, 3, 8, none) := fe_of pg_100 rfl
set_option maxRecDepth 100000 in
theorem f_100_102 : fe 100 102 = some (.aastore, 1, 8, none) := fe_of pg_100 rfl
set_option maxRecDepth 100000 in
theorem f_100_103 : fe 100 103 = some (.aload_n 0, 1, 8, none) := fe_of pg_100 rfl
set_option maxRecDepth 100000 in
theorem f_100_104 : fe 100 104 = some (.getfield 43, 3, 8, none) := fe_of pg_100 rfl
set_option maxRecDepth 100000 in
theorem f_100_107 : fe 100 107 = some (.iload_n 1, 1, 8, none) := fe_of pg_100 rfl
set_option maxRecDepth 100000 in
theorem f_100_108 : fe 100 108 = some (.new 41, 3, 8, none) := fe_of pg_100 rfl
set_option maxRecDepth 100000 in
theorem f_100_111 : fe 100 111 = some (.dup, 1, 8, none) := fe_of pg_100 rfl
set_option maxRecDepth 100000 in
theorem f_100_112 : fe 100 112 = some (.invokespecial 50, 3, 8, none) := fe_of pg_100 rfl
set_option maxRecDepth 100000 in
theorem f_100_115 : fe 100 115 = some (.aastore, 1, 8, none) := fe_of pg_100 rfl
set_option maxRecDepth 100000 in
theorem f_100_116 : fe 100 116 = some (.iinc 1 1, 3, 8, none) := fe_of pg_100 rfl
set_option maxRecDepth 100000 in
theorem f_100_119 : fe 100 119 = some (.goto (-60), 3, 8, none) := fe_of pg_100 rfl
set_option maxRecDepth 100000 in
theorem f_100_122 : fe 100 122 = some (.return_, 1, 8, none) := fe_of pg_100 rfl
set_option maxRecDepth 100000 in
theorem f_101_0 : fe 101 0 = some (.bipush 24, 2, 8, none) := fe_of pg_101 rfl
set_option maxRecDepth 100000 in
theorem f_101_2 : fe 101 2 = some (.istore_n 2, 1, 8, none) := fe_of pg_101 rfl
set_option maxRecDepth 100000 in
theorem f_101_3 : fe 101 3 = some (.iload_n 2, 1, 8, none) := fe_of pg_101 rfl
set_option maxRecDepth 100000 in
theorem f_101_4 : fe 101 4 = some (.ifCond .lt 42, 3, 8, none) := fe_of pg_101 rfl
set_option maxRecDepth 100000 in
theorem f_101_7 : fe 101 7 = some (.aload_n 0, 1, 8, none) := fe_of pg_101 rfl
set_option maxRecDepth 100000 in
theorem f_101_8 : fe 101 8 = some (.getfield 51, 3, 8, none) := fe_of pg_101 rfl
set_option maxRecDepth 100000 in
theorem f_101_11 : fe 101 11 = some (.sipush 600, 3, 8, none) := fe_of pg_101 rfl
set_option maxRecDepth 100000 in
theorem f_101_14 : fe 101 14 = some (.if_icmp .ge 32, 3, 8, none) := fe_of pg_101 rfl
set_option maxRecDepth 100000 in
theorem f_101_17 : fe 101 17 = some (.aload_n 0, 1, 8, none) := fe_of pg_101 rfl
set_option maxRecDepth 100000 in
theorem f_101_18 : fe 101 18 = some (.getfield 9, 3, 8, none) := fe_of pg_101 rfl
set_option maxRecDepth 100000 in
theorem f_101_21 : fe 101 21 = some (.aload_n 0, 1, 8, none) := fe_of pg_101 rfl
set_option maxRecDepth 100000 in
theorem f_101_22 : fe 101 22 = some (.getfield 51, 3, 8, none) := fe_of pg_101 rfl
set_option maxRecDepth 100000 in
theorem f_101_25 : fe 101 25 = some (.iload_n 1, 1, 8, none) := fe_of pg_101 rfl
set_option maxRecDepth 100000 in
theorem f_101_26 : fe 101 26 = some (.iload_n 2, 1, 8, none) := fe_of pg_101 rfl
set_option maxRecDepth 100000 in
theorem f_101_27 : fe 101 27 = some (.ishr, 1, 8, none) := fe_of pg_101 rfl
set_option maxRecDepth 100000 in
theorem f_101_28 : fe 101 28 = some (.i2b, 1, 8, none) := fe_of pg_101 rfl
set_option maxRecDepth 100000 in
theorem f_101_29 : fe 101 29 = some (.bastore, 1, 8, none) := fe_of pg_101 rfl
set_option maxRecDepth 100000 in
theorem f_101_30 : fe 101 30 = some (.aload_n 0, 1, 8, none) := fe_of pg_101 rfl
set_option maxRecDepth 100000 in
theorem f_101_31 : fe 101 31 = some (.dup, 1, 8, none) := fe_of pg_101 rfl
set_option maxRecDepth 100000 in
theorem f_101_32 : fe 101 32 = some (.getfield 51, 3, 8, none) := fe_of pg_101 rfl
set_option maxRecDepth 100000 in
theorem f_101_35 : fe 101 35 = some (.iconst 1, 1, 8, none) := fe_of pg_101 rfl
set_option maxRecDepth 100000 in
theorem f_101_36 : fe 101 36 = some (.iadd, 1, 8, none) := fe_of pg_101 rfl
set_option maxRecDepth 100000 in
theorem f_101_37 : fe 101 37 = some (.putfield 51, 3, 8, none) := fe_of pg_101 rfl
set_option maxRecDepth 100000 in
theorem f_101_40 : fe 101 40 = some (.iinc 2 (-8), 3, 8, none) := fe_of pg_101 rfl
set_option maxRecDepth 100000 in
theorem f_101_43 : fe 101 43 = some (.goto (-40), 3, 8, none) := fe_of pg_101 rfl
set_option maxRecDepth 100000 in
theorem f_101_46 : fe 101 46 = some (.return_, 1, 8, none) := fe_of pg_101 rfl
set_option maxRecDepth 100000 in
theorem f_102_0 : fe 102 0 = some (.iload_n 1, 1, 8, some .boolean) := fe_of pg_102 rfl
set_option maxRecDepth 100000 in
theorem f_102_1 : fe 102 1 = some (.ifCond .lt 8, 3, 8, some .boolean) := fe_of pg_102 rfl
set_option maxRecDepth 100000 in
theorem f_102_4 : fe 102 4 = some (.iload_n 1, 1, 8, some .boolean) := fe_of pg_102 rfl
set_option maxRecDepth 100000 in
theorem f_102_5 : fe 102 5 = some (.iconst 4, 1, 8, some .boolean) := fe_of pg_102 rfl
set_option maxRecDepth 100000 in
theorem f_102_6 : fe 102 6 = some (.if_icmp .lt 5, 3, 8, some .boolean) := fe_of pg_102 rfl
set_option maxRecDepth 100000 in
theorem f_102_9 : fe 102 9 = some (.iconst 0, 1, 8, some .boolean) := fe_of pg_102 rfl
set_option maxRecDepth 100000 in
theorem f_102_10 : fe 102 10 = some (.ireturn, 1, 8, some .boolean) := fe_of pg_102 rfl
set_option maxRecDepth 100000 in
theorem f_102_11 : fe 102 11 = some (.iload_n 2, 1, 8, some .boolean) := fe_of pg_102 rfl
set_option maxRecDepth 100000 in
theorem f_102_12 : fe 102 12 = some (.iconst (-1), 1, 8, some .boolean) := fe_of pg_102 rfl
set_option maxRecDepth 100000 in
theorem f_102_13 : fe 102 13 = some (.if_icmp .ne 19, 3, 8, some .boolean) := fe_of pg_102 rfl
set_option maxRecDepth 100000 in
theorem f_102_16 : fe 102 16 = some (.aload_n 0, 1, 8, some .boolean) := fe_of pg_102 rfl
set_option maxRecDepth 100000 in
theorem f_102_17 : fe 102 17 = some (.getfield 19, 3, 8, some .boolean) := fe_of pg_102 rfl
set_option maxRecDepth 100000 in
theorem f_102_20 : fe 102 20 = some (.iload_n 1, 1, 8, some .boolean) := fe_of pg_102 rfl
set_option maxRecDepth 100000 in
theorem f_102_21 : fe 102 21 = some (.iaload, 1, 8, some .boolean) := fe_of pg_102 rfl
set_option maxRecDepth 100000 in
theorem f_102_22 : fe 102 22 = some (.iconst 2, 1, 8, some .boolean) := fe_of pg_102 rfl
set_option maxRecDepth 100000 in
theorem f_102_23 : fe 102 23 = some (.if_icmp .ge 7, 3, 8, some .boolean) := fe_of pg_102 rfl
set_option maxRecDepth 100000 in
theorem f_102_26 : fe 102 26 = some (.iconst 1, 1, 8, some .boolean) := fe_of pg_102 rfl
set_option maxRecDepth 100000 in
theorem f_102_27 : fe 102 27 = some (.goto 4, 3, 8, some .boolean) := fe_of pg_102 rfl
set_option maxRecDepth 100000 in
theorem f_102_30 : fe 102 30 = some (.iconst 0, 1, 8, some .boolean) := fe_of pg_102 rfl
set_option maxRecDepth 100000 in
theorem f_102_31 : fe 102 31 = some (.ireturn, 1, 8, some .boolean) := fe_of pg_102 rfl
set_option maxRecDepth 100000 in
theorem f_102_32 : fe 102 32 = some (.iload_n 2, 1, 8, some .boolean) := fe_of pg_102 rfl
set_option maxRecDepth 100000 in
theorem f_102_33 : fe 102 33 = some (.ifCond .lt 17, 3, 8, some .boolean) := fe_of pg_102 rfl
set_option maxRecDepth 100000 in
theorem f_102_36 : fe 102 36 = some (.iload_n 2, 1, 8, some .boolean) := fe_of pg_102 rfl
set_option maxRecDepth 100000 in
theorem f_102_37 : fe 102 37 = some (.aload_n 0, 1, 8, some .boolean) := fe_of pg_102 rfl
set_option maxRecDepth 100000 in
theorem f_102_38 : fe 102 38 = some (.getfield 19, 3, 8, some .boolean) := fe_of pg_102 rfl
set_option maxRecDepth 100000 in
theorem f_102_41 : fe 102 41 = some (.iload_n 1, 1, 8, some .boolean) := fe_of pg_102 rfl
set_option maxRecDepth 100000 in
theorem f_102_42 : fe 102 42 = some (.iaload, 1, 8, some .boolean) := fe_of pg_102 rfl
set_option maxRecDepth 100000 in
theorem f_102_43 : fe 102 43 = some (.if_icmp .ge 7, 3, 8, some .boolean) := fe_of pg_102 rfl
set_option maxRecDepth 100000 in
theorem f_102_46 : fe 102 46 = some (.iconst 1, 1, 8, some .boolean) := fe_of pg_102 rfl
set_option maxRecDepth 100000 in
theorem f_102_47 : fe 102 47 = some (.goto 4, 3, 8, some .boolean) := fe_of pg_102 rfl
set_option maxRecDepth 100000 in
theorem f_102_50 : fe 102 50 = some (.iconst 0, 1, 8, some .boolean) := fe_of pg_102 rfl
set_option maxRecDepth 100000 in
theorem f_102_51 : fe 102 51 = some (.ireturn, 1, 8, some .boolean) := fe_of pg_102 rfl
set_option maxRecDepth 100000 in
theorem f_103_0 : fe 103 0 = some (.iload_n 1, 1, 8, none) := fe_of pg_103 rfl
set_option maxRecDepth 100000 in
theorem f_103_1 : fe 103 1 = some (.ifCond .lt 17, 3, 8, none) := fe_of pg_103 rfl
set_option maxRecDepth 100000 in
theorem f_103_4 : fe 103 4 = some (.iload_n 1, 1, 8, none) := fe_of pg_103 rfl
set_option maxRecDepth 100000 in
theorem f_103_5 : fe 103 5 = some (.iconst 4, 1, 8, none) := fe_of pg_103 rfl
set_option maxRecDepth 100000 in
theorem f_103_6 : fe 103 6 = some (.if_icmp .ge 12, 3, 8, none) := fe_of pg_103 rfl
set_option maxRecDepth 100000 in
theorem f_103_9 : fe 103 9 = some (.iload_n 2, 1, 8, none) := fe_of pg_103 rfl
set_option maxRecDepth 100000 in
theorem f_103_10 : fe 103 10 = some (.ifCond .lt 8, 3, 8, none) := fe_of pg_103 rfl
set_option maxRecDepth 100000 in
theorem f_103_13 : fe 103 13 = some (.iload_n 2, 1, 8, none) := fe_of pg_103 rfl
set_option maxRecDepth 100000 in
theorem f_103_14 : fe 103 14 = some (.iconst 2, 1, 8, none) := fe_of pg_103 rfl
set_option maxRecDepth 100000 in
theorem f_103_15 : fe 103 15 = some (.if_icmp .lt 4, 3, 8, none) := fe_of pg_103 rfl
set_option maxRecDepth 100000 in
theorem f_103_18 : fe 103 18 = some (.return_, 1, 8, none) := fe_of pg_103 rfl
set_option maxRecDepth 100000 in
theorem f_103_19 : fe 103 19 = some (.iload_n 1, 1, 8, none) := fe_of pg_103 rfl
set_option maxRecDepth 100000 in
theorem f_103_20 : fe 103 20 = some (.tableswitch 76 0 2 #[28, 44, 60], 28, 8, none) := fe_of pg_103 rfl
set_option maxRecDepth 100000 in
theorem f_103_48 : fe 103 48 = some (.aload_n 0, 1, 8, none) := fe_of pg_103 rfl
set_option maxRecDepth 100000 in
theorem f_103_49 : fe 103 49 = some (.getfield 25, 3, 8, none) := fe_of pg_103 rfl
set_option maxRecDepth 100000 in
theorem f_103_52 : fe 103 52 = some (.iload_n 2, 1, 8, none) := fe_of pg_103 rfl
set_option maxRecDepth 100000 in
theorem f_103_53 : fe 103 53 = some (.aaload, 1, 8, none) := fe_of pg_103 rfl
set_option maxRecDepth 100000 in
theorem f_103_54 : fe 103 54 = some (.aload_n 3, 1, 8, none) := fe_of pg_103 rfl
set_option maxRecDepth 100000 in
theorem f_103_55 : fe 103 55 = some (.getfield 54, 3, 8, none) := fe_of pg_103 rfl
set_option maxRecDepth 100000 in
theorem f_103_58 : fe 103 58 = some (.invokevirtual 60, 3, 8, none) := fe_of pg_103 rfl
set_option maxRecDepth 100000 in
theorem f_103_61 : fe 103 61 = some (.goto 48, 3, 8, none) := fe_of pg_103 rfl
set_option maxRecDepth 100000 in
theorem f_103_64 : fe 103 64 = some (.aload_n 0, 1, 8, none) := fe_of pg_103 rfl
set_option maxRecDepth 100000 in
theorem f_103_65 : fe 103 65 = some (.getfield 31, 3, 8, none) := fe_of pg_103 rfl
set_option maxRecDepth 100000 in
theorem f_103_68 : fe 103 68 = some (.iload_n 2, 1, 8, none) := fe_of pg_103 rfl
set_option maxRecDepth 100000 in
theorem f_103_69 : fe 103 69 = some (.aaload, 1, 8, none) := fe_of pg_103 rfl
set_option maxRecDepth 100000 in
theorem f_103_70 : fe 103 70 = some (.aload_n 3, 1, 8, none) := fe_of pg_103 rfl
set_option maxRecDepth 100000 in
theorem f_103_71 : fe 103 71 = some (.getfield 64, 3, 8, none) := fe_of pg_103 rfl
set_option maxRecDepth 100000 in
theorem f_103_74 : fe 103 74 = some (.invokevirtual 68, 3, 8, none) := fe_of pg_103 rfl
set_option maxRecDepth 100000 in
theorem f_103_77 : fe 103 77 = some (.goto 32, 3, 8, none) := fe_of pg_103 rfl
set_option maxRecDepth 100000 in
theorem f_103_80 : fe 103 80 = some (.aload_n 0, 1, 8, none) := fe_of pg_103 rfl
set_option maxRecDepth 100000 in
theorem f_103_81 : fe 103 81 = some (.getfield 37, 3, 8, none) := fe_of pg_103 rfl
set_option maxRecDepth 100000 in
theorem f_103_84 : fe 103 84 = some (.iload_n 2, 1, 8, none) := fe_of pg_103 rfl
set_option maxRecDepth 100000 in
theorem f_103_85 : fe 103 85 = some (.aaload, 1, 8, none) := fe_of pg_103 rfl
set_option maxRecDepth 100000 in
theorem f_103_86 : fe 103 86 = some (.aload_n 3, 1, 8, none) := fe_of pg_103 rfl
set_option maxRecDepth 100000 in
theorem f_103_87 : fe 103 87 = some (.getfield 71, 3, 8, none) := fe_of pg_103 rfl
set_option maxRecDepth 100000 in
theorem f_103_90 : fe 103 90 = some (.invokevirtual 75, 3, 8, none) := fe_of pg_103 rfl
set_option maxRecDepth 100000 in
theorem f_103_93 : fe 103 93 = some (.goto 16, 3, 8, none) := fe_of pg_103 rfl
set_option maxRecDepth 100000 in
theorem f_103_96 : fe 103 96 = some (.aload_n 0, 1, 8, none) := fe_of pg_103 rfl
set_option maxRecDepth 100000 in
theorem f_103_97 : fe 103 97 = some (.getfield 43, 3, 8, none) := fe_of pg_103 rfl
set_option maxRecDepth 100000 in
theorem f_103_100 : fe 103 100 = some (.iload_n 2, 1, 8, none) := fe_of pg_103 rfl
set_option maxRecDepth 100000 in
theorem f_103_101 : fe 103 101 = some (.aaload, 1, 8, none) := fe_of pg_103 rfl
set_option maxRecDepth 100000 in
theorem f_103_102 : fe 103 102 = some (.aload_n 3, 1, 8, none) := fe_of pg_103 rfl
set_option maxRecDepth 100000 in
theorem f_103_103 : fe 103 103 = some (.getfield 78, 3, 8, none) := fe_of pg_103 rfl
set_option maxRecDepth 100000 in
theorem f_103_106 : fe 103 106 = some (.invokevirtual 82, 3, 8, none) := fe_of pg_103 rfl
set_option maxRecDepth 100000 in
theorem f_103_109 : fe 103 109 = some (.aload_n 0, 1, 8, none) := fe_of pg_103 rfl
set_option maxRecDepth 100000 in
theorem f_103_110 : fe 103 110 = some (.getfield 19, 3, 8, none) := fe_of pg_103 rfl
set_option maxRecDepth 100000 in
theorem f_103_113 : fe 103 113 = some (.iload_n 1, 1, 8, none) := fe_of pg_103 rfl
set_option maxRecDepth 100000 in
theorem f_103_114 : fe 103 114 = some (.aload_n 0, 1, 8, none) := fe_of pg_103 rfl
set_option maxRecDepth 100000 in
theorem f_103_115 : fe 103 115 = some (.getfield 19, 3, 8, none) := fe_of pg_103 rfl
set_option maxRecDepth 100000 in
theorem f_103_118 : fe 103 118 = some (.iload_n 1, 1, 8, none) := fe_of pg_103 rfl
set_option maxRecDepth 100000 in
theorem f_103_119 : fe 103 119 = some (.iaload, 1, 8, none) := fe_of pg_103 rfl
set_option maxRecDepth 100000 in
theorem f_103_120 : fe 103 120 = some (.iload_n 2, 1, 8, none) := fe_of pg_103 rfl
set_option maxRecDepth 100000 in
theorem f_103_121 : fe 103 121 = some (.iconst 1, 1, 8, none) := fe_of pg_103 rfl
set_option maxRecDepth 100000 in
theorem f_103_122 : fe 103 122 = some (.iadd, 1, 8, none) := fe_of pg_103 rfl
set_option maxRecDepth 100000 in
theorem f_103_123 : fe 103 123 = some (.invokestatic 85, 3, 8, none) := fe_of pg_103 rfl
set_option maxRecDepth 100000 in
theorem f_103_126 : fe 103 126 = some (.iastore, 1, 8, none) := fe_of pg_103 rfl
set_option maxRecDepth 100000 in
theorem f_103_127 : fe 103 127 = some (.return_, 1, 8, none) := fe_of pg_103 rfl
set_option maxRecDepth 100000 in
theorem f_104_0 : fe 104 0 = some (.aload_n 1, 1, 8, none) := fe_of pg_104 rfl
set_option maxRecDepth 100000 in
theorem f_104_1 : fe 104 1 = some (.getfield 9, 3, 8, none) := fe_of pg_104 rfl
set_option maxRecDepth 100000 in
theorem f_104_4 : fe 104 4 = some (.iconst 0, 1, 8, none) := fe_of pg_104 rfl
set_option maxRecDepth 100000 in
theorem f_104_5 : fe 104 5 = some (.aload_n 0, 1, 8, none) := fe_of pg_104 rfl
set_option maxRecDepth 100000 in
theorem f_104_6 : fe 104 6 = some (.getfield 9, 3, 8, none) := fe_of pg_104 rfl
set_option maxRecDepth 100000 in
theorem f_104_9 : fe 104 9 = some (.iconst 0, 1, 8, none) := fe_of pg_104 rfl
set_option maxRecDepth 100000 in
theorem f_104_10 : fe 104 10 = some (.sipush 600, 3, 8, none) := fe_of pg_104 rfl
set_option maxRecDepth 100000 in
theorem f_104_13 : fe 104 13 = some (.invokestatic 91, 3, 8, none) := fe_of pg_104 rfl
set_option maxRecDepth 100000 in
theorem f_104_16 : fe 104 16 = some (.aload_n 0, 1, 8, none) := fe_of pg_104 rfl
set_option maxRecDepth 100000 in
theorem f_104_17 : fe 104 17 = some (.aload_n 1, 1, 8, none) := fe_of pg_104 rfl
set_option maxRecDepth 100000 in
theorem f_104_18 : fe 104 18 = some (.getfield 51, 3, 8, none) := fe_of pg_104 rfl
set_option maxRecDepth 100000 in
theorem f_104_21 : fe 104 21 = some (.putfield 51, 3, 8, none) := fe_of pg_104 rfl
set_option maxRecDepth 100000 in
theorem f_104_24 : fe 104 24 = some (.aload_n 0, 1, 8, none) := fe_of pg_104 rfl
set_option maxRecDepth 100000 in
theorem f_104_25 : fe 104 25 = some (.aload_n 1, 1, 8, none) := fe_of pg_104 rfl
set_option maxRecDepth 100000 in
theorem f_104_26 : fe 104 26 = some (.getfield 97, 3, 8, none) := fe_of pg_104 rfl
set_option maxRecDepth 100000 in
theorem f_104_29 : fe 104 29 = some (.putfield 97, 3, 8, none) := fe_of pg_104 rfl
set_option maxRecDepth 100000 in
theorem f_104_32 : fe 104 32 = some (.aload_n 0, 1, 8, none) := fe_of pg_104 rfl
set_option maxRecDepth 100000 in
theorem f_104_33 : fe 104 33 = some (.aload_n 1, 1, 8, none) := fe_of pg_104 rfl
set_option maxRecDepth 100000 in
theorem f_104_34 : fe 104 34 = some (.getfield 15, 3, 8, none) := fe_of pg_104 rfl
set_option maxRecDepth 100000 in
theorem f_104_37 : fe 104 37 = some (.putfield 15, 3, 8, none) := fe_of pg_104 rfl
set_option maxRecDepth 100000 in
theorem f_104_40 : fe 104 40 = some (.aload_n 1, 1, 8, none) := fe_of pg_104 rfl
set_option maxRecDepth 100000 in
theorem f_104_41 : fe 104 41 = some (.getfield 19, 3, 8, none) := fe_of pg_104 rfl
set_option maxRecDepth 100000 in
theorem f_104_44 : fe 104 44 = some (.aload_n 0, 1, 8, none) := fe_of pg_104 rfl
set_option maxRecDepth 100000 in
theorem f_104_45 : fe 104 45 = some (.getfield 19, 3, 8, none) := fe_of pg_104 rfl
set_option maxRecDepth 100000 in
theorem f_104_48 : fe 104 48 = some (.invokestatic 100, 3, 8, none) := fe_of pg_104 rfl
set_option maxRecDepth 100000 in
theorem f_104_51 : fe 104 51 = some (.iconst 0, 1, 8, none) := fe_of pg_104 rfl
set_option maxRecDepth 100000 in
theorem f_104_52 : fe 104 52 = some (.istore_n 2, 1, 8, none) := fe_of pg_104 rfl
set_option maxRecDepth 100000 in
theorem f_104_53 : fe 104 53 = some (.iload_n 2, 1, 8, none) := fe_of pg_104 rfl
set_option maxRecDepth 100000 in
theorem f_104_54 : fe 104 54 = some (.iconst 2, 1, 8, none) := fe_of pg_104 rfl
set_option maxRecDepth 100000 in
theorem f_104_55 : fe 104 55 = some (.if_icmp .ge 69, 3, 8, none) := fe_of pg_104 rfl
set_option maxRecDepth 100000 in
theorem f_104_58 : fe 104 58 = some (.aload_n 0, 1, 8, none) := fe_of pg_104 rfl
set_option maxRecDepth 100000 in
theorem f_104_59 : fe 104 59 = some (.getfield 25, 3, 8, none) := fe_of pg_104 rfl
set_option maxRecDepth 100000 in
theorem f_104_62 : fe 104 62 = some (.iload_n 2, 1, 8, none) := fe_of pg_104 rfl
set_option maxRecDepth 100000 in
theorem f_104_63 : fe 104 63 = some (.aaload, 1, 8, none) := fe_of pg_104 rfl
set_option maxRecDepth 100000 in
theorem f_104_64 : fe 104 64 = some (.aload_n 1, 1, 8, none) := fe_of pg_104 rfl
set_option maxRecDepth 100000 in
theorem f_104_65 : fe 104 65 = some (.getfield 25, 3, 8, none) := fe_of pg_104 rfl
set_option maxRecDepth 100000 in
theorem f_104_68 : fe 104 68 = some (.iload_n 2, 1, 8, none) := fe_of pg_104 rfl
set_option maxRecDepth 100000 in
theorem f_104_69 : fe 104 69 = some (.aaload, 1, 8, none) := fe_of pg_104 rfl
set_option maxRecDepth 100000 in
theorem f_104_70 : fe 104 70 = some (.invokevirtual 60, 3, 8, none) := fe_of pg_104 rfl
set_option maxRecDepth 100000 in
theorem f_104_73 : fe 104 73 = some (.aload_n 0, 1, 8, none) := fe_of pg_104 rfl
set_option maxRecDepth 100000 in
theorem f_104_74 : fe 104 74 = some (.getfield 31, 3, 8, none) := fe_of pg_104 rfl
set_option maxRecDepth 100000 in
theorem f_104_77 : fe 104 77 = some (.iload_n 2, 1, 8, none) := fe_of pg_104 rfl
set_option maxRecDepth 100000 in
theorem f_104_78 : fe 104 78 = some (.aaload, 1, 8, none) := fe_of pg_104 rfl
set_option maxRecDepth 100000 in
theorem f_104_79 : fe 104 79 = some (.aload_n 1, 1, 8, none) := fe_of pg_104 rfl
set_option maxRecDepth 100000 in
theorem f_104_80 : fe 104 80 = some (.getfield 31, 3, 8, none) := fe_of pg_104 rfl
set_option maxRecDepth 100000 in
theorem f_104_83 : fe 104 83 = some (.iload_n 2, 1, 8, none) := fe_of pg_104 rfl
set_option maxRecDepth 100000 in
theorem f_104_84 : fe 104 84 = some (.aaload, 1, 8, none) := fe_of pg_104 rfl
set_option maxRecDepth 100000 in
theorem f_104_85 : fe 104 85 = some (.invokevirtual 68, 3, 8, none) := fe_of pg_104 rfl
set_option maxRecDepth 100000 in
theorem f_104_88 : fe 104 88 = some (.aload_n 0, 1, 8, none) := fe_of pg_104 rfl
set_option maxRecDepth 100000 in
theorem f_104_89 : fe 104 89 = some (.getfield 37, 3, 8, none) := fe_of pg_104 rfl
set_option maxRecDepth 100000 in
theorem f_104_92 : fe 104 92 = some (.iload_n 2, 1, 8, none) := fe_of pg_104 rfl
set_option maxRecDepth 100000 in
theorem f_104_93 : fe 104 93 = some (.aaload, 1, 8, none) := fe_of pg_104 rfl
set_option maxRecDepth 100000 in
theorem f_104_94 : fe 104 94 = some (.aload_n 1, 1, 8, none) := fe_of pg_104 rfl
set_option maxRecDepth 100000 in
theorem f_104_95 : fe 104 95 = some (.getfield 37, 3, 8, none) := fe_of pg_104 rfl
set_option maxRecDepth 100000 in
theorem f_104_98 : fe 104 98 = some (.iload_n 2, 1, 8, none) := fe_of pg_104 rfl
set_option maxRecDepth 100000 in
theorem f_104_99 : fe 104 99 = some (.aaload, 1, 8, none) := fe_of pg_104 rfl
set_option maxRecDepth 100000 in
theorem f_104_100 : fe 104 100 = some (.invokevirtual 75, 3, 8, none) := fe_of pg_104 rfl
set_option maxRecDepth 100000 in
theorem f_104_103 : fe 104 103 = some (.aload_n 0, 1, 8, none) := fe_of pg_104 rfl
set_option maxRecDepth 100000 in
theorem f_104_104 : fe 104 104 = some (.getfield 43, 3, 8, none) := fe_of pg_104 rfl
set_option maxRecDepth 100000 in
theorem f_104_107 : fe 104 107 = some (.iload_n 2, 1, 8, none) := fe_of pg_104 rfl
set_option maxRecDepth 100000 in
theorem f_104_108 : fe 104 108 = some (.aaload, 1, 8, none) := fe_of pg_104 rfl
set_option maxRecDepth 100000 in
theorem f_104_109 : fe 104 109 = some (.aload_n 1, 1, 8, none) := fe_of pg_104 rfl
set_option maxRecDepth 100000 in
theorem f_104_110 : fe 104 110 = some (.getfield 43, 3, 8, none) := fe_of pg_104 rfl
set_option maxRecDepth 100000 in
theorem f_104_113 : fe 104 113 = some (.iload_n 2, 1, 8, none) := fe_of pg_104 rfl
set_option maxRecDepth 100000 in
theorem f_104_114 : fe 104 114 = some (.aaload, 1, 8, none) := fe_of pg_104 rfl
set_option maxRecDepth 100000 in
theorem f_104_115 : fe 104 115 = some (.invokevirtual 82, 3, 8, none) := fe_of pg_104 rfl
set_option maxRecDepth 100000 in
theorem f_104_118 : fe 104 118 = some (.iinc 2 1, 3, 8, none) := fe_of pg_104 rfl
set_option maxRecDepth 100000 in
theorem f_104_121 : fe 104 121 = some (.goto (-68), 3, 8, none) := fe_of pg_104 rfl
set_option maxRecDepth 100000 in
theorem f_104_124 : fe 104 124 = some (.return_, 1, 8, none) := fe_of pg_104 rfl
set_option maxRecDepth 100000 in
theorem f_105_0 : fe 105 0 = some (.aload_n 0, 1, 9, none) := fe_of pg_105 rfl
set_option maxRecDepth 100000 in
theorem f_105_1 : fe 105 1 = some (.invokespecial 3, 3, 9, none) := fe_of pg_105 rfl
set_option maxRecDepth 100000 in
theorem f_105_4 : fe 105 4 = some (.aload_n 0, 1, 9, none) := fe_of pg_105 rfl
set_option maxRecDepth 100000 in
theorem f_105_5 : fe 105 5 = some (.bipush 8, 2, 9, none) := fe_of pg_105 rfl
set_option maxRecDepth 100000 in
theorem f_105_7 : fe 105 7 = some (.newarray .int, 2, 9, none) := fe_of pg_105 rfl
set_option maxRecDepth 100000 in
theorem f_105_9 : fe 105 9 = some (.putfield 9, 3, 9, none) := fe_of pg_105 rfl
set_option maxRecDepth 100000 in
theorem f_105_12 : fe 105 12 = some (.aload_n 0, 1, 9, none) := fe_of pg_105 rfl
set_option maxRecDepth 100000 in
theorem f_105_13 : fe 105 13 = some (.bipush 8, 2, 9, none) := fe_of pg_105 rfl
set_option maxRecDepth 100000 in
theorem f_105_15 : fe 105 15 = some (.newarray .int, 2, 9, none) := fe_of pg_105 rfl
set_option maxRecDepth 100000 in
theorem f_105_17 : fe 105 17 = some (.putfield 15, 3, 9, none) := fe_of pg_105 rfl
set_option maxRecDepth 100000 in
theorem f_105_20 : fe 105 20 = some (.aload_n 0, 1, 9, none) := fe_of pg_105 rfl
set_option maxRecDepth 100000 in
theorem f_105_21 : fe 105 21 = some (.bipush 6, 2, 9, none) := fe_of pg_105 rfl
set_option maxRecDepth 100000 in
theorem f_105_23 : fe 105 23 = some (.newarray .int, 2, 9, none) := fe_of pg_105 rfl
set_option maxRecDepth 100000 in
theorem f_105_25 : fe 105 25 = some (.putfield 18, 3, 9, none) := fe_of pg_105 rfl
set_option maxRecDepth 100000 in
theorem f_105_28 : fe 105 28 = some (.aload_n 0, 1, 9, none) := fe_of pg_105 rfl
set_option maxRecDepth 100000 in
theorem f_105_29 : fe 105 29 = some (.aload_n 1, 1, 9, none) := fe_of pg_105 rfl
set_option maxRecDepth 100000 in
theorem f_105_30 : fe 105 30 = some (.putfield 21, 3, 9, none) := fe_of pg_105 rfl
set_option maxRecDepth 100000 in
theorem f_105_33 : fe 105 33 = some (.return_, 1, 9, none) := fe_of pg_105 rfl
set_option maxRecDepth 100000 in
theorem f_106_0 : fe 106 0 = some (.aload_n 0, 1, 9, none) := fe_of pg_106 rfl
set_option maxRecDepth 100000 in
theorem f_106_1 : fe 106 1 = some (.aload_n 1, 1, 9, none) := fe_of pg_106 rfl
set_option maxRecDepth 100000 in
theorem f_106_2 : fe 106 2 = some (.putfield 21, 3, 9, none) := fe_of pg_106 rfl
set_option maxRecDepth 100000 in
theorem f_106_5 : fe 106 5 = some (.aload_n 0, 1, 9, none) := fe_of pg_106 rfl
set_option maxRecDepth 100000 in
theorem f_106_6 : fe 106 6 = some (.iconst 0, 1, 9, none) := fe_of pg_106 rfl
set_option maxRecDepth 100000 in
theorem f_106_7 : fe 106 7 = some (.putfield 25, 3, 9, none) := fe_of pg_106 rfl
set_option maxRecDepth 100000 in
theorem f_106_10 : fe 106 10 = some (.aload_n 0, 1, 9, none) := fe_of pg_106 rfl
set_option maxRecDepth 100000 in
theorem f_106_11 : fe 106 11 = some (.iconst 0, 1, 9, none) := fe_of pg_106 rfl
set_option maxRecDepth 100000 in
theorem f_106_12 : fe 106 12 = some (.putfield 29, 3, 9, none) := fe_of pg_106 rfl
set_option maxRecDepth 100000 in
theorem f_106_15 : fe 106 15 = some (.aload_n 0, 1, 9, none) := fe_of pg_106 rfl
set_option maxRecDepth 100000 in
theorem f_106_16 : fe 106 16 = some (.iconst (-1), 1, 9, none) := fe_of pg_106 rfl
set_option maxRecDepth 100000 in
theorem f_106_17 : fe 106 17 = some (.putfield 32, 3, 9, none) := fe_of pg_106 rfl
set_option maxRecDepth 100000 in
theorem f_106_20 : fe 106 20 = some (.aload_n 0, 1, 9, none) := fe_of pg_106 rfl
set_option maxRecDepth 100000 in
theorem f_106_21 : fe 106 21 = some (.iconst 0, 1, 9, none) := fe_of pg_106 rfl
set_option maxRecDepth 100000 in
theorem f_106_22 : fe 106 22 = some (.putfield 35, 3, 9, none) := fe_of pg_106 rfl
set_option maxRecDepth 100000 in
theorem f_106_25 : fe 106 25 = some (.aload_n 1, 1, 9, none) := fe_of pg_106 rfl
set_option maxRecDepth 100000 in
theorem f_106_26 : fe 106 26 = some (.getfield 38, 3, 9, none) := fe_of pg_106 rfl
set_option maxRecDepth 100000 in
theorem f_106_29 : fe 106 29 = some (.aload_n 0, 1, 9, none) := fe_of pg_106 rfl
set_option maxRecDepth 100000 in
theorem f_106_30 : fe 106 30 = some (.getfield 9, 3, 9, none) := fe_of pg_106 rfl
set_option maxRecDepth 100000 in
theorem f_106_33 : fe 106 33 = some (.invokestatic 41, 3, 9, none) := fe_of pg_106 rfl
set_option maxRecDepth 100000 in
theorem f_106_36 : fe 106 36 = some (.aload_n 0, 1, 9, none) := fe_of pg_106 rfl
set_option maxRecDepth 100000 in
theorem f_106_37 : fe 106 37 = some (.getfield 15, 3, 9, none) := fe_of pg_106 rfl
set_option maxRecDepth 100000 in
theorem f_106_40 : fe 106 40 = some (.iconst (-1), 1, 9, none) := fe_of pg_106 rfl
set_option maxRecDepth 100000 in
theorem f_106_41 : fe 106 41 = some (.invokestatic 45, 3, 9, none) := fe_of pg_106 rfl
set_option maxRecDepth 100000 in
theorem f_106_44 : fe 106 44 = some (.aload_n 0, 1, 9, none) := fe_of pg_106 rfl
set_option maxRecDepth 100000 in
theorem f_106_45 : fe 106 45 = some (.getfield 18, 3, 9, none) := fe_of pg_106 rfl
set_option maxRecDepth 100000 in
theorem f_106_48 : fe 106 48 = some (.iconst (-1), 1, 9, none) := fe_of pg_106 rfl
set_option maxRecDepth 100000 in
theorem f_106_49 : fe 106 49 = some (.invokestatic 45, 3, 9, none) := fe_of pg_106 rfl
set_option maxRecDepth 100000 in
theorem f_106_52 : fe 106 52 = some (.return_, 1, 9, none) := fe_of pg_106 rfl
set_option maxRecDepth 100000 in
theorem f_107_0 : fe 107 0 = some (.iload_n 2, 1, 9, some .int) := fe_of pg_107 rfl
set_option maxRecDepth 100000 in
theorem f_107_1 : fe 107 1 = some (.aload_n 1, 1, 9, some .int) := fe_of pg_107 rfl
set_option maxRecDepth 100000 in
theorem f_107_2 : fe 107 2 = some (.getfield 49, 3, 9, some .int) := fe_of pg_107 rfl
set_option maxRecDepth 100000 in
theorem f_107_5 : fe 107 5 = some (.invokestatic 54, 3, 9, some .int) := fe_of pg_107 rfl
set_option maxRecDepth 100000 in
theorem f_107_8 : fe 107 8 = some (.istore_n 3, 1, 9, some .int) := fe_of pg_107 rfl
set_option maxRecDepth 100000 in
theorem f_107_9 : fe 107 9 = some (.iconst 0, 1, 9, some .int) := fe_of pg_107 rfl
set_option maxRecDepth 100000 in
theorem f_107_10 : fe 107 10 = some (.istore 4, 2, 9, some .int) := fe_of pg_107 rfl
set_option maxRecDepth 100000 in
theorem f_107_12 : fe 107 12 = some (.iload 4, 2, 9, some .int) := fe_of pg_107 rfl
set_option maxRecDepth 100000 in
theorem f_107_14 : fe 107 14 = some (.iload_n 3, 1, 9, some .int) := fe_of pg_107 rfl
set_option maxRecDepth 100000 in
theorem f_107_15 : fe 107 15 = some (.if_icmp .ge 40, 3, 9, some .int) := fe_of pg_107 rfl
set_option maxRecDepth 100000 in
theorem f_107_18 : fe 107 18 = some (.aload_n 0, 1, 9, some .int) := fe_of pg_107 rfl
set_option maxRecDepth 100000 in
theorem f_107_19 : fe 107 19 = some (.aload_n 1, 1, 9, some .int) := fe_of pg_107 rfl
set_option maxRecDepth 100000 in
theorem f_107_20 : fe 107 20 = some (.getfield 60, 3, 9, some .int) := fe_of pg_107 rfl
set_option maxRecDepth 100000 in
theorem f_107_23 : fe 107 23 = some (.iload 4, 2, 9, some .int) := fe_of pg_107 rfl
set_option maxRecDepth 100000 in
theorem f_107_25 : fe 107 25 = some (.iaload, 1, 9, some .int) := fe_of pg_107 rfl
set_option maxRecDepth 100000 in
theorem f_107_26 : fe 107 26 = some (.aload_n 1, 1, 9, some .int) := fe_of pg_107 rfl
set_option maxRecDepth 100000 in
theorem f_107_27 : fe 107 27 = some (.getfield 63, 3, 9, some .int) := fe_of pg_107 rfl
set_option maxRecDepth 100000 in
theorem f_107_30 : fe 107 30 = some (.iload 4, 2, 9, some .int) := fe_of pg_107 rfl
set_option maxRecDepth 100000 in
theorem f_107_32 : fe 107 32 = some (.iaload, 1, 9, some .int) := fe_of pg_107 rfl
set_option maxRecDepth 100000 in
theorem f_107_33 : fe 107 33 = some (.aload_n 1, 1, 9, some .int) := fe_of pg_107 rfl
set_option maxRecDepth 100000 in
theorem f_107_34 : fe 107 34 = some (.getfield 66, 3, 9, some .int) := fe_of pg_107 rfl
set_option maxRecDepth 100000 in
theorem f_107_37 : fe 107 37 = some (.iload 4, 2, 9, some .int) := fe_of pg_107 rfl
set_option maxRecDepth 100000 in
theorem f_107_39 : fe 107 39 = some (.iaload, 1, 9, some .int) := fe_of pg_107 rfl
set_option maxRecDepth 100000 in
theorem f_107_40 : fe 107 40 = some (.invokevirtual 69, 3, 9, some .int) := fe_of pg_107 rfl
set_option maxRecDepth 100000 in
theorem f_107_43 : fe 107 43 = some (.ifCond .ne 6, 3, 9, some .int) := fe_of pg_107 rfl
set_option maxRecDepth 100000 in
theorem f_107_46 : fe 107 46 = some (.iload 4, 2, 9, some .int) := fe_of pg_107 rfl
set_option maxRecDepth 100000 in
theorem f_107_48 : fe 107 48 = some (.ireturn, 1, 9, some .int) := fe_of pg_107 rfl
set_option maxRecDepth 100000 in
theorem f_107_49 : fe 107 49 = some (.iinc 4 1, 3, 9, some .int) := fe_of pg_107 rfl
set_option maxRecDepth 100000 in
theorem f_107_52 : fe 107 52 = some (.goto (-40), 3, 9, some .int) := fe_of pg_107 rfl
set_option maxRecDepth 100000 in
theorem f_107_55 : fe 107 55 = some (.iload_n 3, 1, 9, some .int) := fe_of pg_107 rfl
set_option maxRecDepth 100000 in
theorem f_107_56 : fe 107 56 = some (.ireturn, 1, 9, some .int) := fe_of pg_107 rfl
set_option maxRecDepth 100000 in
theorem f_108_0 : fe 108 0 = some (.iload_n 1, 1, 9, some .boolean) := fe_of pg_108 rfl
set_option maxRecDepth 100000 in
theorem f_108_1 : fe 108 1 = some (.tableswitch 98 0 7 #[47, 54, 61, 67, 74, 82, 87, 93], 47, 9, some .boolean) := fe_of pg_108 rfl
set_option maxRecDepth 100000 in
theorem f_108_48 : fe 108 48 = some (.aload_n 0, 1, 9, some .boolean) := fe_of pg_108 rfl
set_option maxRecDepth 100000 in
theorem f_108_49 : fe 108 49 = some (.iload_n 2, 1, 9, some .boolean) := fe_of pg_108 rfl
set_option maxRecDepth 100000 in
theorem f_108_50 : fe 108 50 = some (.iload_n 3, 1, 9, some .boolean) := fe_of pg_108 rfl
set_option maxRecDepth 100000 in
theorem f_108_51 : fe 108 51 = some (.invokevirtual 73, 3, 9, some .boolean) := fe_of pg_108 rfl
set_option maxRecDepth 100000 in
theorem f_108_54 : fe 108 54 = some (.ireturn, 1, 9, some .boolean) := fe_of pg_108 rfl
set_option maxRecDepth 100000 in
theorem f_108_55 : fe 108 55 = some (.aload_n 0, 1, 9, some .boolean) := fe_of pg_108 rfl
set_option maxRecDepth 100000 in
theorem f_108_56 : fe 108 56 = some (.iload_n 2, 1, 9, some .boolean) := fe_of pg_108 rfl
set_option maxRecDepth 100000 in
theorem f_108_57 : fe 108 57 = some (.iload_n 3, 1, 9, some .boolean) := fe_of pg_108 rfl
set_option maxRecDepth 100000 in
theorem f_108_58 : fe 108 58 = some (.invokevirtual 77, 3, 9, some .boolean) := fe_of pg_108 rfl
set_option maxRecDepth 100000 in
theorem f_108_61 : fe 108 61 = some (.ireturn, 1, 9, some .boolean) := fe_of pg_108 rfl
set_option maxRecDepth 100000 in
theorem f_108_62 : fe 108 62 = some (.aload_n 0, 1, 9, some .boolean) := fe_of pg_108 rfl
set_option maxRecDepth 100000 in
theorem f_108_63 : fe 108 63 = some (.iload_n 2, 1, 9, some .boolean) := fe_of pg_108 rfl
set_option maxRecDepth 100000 in
theorem f_108_64 : fe 108 64 = some (.invokevirtual 80, 3, 9, some .boolean) := fe_of pg_108 rfl
set_option maxRecDepth 100000 in
theorem f_108_67 : fe 108 67 = some (.ireturn, 1, 9, some .boolean) := fe_of pg_108 rfl
set_option maxRecDepth 100000 in
theorem f_108_68 : fe 108 68 = some (.aload_n 0, 1, 9, some .boolean) := fe_of pg_108 rfl
set_option maxRecDepth 100000 in
theorem f_108_69 : fe 108 69 = some (.iload_n 2, 1, 9, some .boolean) := fe_of pg_108 rfl
set_option maxRecDepth 100000 in
theorem f_108_70 : fe 108 70 = some (.invokevirtual 84, 3, 9, some .boolean) := fe_of pg_108 rfl
set_option maxRecDepth 100000 in
theorem f_108_73 : fe 108 73 = some (.iconst 1, 1, 9, some .boolean) := fe_of pg_108 rfl
set_option maxRecDepth 100000 in
theorem f_108_74 : fe 108 74 = some (.ireturn, 1, 9, some .boolean) := fe_of pg_108 rfl
set_option maxRecDepth 100000 in
theorem f_108_75 : fe 108 75 = some (.aload_n 0, 1, 9, some .boolean) := fe_of pg_108 rfl
set_option maxRecDepth 100000 in
theorem f_108_76 : fe 108 76 = some (.iload_n 2, 1, 9, some .boolean) := fe_of pg_108 rfl
set_option maxRecDepth 100000 in
theorem f_108_77 : fe 108 77 = some (.ineg, 1, 9, some .boolean) := fe_of pg_108 rfl
set_option maxRecDepth 100000 in
theorem f_108_78 : fe 108 78 = some (.invokevirtual 84, 3, 9, some .boolean) := fe_of pg_108 rfl
set_option maxRecDepth 100000 in
theorem f_108_81 : fe 108 81 = some (.iconst 1, 1, 9, some .boolean) := fe_of pg_108 rfl
set_option maxRecDepth 100000 in
theorem f_108_82 : fe 108 82 = some (.ireturn, 1, 9, some .boolean) := fe_of pg_108 rfl
set_option maxRecDepth 100000 in
theorem f_108_83 : fe 108 83 = some (.aload_n 0, 1, 9, some .boolean) := fe_of pg_108 rfl
set_option maxRecDepth 100000 in
theorem f_108_84 : fe 108 84 = some (.invokevirtual 88, 3, 9, some .boolean) := fe_of pg_108 rfl
set_option maxRecDepth 100000 in
theorem f_108_87 : fe 108 87 = some (.ireturn, 1, 9, some .boolean) := fe_of pg_108 rfl
set_option maxRecDepth 100000 in
theorem f_108_88 : fe 108 88 = some (.aload_n 0, 1, 9, some .boolean) := fe_of pg_108 rfl
set_option maxRecDepth 100000 in
theorem f_108_89 : fe 108 89 = some (.invokevirtual 92, 3, 9, some .boolean) := fe_of pg_108 rfl
set_option maxRecDepth 100000 in
theorem f_108_92 : fe 108 92 = some (.iconst 1, 1, 9, some .boolean) := fe_of pg_108 rfl
set_option maxRecDepth 100000 in
theorem f_108_93 : fe 108 93 = some (.ireturn, 1, 9, some .boolean) := fe_of pg_108 rfl
set_option maxRecDepth 100000 in
theorem f_108_94 : fe 108 94 = some (.aload_n 0, 1, 9, some .boolean) := fe_of pg_108 rfl
set_option maxRecDepth 100000 in
theorem f_108_95 : fe 108 95 = some (.invokevirtual 95, 3, 9, some .boolean) := fe_of pg_108 rfl
set_option maxRecDepth 100000 in
theorem f_108_98 : fe 108 98 = some (.ireturn, 1, 9, some .boolean) := fe_of pg_108 rfl
set_option maxRecDepth 100000 in
theorem f_108_99 : fe 108 99 = some (.iconst 0, 1, 9, some .boolean) := fe_of pg_108 rfl
set_option maxRecDepth 100000 in
theorem f_108_100 : fe 108 100 = some (.ireturn, 1, 9, some .boolean) := fe_of pg_108 rfl
set_option maxRecDepth 100000 in
theorem f_109_0 : fe 109 0 = some (.iload_n 1, 1, 9, some .boolean) := fe_of pg_109 rfl
set_option maxRecDepth 100000 in
theorem f_109_1 : fe 109 1 = some (.ifCond .lt 18, 3, 9, some .boolean) := fe_of pg_109 rfl
set_option maxRecDepth 100000 in
theorem f_109_4 : fe 109 4 = some (.iload_n 1, 1, 9, some .boolean) := fe_of pg_109 rfl
set_option maxRecDepth 100000 in
theorem f_109_5 : fe 109 5 = some (.aload_n 0, 1, 9, some .boolean) := fe_of pg_109 rfl
set_option maxRecDepth 100000 in
theorem f_109_6 : fe 109 6 = some (.getfield 21, 3, 9, some .boolean) := fe_of pg_109 rfl
set_option maxRecDepth 100000 in
theorem f_109_9 : fe 109 9 = some (.getfield 98, 3, 9, some .boolean) := fe_of pg_109 rfl
set_option maxRecDepth 100000 in
theorem f_109_12 : fe 109 12 = some (.if_icmp .ge 7, 3, 9, some .boolean) := fe_of pg_109 rfl
set_option maxRecDepth 100000 in
theorem f_109_15 : fe 109 15 = some (.iconst 1, 1, 9, some .boolean) := fe_of pg_109 rfl
set_option maxRecDepth 100000 in
theorem f_109_16 : fe 109 16 = some (.goto 4, 3, 9, some .boolean) := fe_of pg_109 rfl
set_option maxRecDepth 100000 in
theorem f_109_19 : fe 109 19 = some (.iconst 0, 1, 9, some .boolean) := fe_of pg_109 rfl
set_option maxRecDepth 100000 in
theorem f_109_20 : fe 109 20 = some (.ireturn, 1, 9, some .boolean) := fe_of pg_109 rfl
set_option maxRecDepth 100000 in
theorem f_110_0 : fe 110 0 = some (.aload_n 0, 1, 9, some .boolean) := fe_of pg_110 rfl
set_option maxRecDepth 100000 in
theorem f_110_1 : fe 110 1 = some (.iload_n 1, 1, 9, some .boolean) := fe_of pg_110 rfl
set_option maxRecDepth 100000 in
theorem f_110_2 : fe 110 2 = some (.invokevirtual 101, 3, 9, some .boolean) := fe_of pg_110 rfl
set_option maxRecDepth 100000 in
theorem f_110_5 : fe 110 5 = some (.ifCond .eq 17, 3, 9, some .boolean) := fe_of pg_110 rfl
set_option maxRecDepth 100000 in
theorem f_110_8 : fe 110 8 = some (.aload_n 0, 1, 9, some .boolean) := fe_of pg_110 rfl
set_option maxRecDepth 100000 in
theorem f_110_9 : fe 110 9 = some (.getfield 15, 3, 9, some .boolean) := fe_of pg_110 rfl
set_option maxRecDepth 100000 in
theorem f_110_12 : fe 110 12 = some (.iload_n 1, 1, 9, some .boolean) := fe_of pg_110 rfl
set_option maxRecDepth 100000 in
theorem f_110_13 : fe 110 13 = some (.iaload, 1, 9, some .boolean) := fe_of pg_110 rfl
set_option maxRecDepth 100000 in
theorem f_110_14 : fe 110 14 = some (.iconst (-1), 1, 9, some .boolean) := fe_of pg_110 rfl
set_option maxRecDepth 100000 in
theorem f_110_15 : fe 110 15 = some (.if_icmp .eq 7, 3, 9, some .boolean) := fe_of pg_110 rfl
set_option maxRecDepth 100000 in
theorem f_110_18 : fe 110 18 = some (.iconst 1, 1, 9, some .boolean) := fe_of pg_110 rfl
set_option maxRecDepth 100000 in
theorem f_110_19 : fe 110 19 = some (.goto 4, 3, 9, some .boolean) := fe_of pg_110 rfl
set_option maxRecDepth 100000 in
theorem f_110_22 : fe 110 22 = some (.iconst 0, 1, 9, some .boolean) := fe_of pg_110 rfl
set_option maxRecDepth 100000 in
theorem f_110_23 : fe 110 23 = some (.ireturn, 1, 9, some .boolean) := fe_of pg_110 rfl
set_option maxRecDepth 100000 in
theorem f_111_0 : fe 111 0 = some (.iload_n 1, 1, 9, some .boolean) := fe_of pg_111 rfl
set_option maxRecDepth 100000 in
theorem f_111_1 : fe 111 1 = some (.ifCond .lt 28, 3, 9, some .boolean) := fe_of pg_111 rfl
set_option maxRecDepth 100000 in
theorem f_111_4 : fe 111 4 = some (.iload_n 1, 1, 9, some .boolean) := fe_of pg_111 rfl
set_option maxRecDepth 100000 in
theorem f_111_5 : fe 111 5 = some (.aload_n 0, 1, 9, some .boolean) := fe_of pg_111 rfl
set_option maxRecDepth 100000 in
theorem f_111_6 : fe 111 6 = some (.getfield 21, 3, 9, some .boolean) := fe_of pg_111 rfl
set_option maxRecDepth 100000 in
theorem f_111_9 : fe 111 9 = some (.getfield 104, 3, 9, some .boolean) := fe_of pg_111 rfl
set_option maxRecDepth 100000 in
theorem f_111_12 : fe 111 12 = some (.if_icmp .ge 17, 3, 9, some .boolean) := fe_of pg_111 rfl
set_option maxRecDepth 100000 in
theorem f_111_15 : fe 111 15 = some (.aload_n 0, 1, 9, some .boolean) := fe_of pg_111 rfl
set_option maxRecDepth 100000 in
theorem f_111_16 : fe 111 16 = some (.getfield 18, 3, 9, some .boolean) := fe_of pg_111 rfl
set_option maxRecDepth 100000 in
theorem f_111_19 : fe 111 19 = some (.iload_n 1, 1, 9, some .boolean) := fe_of pg_111 rfl
set_option maxRecDepth 100000 in
theorem f_111_20 : fe 111 20 = some (.iaload, 1, 9, some .boolean) := fe_of pg_111 rfl
set_option maxRecDepth 100000 in
theorem f_111_21 : fe 111 21 = some (.iconst (-1), 1, 9, some .boolean) := fe_of pg_111 rfl
set_option maxRecDepth 100000 in
theorem f_111_22 : fe 111 22 = some (.if_icmp .ne 7, 3, 9, some .boolean) := fe_of pg_111 rfl
set_option maxRecDepth 100000 in
theorem f_111_25 : fe 111 25 = some (.iconst 1, 1, 9, some .boolean) := fe_of pg_111 rfl
set_option maxRecDepth 100000 in
theorem f_111_26 : fe 111 26 = some (.goto 4, 3, 9, some .boolean) := fe_of pg_111 rfl
set_option maxRecDepth 100000 in
theorem f_111_29 : fe 111 29 = some (.iconst 0, 1, 9, some .boolean) := fe_of pg_111 rfl
set_option maxRecDepth 100000 in
theorem f_111_30 : fe 111 30 = some (.ireturn, 1, 9, some .boolean) := fe_of pg_111 rfl
set_option maxRecDepth 100000 in
theorem f_112_0 : fe 112 0 = some (.aload_n 0, 1, 9, some .boolean) := fe_of pg_112 rfl
set_option maxRecDepth 100000 in
theorem f_112_1 : fe 112 1 = some (.iload_n 1, 1, 9, some .boolean) := fe_of pg_112 rfl
set_option maxRecDepth 100000 in
theorem f_112_2 : fe 112 2 = some (.invokevirtual 101, 3, 9, some .boolean) := fe_of pg_112 rfl
set_option maxRecDepth 100000 in
theorem f_112_5 : fe 112 5 = some (.ifCond .eq 21, 3, 9, some .boolean) := fe_of pg_112 rfl
set_option maxRecDepth 100000 in
theorem f_112_8 : fe 112 8 = some (.aload_n 0, 1, 9, some .boolean) := fe_of pg_112 rfl
set_option maxRecDepth 100000 in
theorem f_112_9 : fe 112 9 = some (.getfield 15, 3, 9, some .boolean) := fe_of pg_112 rfl
set_option maxRecDepth 100000 in
theorem f_112_12 : fe 112 12 = some (.iload_n 1, 1, 9, some .boolean) := fe_of pg_112 rfl
set_option maxRecDepth 100000 in
theorem f_112_13 : fe 112 13 = some (.iaload, 1, 9, some .boolean) := fe_of pg_112 rfl
set_option maxRecDepth 100000 in
theorem f_112_14 : fe 112 14 = some (.iconst (-1), 1, 9, some .boolean) := fe_of pg_112 rfl
set_option maxRecDepth 100000 in
theorem f_112_15 : fe 112 15 = some (.if_icmp .ne 11, 3, 9, some .boolean) := fe_of pg_112 rfl
set_option maxRecDepth 100000 in
theorem f_112_18 : fe 112 18 = some (.aload_n 0, 1, 9, some .boolean) := fe_of pg_112 rfl
set_option maxRecDepth 100000 in
theorem f_112_19 : fe 112 19 = some (.iload_n 2, 1, 9, some .boolean) := fe_of pg_112 rfl
set_option maxRecDepth 100000 in
theorem f_112_20 : fe 112 20 = some (.invokevirtual 107, 3, 9, some .boolean) := fe_of pg_112 rfl
set_option maxRecDepth 100000 in
theorem f_112_23 : fe 112 23 = some (.ifCond .ne 5, 3, 9, some .boolean) := fe_of pg_112 rfl
set_option maxRecDepth 100000 in
theorem f_112_26 : fe 112 26 = some (.iconst 0, 1, 9, some .boolean) := fe_of pg_112 rfl
set_option maxRecDepth 100000 in
theorem f_112_27 : fe 112 27 = some (.ireturn, 1, 9, some .boolean) := fe_of pg_112 rfl
set_option maxRecDepth 100000 in
theorem f_112_28 : fe 112 28 = some (.aload_n 0, 1, 9, some .boolean) := fe_of pg_112 rfl
set_option maxRecDepth 100000 in
theorem f_112_29 : fe 112 29 = some (.getfield 15, 3, 9, some .boolean) := fe_of pg_112 rfl
set_option maxRecDepth 100000 in
theorem f_112_32 : fe 112 32 = some (.iload_n 1, 1, 9, some .boolean) := fe_of pg_112 rfl
set_option maxRecDepth 100000 in
theorem f_112_33 : fe 112 33 = some (.iload_n 2, 1, 9, some .boolean) := fe_of pg_112 rfl
set_option maxRecDepth 100000 in
theorem f_112_34 : fe 112 34 = some (.iastore, 1, 9, some .boolean) := fe_of pg_112 rfl
set_option maxRecDepth 100000 in
theorem f_112_35 : fe 112 35 = some (.aload_n 0, 1, 9, some .boolean) := fe_of pg_112 rfl
set_option maxRecDepth 100000 in
theorem f_112_36 : fe 112 36 = some (.getfield 18, 3, 9, some .boolean) := fe_of pg_112 rfl
set_option maxRecDepth 100000 in
theorem f_112_39 : fe 112 39 = some (.iload_n 2, 1, 9, some .boolean) := fe_of pg_112 rfl
set_option maxRecDepth 100000 in
theorem f_112_40 : fe 112 40 = some (.iload_n 1, 1, 9, some .boolean) := fe_of pg_112 rfl
set_option maxRecDepth 100000 in
theorem f_112_41 : fe 112 41 = some (.iastore, 1, 9, some .boolean) := fe_of pg_112 rfl
set_option maxRecDepth 100000 in
theorem f_112_42 : fe 112 42 = some (.iconst 1, 1, 9, some .boolean) := fe_of pg_112 rfl
set_option maxRecDepth 100000 in
theorem f_112_43 : fe 112 43 = some (.ireturn, 1, 9, some .boolean) := fe_of pg_112 rfl
set_option maxRecDepth 100000 in
theorem f_113_0 : fe 113 0 = some (.aload_n 0, 1, 9, some .boolean) := fe_of pg_113 rfl
set_option maxRecDepth 100000 in
theorem f_113_1 : fe 113 1 = some (.iload_n 1, 1, 9, some .boolean) := fe_of pg_113 rfl
set_option maxRecDepth 100000 in
theorem f_113_2 : fe 113 2 = some (.invokevirtual 110, 3, 9, some .boolean) := fe_of pg_113 rfl
set_option maxRecDepth 100000 in
theorem f_113_5 : fe 113 5 = some (.ifCond .eq 32, 3, 9, some .boolean) := fe_of pg_113 rfl
set_option maxRecDepth 100000 in
theorem f_113_8 : fe 113 8 = some (.aload_n 0, 1, 9, some .boolean) := fe_of pg_113 rfl
set_option maxRecDepth 100000 in
theorem f_113_9 : fe 113 9 = some (.iload_n 2, 1, 9, some .boolean) := fe_of pg_113 rfl
set_option maxRecDepth 100000 in
theorem f_113_10 : fe 113 10 = some (.invokevirtual 107, 3, 9, some .boolean) := fe_of pg_113 rfl
set_option maxRecDepth 100000 in
theorem f_113_13 : fe 113 13 = some (.ifCond .eq 24, 3, 9, some .boolean) := fe_of pg_113 rfl
set_option maxRecDepth 100000 in
theorem f_113_16 : fe 113 16 = some (.aload_n 0, 1, 9, some .boolean) := fe_of pg_113 rfl
set_option maxRecDepth 100000 in
theorem f_113_17 : fe 113 17 = some (.iload_n 1, 1, 9, some .boolean) := fe_of pg_113 rfl
set_option maxRecDepth 100000 in
theorem f_113_18 : fe 113 18 = some (.invokevirtual 80, 3, 9, some .boolean) := fe_of pg_113 rfl
set_option maxRecDepth 100000 in
theorem f_113_21 : fe 113 21 = some (.ifCond .eq 16, 3, 9, some .boolean) := fe_of pg_113 rfl
set_option maxRecDepth 100000 in
theorem f_113_24 : fe 113 24 = some (.aload_n 0, 1, 9, some .boolean) := fe_of pg_113 rfl
set_option maxRecDepth 100000 in
theorem f_113_25 : fe 113 25 = some (.iload_n 1, 1, 9, some .boolean) := fe_of pg_113 rfl
set_option maxRecDepth 100000 in
theorem f_113_26 : fe 113 26 = some (.iload_n 2, 1, 9, some .boolean) := fe_of pg_113 rfl
set_option maxRecDepth 100000 in
theorem f_113_27 : fe 113 27 = some (.invokevirtual 73, 3, 9, some .boolean) := fe_of pg_113 rfl
set_option maxRecDepth 100000 in
theorem f_113_30 : fe 113 30 = some (.ifCond .eq 7, 3, 9, some .boolean) := fe_of pg_113 rfl
set_option maxRecDepth 100000 in
theorem f_113_33 : fe 113 33 = some (.iconst 1, 1, 9, some .boolean) := fe_of pg_113 rfl
set_option maxRecDepth 100000 in
theorem f_113_34 : fe 113 34 = some (.goto 4, 3, 9, some .boolean) := fe_of pg_113 rfl
set_option maxRecDepth 100000 in
theorem f_113_37 : fe 113 37 = some (.iconst 0, 1, 9, some .boolean) := fe_of pg_113 rfl
set_option maxRecDepth 100000 in
theorem f_113_38 : fe 113 38 = some (.ireturn, 1, 9, some .boolean) := fe_of pg_113 rfl
set_option maxRecDepth 100000 in
theorem f_114_0 : fe 114 0 = some (.aload_n 0, 1, 9, some .boolean) := fe_of pg_114 rfl
set_option maxRecDepth 100000 in
theorem f_114_1 : fe 114 1 = some (.iload_n 1, 1, 9, some .boolean) := fe_of pg_114 rfl
set_option maxRecDepth 100000 in
theorem f_114_2 : fe 114 2 = some (.invokevirtual 110, 3, 9, some .boolean) := fe_of pg_114 rfl
set_option maxRecDepth 100000 in
theorem f_114_5 : fe 114 5 = some (.ifCond .ne 5, 3, 9, some .boolean) := fe_of pg_114 rfl
set_option maxRecDepth 100000 in
theorem f_114_8 : fe 114 8 = some (.iconst 0, 1, 9, some .boolean) := fe_of pg_114 rfl
set_option maxRecDepth 100000 in
theorem f_114_9 : fe 114 9 = some (.ireturn, 1, 9, some .boolean) := fe_of pg_114 rfl
set_option maxRecDepth 100000 in
theorem f_114_10 : fe 114 10 = some (.aload_n 0, 1, 9, some .boolean) := fe_of pg_114 rfl
set_option maxRecDepth 100000 in
theorem f_114_11 : fe 114 11 = some (.getfield 15, 3, 9, some .boolean) := fe_of pg_114 rfl
set_option maxRecDepth 100000 in
theorem f_114_14 : fe 114 14 = some (.iload_n 1, 1, 9, some .boolean) := fe_of pg_114 rfl
set_option maxRecDepth 100000 in
theorem f_114_15 : fe 114 15 = some (.iaload, 1, 9, some .boolean) := fe_of pg_114 rfl
set_option maxRecDepth 100000 in
theorem f_114_16 : fe 114 16 = some (.istore_n 2, 1, 9, some .boolean) := fe_of pg_114 rfl
set_option maxRecDepth 100000 in
theorem f_114_17 : fe 114 17 = some (.iload_n 2, 1, 9, some .boolean) := fe_of pg_114 rfl
set_option maxRecDepth 100000 in
theorem f_114_18 : fe 114 18 = some (.ifCond .lt 16, 3, 9, some .boolean) := fe_of pg_114 rfl
set_option maxRecDepth 100000 in
theorem f_114_21 : fe 114 21 = some (.iload_n 2, 1, 9, some .boolean) := fe_of pg_114 rfl
set_option maxRecDepth 100000 in
theorem f_114_22 : fe 114 22 = some (.bipush 6, 2, 9, some .boolean) := fe_of pg_114 rfl
set_option maxRecDepth 100000 in
theorem f_114_24 : fe 114 24 = some (.if_icmp .ge 10, 3, 9, some .boolean) := fe_of pg_114 rfl
set_option maxRecDepth 100000 in
theorem f_114_27 : fe 114 27 = some (.aload_n 0, 1, 9, some .boolean) := fe_of pg_114 rfl
set_option maxRecDepth 100000 in
theorem f_114_28 : fe 114 28 = some (.getfield 18, 3, 9, some .boolean) := fe_of pg_114 rfl
set_option maxRecDepth 100000 in
theorem f_114_31 : fe 114 31 = some (.iload_n 2, 1, 9, some .boolean) := fe_of pg_114 rfl
set_option maxRecDepth 100000 in
theorem f_114_32 : fe 114 32 = some (.iconst (-1), 1, 9, some .boolean) := fe_of pg_114 rfl
set_option maxRecDepth 100000 in
theorem f_114_33 : fe 114 33 = some (.iastore, 1, 9, some .boolean) := fe_of pg_114 rfl
set_option maxRecDepth 100000 in
theorem f_114_34 : fe 114 34 = some (.aload_n 0, 1, 9, some .boolean) := fe_of pg_114 rfl
set_option maxRecDepth 100000 in
theorem f_114_35 : fe 114 35 = some (.getfield 15, 3, 9, some .boolean) := fe_of pg_114 rfl
set_option maxRecDepth 100000 in
theorem f_114_38 : fe 114 38 = some (.iload_n 1, 1, 9, some .boolean) := fe_of pg_114 rfl
set_option maxRecDepth 100000 in
theorem f_114_39 : fe 114 39 = some (.iconst (-1), 1, 9, some .boolean) := fe_of pg_114 rfl
set_option maxRecDepth 100000 in
theorem f_114_40 : fe 114 40 = some (.iastore, 1, 9, some .boolean) := fe_of pg_114 rfl
set_option maxRecDepth 100000 in
theorem f_114_41 : fe 114 41 = some (.iconst 1, 1, 9, some .boolean) := fe_of pg_114 rfl
set_option maxRecDepth 100000 in
theorem f_114_42 : fe 114 42 = some (.ireturn, 1, 9, some .boolean) := fe_of pg_114 rfl
set_option maxRecDepth 100000 in
theorem f_115_0 : fe 115 0 = some (.iconst 0, 1, 9, none) := fe_of pg_115 rfl
set_option maxRecDepth 100000 in
theorem f_115_1 : fe 115 1 = some (.istore_n 2, 1, 9, none) := fe_of pg_115 rfl
set_option maxRecDepth 100000 in
theorem f_115_2 : fe 115 2 = some (.iload_n 2, 1, 9, none) := fe_of pg_115 rfl
set_option maxRecDepth 100000 in
theorem f_115_3 : fe 115 3 = some (.aload_n 0, 1, 9, none) := fe_of pg_115 rfl
set_option maxRecDepth 100000 in
theorem f_115_4 : fe 115 4 = some (.getfield 21, 3, 9, none) := fe_of pg_115 rfl
set_option maxRecDepth 100000 in
theorem f_115_7 : fe 115 7 = some (.getfield 98, 3, 9, none) := fe_of pg_115 rfl
set_option maxRecDepth 100000 in
theorem f_115_10 : fe 115 10 = some (.if_icmp .ge 37, 3, 9, none) := fe_of pg_115 rfl
set_option maxRecDepth 100000 in
theorem f_115_13 : fe 115 13 = some (.aload_n 0, 1, 9, none) := fe_of pg_115 rfl
set_option maxRecDepth 100000 in
theorem f_115_14 : fe 115 14 = some (.iload_n 2, 1, 9, none) := fe_of pg_115 rfl
set_option maxRecDepth 100000 in
theorem f_115_15 : fe 115 15 = some (.invokevirtual 110, 3, 9, none) := fe_of pg_115 rfl
set_option maxRecDepth 100000 in
theorem f_115_18 : fe 115 18 = some (.ifCond .eq 23, 3, 9, none) := fe_of pg_115 rfl
set_option maxRecDepth 100000 in
theorem f_115_21 : fe 115 21 = some (.aload_n 0, 1, 9, none) := fe_of pg_115 rfl
set_option maxRecDepth 100000 in
theorem f_115_22 : fe 115 22 = some (.getfield 9, 3, 9, none) := fe_of pg_115 rfl
set_option maxRecDepth 100000 in
theorem f_115_25 : fe 115 25 = some (.iload_n 2, 1, 9, none) := fe_of pg_115 rfl
set_option maxRecDepth 100000 in
theorem f_115_26 : fe 115 26 = some (.aload_n 0, 1, 9, none) := fe_of pg_115 rfl
set_option maxRecDepth 100000 in
theorem f_115_27 : fe 115 27 = some (.getfield 9, 3, 9, none) := fe_of pg_115 rfl
set_option maxRecDepth 100000 in
theorem f_115_30 : fe 115 30 = some (.iload_n 2, 1, 9, none) := fe_of pg_115 rfl
set_option maxRecDepth 100000 in
theorem f_115_31 : fe 115 31 = some (.iaload, 1, 9, none) := fe_of pg_115 rfl
set_option maxRecDepth 100000 in
theorem f_115_32 : fe 115 32 = some (.iload_n 1, 1, 9, none) := fe_of pg_115 rfl
set_option maxRecDepth 100000 in
theorem f_115_33 : fe 115 33 = some (.iadd, 1, 9, none) := fe_of pg_115 rfl
set_option maxRecDepth 100000 in
theorem f_115_34 : fe 115 34 = some (.iconst 0, 1, 9, none) := fe_of pg_115 rfl
set_option maxRecDepth 100000 in
theorem f_115_35 : fe 115 35 = some (.bipush 99, 2, 9, none) := fe_of pg_115 rfl
set_option maxRecDepth 100000 in
theorem f_115_37 : fe 115 37 = some (.invokestatic 113, 3, 9, none) := fe_of pg_115 rfl
set_option maxRecDepth 100000 in
theorem f_115_40 : fe 115 40 = some (.iastore, 1, 9, none) := fe_of pg_115 rfl
set_option maxRecDepth 100000 in
theorem f_115_41 : fe 115 41 = some (.iinc 2 1, 3, 9, none) := fe_of pg_115 rfl
set_option maxRecDepth 100000 in
theorem f_115_44 : fe 115 44 = some (.goto (-42), 3, 9, none) := fe_of pg_115 rfl
set_option maxRecDepth 100000 in
theorem f_115_47 : fe 115 47 = some (.return_, 1, 9, none) := fe_of pg_115 rfl
set_option maxRecDepth 100000 in
theorem f_116_0 : fe 116 0 = some (.iconst 0, 1, 9, none) := fe_of pg_116 rfl
set_option maxRecDepth 100000 in
theorem f_116_1 : fe 116 1 = some (.istore_n 1, 1, 9, none) := fe_of pg_116 rfl
set_option maxRecDepth 100000 in
theorem f_116_2 : fe 116 2 = some (.iload_n 1, 1, 9, none) := fe_of pg_116 rfl
set_option maxRecDepth 100000 in
theorem f_116_3 : fe 116 3 = some (.iconst 1, 1, 9, none) := fe_of pg_116 rfl
set_option maxRecDepth 100000 in
theorem f_116_4 : fe 116 4 = some (.iadd, 1, 9, none) := fe_of pg_116 rfl
set_option maxRecDepth 100000 in
theorem f_116_5 : fe 116 5 = some (.aload_n 0, 1, 9, none) := fe_of pg_116 rfl
set_option maxRecDepth 100000 in
theorem f_116_6 : fe 116 6 = some (.getfield 21, 3, 9, none) := fe_of pg_116 rfl
set_option maxRecDepth 100000 in
theorem f_116_9 : fe 116 9 = some (.getfield 104, 3, 9, none) := fe_of pg_116 rfl
set_option maxRecDepth 100000 in
theorem f_116_12 : fe 116 12 = some (.if_icmp .ge 50, 3, 9, none) := fe_of pg_116 rfl
set_option maxRecDepth 100000 in
theorem f_116_15 : fe 116 15 = some (.aload_n 0, 1, 9, none) := fe_of pg_116 rfl
set_option maxRecDepth 100000 in
theorem f_116_16 : fe 116 16 = some (.getfield 18, 3, 9, none) := fe_of pg_116 rfl
set_option maxRecDepth 100000 in
theorem f_116_19 : fe 116 19 = some (.iload_n 1, 1, 9, none) := fe_of pg_116 rfl
set_option maxRecDepth 100000 in
theorem f_116_20 : fe 116 20 = some (.iaload, 1, 9, none) := fe_of pg_116 rfl
set_option maxRecDepth 100000 in
theorem f_116_21 : fe 116 21 = some (.istore_n 2, 1, 9, none) := fe_of pg_116 rfl
set_option maxRecDepth 100000 in
theorem f_116_22 : fe 116 22 = some (.aload_n 0, 1, 9, none) := fe_of pg_116 rfl
set_option maxRecDepth 100000 in
theorem f_116_23 : fe 116 23 = some (.getfield 18, 3, 9, none) := fe_of pg_116 rfl
set_option maxRecDepth 100000 in
theorem f_116_26 : fe 116 26 = some (.iload_n 1, 1, 9, none) := fe_of pg_116 rfl
set_option maxRecDepth 100000 in
theorem f_116_27 : fe 116 27 = some (.iconst 1, 1, 9, none) := fe_of pg_116 rfl
set_option maxRecDepth 100000 in
theorem f_116_28 : fe 116 28 = some (.iadd, 1, 9, none) := fe_of pg_116 rfl
set_option maxRecDepth 100000 in
theorem f_116_29 : fe 116 29 = some (.iaload, 1, 9, none) := fe_of pg_116 rfl
set_option maxRecDepth 100000 in
theorem f_116_30 : fe 116 30 = some (.istore_n 3, 1, 9, none) := fe_of pg_116 rfl
set_option maxRecDepth 100000 in
theorem f_116_31 : fe 116 31 = some (.aload_n 0, 1, 9, none) := fe_of pg_116 rfl
set_option maxRecDepth 100000 in
theorem f_116_32 : fe 116 32 = some (.iload_n 2, 1, 9, none) := fe_of pg_116 rfl
set_option maxRecDepth 100000 in
theorem f_116_33 : fe 116 33 = some (.invokevirtual 101, 3, 9, none) := fe_of pg_116 rfl
set_option maxRecDepth 100000 in
theorem f_116_36 : fe 116 36 = some (.ifCond .eq 20, 3, 9, none) := fe_of pg_116 rfl
set_option maxRecDepth 100000 in
theorem f_116_39 : fe 116 39 = some (.aload_n 0, 1, 9, none) := fe_of pg_116 rfl
set_option maxRecDepth 100000 in
theorem f_116_40 : fe 116 40 = some (.iload_n 3, 1, 9, none) := fe_of pg_116 rfl
set_option maxRecDepth 100000 in
theorem f_116_41 : fe 116 41 = some (.invokevirtual 101, 3, 9, none) := fe_of pg_116 rfl
set_option maxRecDepth 100000 in
theorem f_116_44 : fe 116 44 = some (.ifCond .eq 12, 3, 9, none) := fe_of pg_116 rfl
set_option maxRecDepth 100000 in
theorem f_116_47 : fe 116 47 = some (.aload_n 0, 1, 9, none) := fe_of pg_116 rfl
set_option maxRecDepth 100000 in
theorem f_116_48 : fe 116 48 = some (.getfield 9, 3, 9, none) := fe_of pg_116 rfl
set_option maxRecDepth 100000 in
theorem f_116_51 : fe 116 51 = some (.iload_n 2, 1, 9, none) := fe_of pg_116 rfl
set_option maxRecDepth 100000 in
theorem f_116_52 : fe 116 52 = some (.iload_n 3, 1, 9, none) := fe_of pg_116 rfl
set_option maxRecDepth 100000 in
theorem f_116_53 : fe 116 53 = some (.invokestatic 117, 3, 9, none) := fe_of pg_116 rfl
set_option maxRecDepth 100000 in
theorem f_116_56 : fe 116 56 = some (.iinc 1 1, 3, 9, none) := fe_of pg_116 rfl
set_option maxRecDepth 100000 in
theorem f_116_59 : fe 116 59 = some (.goto (-57), 3, 9, none) := fe_of pg_116 rfl
set_option maxRecDepth 100000 in
theorem f_116_62 : fe 116 62 = some (.return_, 1, 9, none) := fe_of pg_116 rfl
set_option maxRecDepth 100000 in
theorem f_117_0 : fe 117 0 = some (.aload_n 0, 1, 9, some .boolean) := fe_of pg_117 rfl
set_option maxRecDepth 100000 in
theorem f_117_1 : fe 117 1 = some (.getfield 25, 3, 9, some .boolean) := fe_of pg_117 rfl
set_option maxRecDepth 100000 in
theorem f_117_4 : fe 117 4 = some (.ifCond .lt 17, 3, 9, some .boolean) := fe_of pg_117 rfl
set_option maxRecDepth 100000 in
theorem f_117_7 : fe 117 7 = some (.aload_n 0, 1, 9, some .boolean) := fe_of pg_117 rfl
set_option maxRecDepth 100000 in
theorem f_117_8 : fe 117 8 = some (.getfield 25, 3, 9, some .boolean) := fe_of pg_117 rfl
set_option maxRecDepth 100000 in
theorem f_117_11 : fe 117 11 = some (.aload_n 0, 1, 9, some .boolean) := fe_of pg_117 rfl
set_option maxRecDepth 100000 in
theorem f_117_12 : fe 117 12 = some (.getfield 21, 3, 9, some .boolean) := fe_of pg_117 rfl
set_option maxRecDepth 100000 in
theorem f_117_15 : fe 117 15 = some (.getfield 121, 3, 9, some .boolean) := fe_of pg_117 rfl
set_option maxRecDepth 100000 in
theorem f_117_18 : fe 117 18 = some (.if_icmp .lt 5, 3, 9, some .boolean) := fe_of pg_117 rfl
set_option maxRecDepth 100000 in
theorem f_117_21 : fe 117 21 = some (.iconst 0, 1, 9, some .boolean) := fe_of pg_117 rfl
set_option maxRecDepth 100000 in
theorem f_117_22 : fe 117 22 = some (.ireturn, 1, 9, some .boolean) := fe_of pg_117 rfl
set_option maxRecDepth 100000 in
theorem f_117_23 : fe 117 23 = some (.aload_n 0, 1, 9, some .boolean) := fe_of pg_117 rfl
set_option maxRecDepth 100000 in
theorem f_117_24 : fe 117 24 = some (.invokevirtual 124, 3, 9, some .boolean) := fe_of pg_117 rfl
set_option maxRecDepth 100000 in
theorem f_117_27 : fe 117 27 = some (.aload_n 0, 1, 9, some .boolean) := fe_of pg_117 rfl
set_option maxRecDepth 100000 in
theorem f_117_28 : fe 117 28 = some (.getfield 21, 3, 9, some .boolean) := fe_of pg_117 rfl
set_option maxRecDepth 100000 in
theorem f_117_31 : fe 117 31 = some (.getfield 128, 3, 9, some .boolean) := fe_of pg_117 rfl
set_option maxRecDepth 100000 in
theorem f_117_34 : fe 117 34 = some (.aload_n 0, 1, 9, some .boolean) := fe_of pg_117 rfl
set_option maxRecDepth 100000 in
theorem f_117_35 : fe 117 35 = some (.getfield 25, 3, 9, some .boolean) := fe_of pg_117 rfl
set_option maxRecDepth 100000 in
theorem f_117_38 : fe 117 38 = some (.iaload, 1, 9, some .boolean) := fe_of pg_117 rfl
set_option maxRecDepth 100000 in
theorem f_117_39 : fe 117 39 = some (.if_icmp .lt 10, 3, 9, some .boolean) := fe_of pg_117 rfl
set_option maxRecDepth 100000 in
theorem f_117_42 : fe 117 42 = some (.aload_n 0, 1, 9, some .boolean) := fe_of pg_117 rfl
set_option maxRecDepth 100000 in
theorem f_117_43 : fe 117 43 = some (.invokevirtual 131, 3, 9, some .boolean) := fe_of pg_117 rfl
set_option maxRecDepth 100000 in
theorem f_117_46 : fe 117 46 = some (.goto 7, 3, 9, some .boolean) := fe_of pg_117 rfl
set_option maxRecDepth 100000 in
theorem f_117_49 : fe 117 49 = some (.aload_n 0, 1, 9, some .boolean) := fe_of pg_117 rfl
set_option maxRecDepth 100000 in
theorem f_117_50 : fe 117 50 = some (.invokevirtual 134, 3, 9, some .boolean) := fe_of pg_117 rfl
set_option maxRecDepth 100000 in
theorem f_117_53 : fe 117 53 = some (.iconst 1, 1, 9, some .boolean) := fe_of pg_117 rfl
set_option maxRecDepth 100000 in
theorem f_117_54 : fe 117 54 = some (.ireturn, 1, 9, some .boolean) := fe_of pg_117 rfl
set_option maxRecDepth 100000 in
theorem f_118_0 : fe 118 0 = some (.aload_n 0, 1, 9, none) := fe_of pg_118 rfl
set_option maxRecDepth 100000 in
theorem f_118_1 : fe 118 1 = some (.dup, 1, 9, none) := fe_of pg_118 rfl
set_option maxRecDepth 100000 in
theorem f_118_2 : fe 118 2 = some (.getfield 25, 3, 9, none) := fe_of pg_118 rfl
set_option maxRecDepth 100000 in
theorem f_118_5 : fe 118 5 = some (.iconst 1, 1, 9, none) := fe_of pg_118 rfl
set_option maxRecDepth 100000 in
theorem f_118_6 : fe 118 6 = some (.iadd, 1, 9, none) := fe_of pg_118 rfl
set_option maxRecDepth 100000 in
theorem f_118_7 : fe 118 7 = some (.putfield 25, 3, 9, none) := fe_of pg_118 rfl
set_option maxRecDepth 100000 in
theorem f_118_10 : fe 118 10 = some (.aload_n 0, 1, 9, none) := fe_of pg_118 rfl
set_option maxRecDepth 100000 in
theorem f_118_11 : fe 118 11 = some (.dup, 1, 9, none) := fe_of pg_118 rfl
set_option maxRecDepth 100000 in
theorem f_118_12 : fe 118 12 = some (.getfield 35, 3, 9, none) := fe_of pg_118 rfl
set_option maxRecDepth 100000 in
theorem f_118_15 : fe 118 15 = some (.iconst 1, 1, 9, none) := fe_of pg_118 rfl
set_option maxRecDepth 100000 in
theorem f_118_16 : fe 118 16 = some (.iadd, 1, 9, none) := fe_of pg_118 rfl
set_option maxRecDepth 100000 in
theorem f_118_17 : fe 118 17 = some (.putfield 35, 3, 9, none) := fe_of pg_118 rfl
set_option maxRecDepth 100000 in
theorem f_118_20 : fe 118 20 = some (.iconst 0, 1, 9, none) := fe_of pg_118 rfl
set_option maxRecDepth 100000 in
theorem f_118_21 : fe 118 21 = some (.istore_n 1, 1, 9, none) := fe_of pg_118 rfl
set_option maxRecDepth 100000 in
theorem f_118_22 : fe 118 22 = some (.iload_n 1, 1, 9, none) := fe_of pg_118 rfl
set_option maxRecDepth 100000 in
theorem f_118_23 : fe 118 23 = some (.aload_n 0, 1, 9, none) := fe_of pg_118 rfl
set_option maxRecDepth 100000 in
theorem f_118_24 : fe 118 24 = some (.getfield 21, 3, 9, none) := fe_of pg_118 rfl
set_option maxRecDepth 100000 in
theorem f_118_27 : fe 118 27 = some (.getfield 98, 3, 9, none) := fe_of pg_118 rfl
set_option maxRecDepth 100000 in
theorem f_118_30 : fe 118 30 = some (.if_icmp .ge 37, 3, 9, none) := fe_of pg_118 rfl
set_option maxRecDepth 100000 in
theorem f_118_33 : fe 118 33 = some (.aload_n 0, 1, 9, none) := fe_of pg_118 rfl
set_option maxRecDepth 100000 in
theorem f_118_34 : fe 118 34 = some (.iload_n 1, 1, 9, none) := fe_of pg_118 rfl
set_option maxRecDepth 100000 in
theorem f_118_35 : fe 118 35 = some (.invokevirtual 110, 3, 9, none) := fe_of pg_118 rfl
set_option maxRecDepth 100000 in
theorem f_118_38 : fe 118 38 = some (.ifCond .eq 23, 3, 9, none) := fe_of pg_118 rfl
set_option maxRecDepth 100000 in
theorem f_118_41 : fe 118 41 = some (.aload_n 0, 1, 9, none) := fe_of pg_118 rfl
set_option maxRecDepth 100000 in
theorem f_118_42 : fe 118 42 = some (.getfield 9, 3, 9, none) := fe_of pg_118 rfl
set_option maxRecDepth 100000 in
theorem f_118_45 : fe 118 45 = some (.iload_n 1, 1, 9, none) := fe_of pg_118 rfl
set_option maxRecDepth 100000 in
theorem f_118_46 : fe 118 46 = some (.aload_n 0, 1, 9, none) := fe_of pg_118 rfl
set_option maxRecDepth 100000 in
theorem f_118_47 : fe 118 47 = some (.getfield 21, 3, 9, none) := fe_of pg_118 rfl
set_option maxRecDepth 100000 in
theorem f_118_50 : fe 118 50 = some (.iload_n 1, 1, 9, none) := fe_of pg_118 rfl
set_option maxRecDepth 100000 in
theorem f_118_51 : fe 118 51 = some (.aload_n 0, 1, 9, none) := fe_of pg_118 rfl
set_option maxRecDepth 100000 in
theorem f_118_52 : fe 118 52 = some (.getfield 9, 3, 9, none) := fe_of pg_118 rfl
set_option maxRecDepth 100000 in
theorem f_118_55 : fe 118 55 = some (.iload_n 1, 1, 9, none) := fe_of pg_118 rfl
set_option maxRecDepth 100000 in
theorem f_118_56 : fe 118 56 = some (.iaload, 1, 9, none) := fe_of pg_118 rfl
set_option maxRecDepth 100000 in
theorem f_118_57 : fe 118 57 = some (.invokevirtual 137, 3, 9, none) := fe_of pg_118 rfl
set_option maxRecDepth 100000 in
theorem f_118_60 : fe 118 60 = some (.iastore, 1, 9, none) := fe_of pg_118 rfl
set_option maxRecDepth 100000 in
theorem f_118_61 : fe 118 61 = some (.iinc 1 1, 3, 9, none) := fe_of pg_118 rfl
set_option maxRecDepth 100000 in
theorem f_118_64 : fe 118 64 = some (.goto (-42), 3, 9, none) := fe_of pg_118 rfl
set_option maxRecDepth 100000 in
theorem f_118_67 : fe 118 67 = some (.return_, 1, 9, none) := fe_of pg_118 rfl
set_option maxRecDepth 100000 in
theorem f_119_0 : fe 119 0 = some (.aload_n 0, 1, 9, none) := fe_of pg_119 rfl
set_option maxRecDepth 100000 in
theorem f_119_1 : fe 119 1 = some (.dup, 1, 9, none) := fe_of pg_119 rfl
set_option maxRecDepth 100000 in
theorem f_119_2 : fe 119 2 = some (.getfield 29, 3, 9, none) := fe_of pg_119 rfl
set_option maxRecDepth 100000 in
theorem f_119_5 : fe 119 5 = some (.iconst 1, 1, 9, none) := fe_of pg_119 rfl
set_option maxRecDepth 100000 in
theorem f_119_6 : fe 119 6 = some (.iadd, 1, 9, none) := fe_of pg_119 rfl
set_option maxRecDepth 100000 in
theorem f_119_7 : fe 119 7 = some (.putfield 29, 3, 9, none) := fe_of pg_119 rfl
set_option maxRecDepth 100000 in
theorem f_119_10 : fe 119 10 = some (.aload_n 0, 1, 9, none) := fe_of pg_119 rfl
set_option maxRecDepth 100000 in
theorem f_119_11 : fe 119 11 = some (.getfield 32, 3, 9, none) := fe_of pg_119 rfl
set_option maxRecDepth 100000 in
theorem f_119_14 : fe 119 14 = some (.iconst (-1), 1, 9, none) := fe_of pg_119 rfl
set_option maxRecDepth 100000 in
theorem f_119_15 : fe 119 15 = some (.if_icmp .ne 11, 3, 9, none) := fe_of pg_119 rfl
set_option maxRecDepth 100000 in
theorem f_119_18 : fe 119 18 = some (.aload_n 0, 1, 9, none) := fe_of pg_119 rfl
set_option maxRecDepth 100000 in
theorem f_119_19 : fe 119 19 = some (.aload_n 0, 1, 9, none) := fe_of pg_119 rfl
set_option maxRecDepth 100000 in
theorem f_119_20 : fe 119 20 = some (.getfield 25, 3, 9, none) := fe_of pg_119 rfl
set_option maxRecDepth 100000 in
theorem f_119_23 : fe 119 23 = some (.putfield 32, 3, 9, none) := fe_of pg_119 rfl
set_option maxRecDepth 100000 in
theorem f_119_26 : fe 119 26 = some (.return_, 1, 9, none) := fe_of pg_119 rfl
set_option maxRecDepth 100000 in
theorem f_120_0 : fe 120 0 = some (.aload_n 0, 1, 9, some .boolean) := fe_of pg_120 rfl
set_option maxRecDepth 100000 in
theorem f_120_1 : fe 120 1 = some (.getfield 25, 3, 9, some .boolean) := fe_of pg_120 rfl
set_option maxRecDepth 100000 in
theorem f_120_4 : fe 120 4 = some (.ifCond .ne 5, 3, 9, some .boolean) := fe_of pg_120 rfl
set_option maxRecDepth 100000 in
theorem f_120_7 : fe 120 7 = some (.iconst 0, 1, 9, some .boolean) := fe_of pg_120 rfl
set_option maxRecDepth 100000 in
theorem f_120_8 : fe 120 8 = some (.ireturn, 1, 9, some .boolean) := fe_of pg_120 rfl
set_option maxRecDepth 100000 in
theorem f_120_9 : fe 120 9 = some (.aload_n 0, 1, 9, some .boolean) := fe_of pg_120 rfl
set_option maxRecDepth 100000 in
theorem f_120_10 : fe 120 10 = some (.iconst 0, 1, 9, some .boolean) := fe_of pg_120 rfl
set_option maxRecDepth 100000 in
theorem f_120_11 : fe 120 11 = some (.putfield 25, 3, 9, some .boolean) := fe_of pg_120 rfl
set_option maxRecDepth 100000 in
theorem f_120_14 : fe 120 14 = some (.iconst 1, 1, 9, some .boolean) := fe_of pg_120 rfl
set_option maxRecDepth 100000 in
theorem f_120_15 : fe 120 15 = some (.ireturn, 1, 9, some .boolean) := fe_of pg_120 rfl
set_option maxRecDepth 100000 in
theorem f_121_0 : fe 121 0 = some (.aload_n 0, 1, 9, none) := fe_of pg_121 rfl
set_option maxRecDepth 100000 in
theorem f_121_1 : fe 121 1 = some (.iload_n 1, 1, 9, none) := fe_of pg_121 rfl
set_option maxRecDepth 100000 in
theorem f_121_2 : fe 121 2 = some (.putfield 140, 3, 9, none) := fe_of pg_121 rfl
set_option maxRecDepth 100000 in
theorem f_121_5 : fe 121 5 = some (.iconst 0, 1, 9, none) := fe_of pg_121 rfl
set_option maxRecDepth 100000 in
theorem f_121_6 : fe 121 6 = some (.istore_n 3, 1, 9, none) := fe_of pg_121 rfl
set_option maxRecDepth 100000 in
theorem f_121_7 : fe 121 7 = some (.iload_n 3, 1, 9, none) := fe_of pg_121 rfl
set_option maxRecDepth 100000 in
theorem f_121_8 : fe 121 8 = some (.iload_n 2, 1, 9, none) := fe_of pg_121 rfl
set_option maxRecDepth 100000 in
theorem f_121_9 : fe 121 9 = some (.if_icmp .ge 96, 3, 9, none) := fe_of pg_121 rfl
set_option maxRecDepth 100000 in
theorem f_121_12 : fe 121 12 = some (.aload_n 0, 1, 9, none) := fe_of pg_121 rfl
set_option maxRecDepth 100000 in
theorem f_121_13 : fe 121 13 = some (.bipush 8, 2, 9, none) := fe_of pg_121 rfl
set_option maxRecDepth 100000 in
theorem f_121_15 : fe 121 15 = some (.invokevirtual 143, 3, 9, none) := fe_of pg_121 rfl
set_option maxRecDepth 100000 in
theorem f_121_18 : fe 121 18 = some (.istore 4, 2, 9, none) := fe_of pg_121 rfl
set_option maxRecDepth 100000 in
theorem f_121_20 : fe 121 20 = some (.iload 4, 2, 9, none) := fe_of pg_121 rfl
set_option maxRecDepth 100000 in
theorem f_121_22 : fe 121 22 = some (.iconst 2, 1, 9, none) := fe_of pg_121 rfl
set_option maxRecDepth 100000 in
theorem f_121_23 : fe 121 23 = some (.if_icmp .gt 26, 3, 9, none) := fe_of pg_121 rfl
set_option maxRecDepth 100000 in
theorem f_121_26 : fe 121 26 = some (.aload_n 0, 1, 9, none) := fe_of pg_121 rfl
set_option maxRecDepth 100000 in
theorem f_121_27 : fe 121 27 = some (.aload_n 0, 1, 9, none) := fe_of pg_121 rfl
set_option maxRecDepth 100000 in
theorem f_121_28 : fe 121 28 = some (.aload_n 0, 1, 9, none) := fe_of pg_121 rfl
set_option maxRecDepth 100000 in
theorem f_121_29 : fe 121 29 = some (.getfield 21, 3, 9, none) := fe_of pg_121 rfl
set_option maxRecDepth 100000 in
theorem f_121_32 : fe 121 32 = some (.getfield 98, 3, 9, none) := fe_of pg_121 rfl
set_option maxRecDepth 100000 in
theorem f_121_35 : fe 121 35 = some (.invokevirtual 143, 3, 9, none) := fe_of pg_121 rfl
set_option maxRecDepth 100000 in
theorem f_121_38 : fe 121 38 = some (.aload_n 0, 1, 9, none) := fe_of pg_121 rfl
set_option maxRecDepth 100000 in
theorem f_121_39 : fe 121 39 = some (.invokevirtual 147, 3, 9, none) := fe_of pg_121 rfl
set_option maxRecDepth 100000 in
theorem f_121_42 : fe 121 42 = some (.invokevirtual 73, 3, 9, none) := fe_of pg_121 rfl
set_option maxRecDepth 100000 in
theorem f_121_45 : fe 121 45 = some (.pop, 1, 9, none) := fe_of pg_121 rfl
set_option maxRecDepth 100000 in
theorem f_121_46 : fe 121 46 = some (.goto 53, 3, 9, none) := fe_of pg_121 rfl
set_option maxRecDepth 100000 in
theorem f_121_49 : fe 121 49 = some (.iload 4, 2, 9, none) := fe_of pg_121 rfl
set_option maxRecDepth 100000 in
theorem f_121_51 : fe 121 51 = some (.iconst 3, 1, 9, none) := fe_of pg_121 rfl
set_option maxRecDepth 100000 in
theorem f_121_52 : fe 121 52 = some (.if_icmp .ne 22, 3, 9, none) := fe_of pg_121 rfl
set_option maxRecDepth 100000 in
theorem f_121_55 : fe 121 55 = some (.aload_n 0, 1, 9, none) := fe_of pg_121 rfl
set_option maxRecDepth 100000 in
theorem f_121_56 : fe 121 56 = some (.aload_n 0, 1, 9, none) := fe_of pg_121 rfl
set_option maxRecDepth 100000 in
theorem f_121_57 : fe 121 57 = some (.aload_n 0, 1, 9, none) := fe_of pg_121 rfl
set_option maxRecDepth 100000 in
theorem f_121_58 : fe 121 58 = some (.getfield 21, 3, 9, none) := fe_of pg_121 rfl
set_option maxRecDepth 100000 in
theorem f_121_61 : fe 121 61 = some (.getfield 98, 3, 9, none) := fe_of pg_121 rfl
set_option maxRecDepth 100000 in
theorem f_121_64 : fe 121 64 = some (.invokevirtual 143, 3, 9, none) := fe_of pg_121 rfl
set_option maxRecDepth 100000 in
theorem f_121_67 : fe 121 67 = some (.invokevirtual 80, 3, 9, none) := fe_of pg_121 rfl
set_option maxRecDepth 100000 in
theorem f_121_70 : fe 121 70 = some (.pop, 1, 9, none) := fe_of pg_121 rfl
set_option maxRecDepth 100000 in
theorem f_121_71 : fe 121 71 = some (.goto 28, 3, 9, none) := fe_of pg_121 rfl
set_option maxRecDepth 100000 in
theorem f_121_74 : fe 121 74 = some (.iload 4, 2, 9, none) := fe_of pg_121 rfl
set_option maxRecDepth 100000 in
theorem f_121_76 : fe 121 76 = some (.iconst 4, 1, 9, none) := fe_of pg_121 rfl
set_option maxRecDepth 100000 in
theorem f_121_77 : fe 121 77 = some (.if_icmp .ne 10, 3, 9, none) := fe_of pg_121 rfl
set_option maxRecDepth 100000 in
theorem f_121_80 : fe 121 80 = some (.aload_n 0, 1, 9, none) := fe_of pg_121 rfl
set_option maxRecDepth 100000 in
theorem f_121_81 : fe 121 81 = some (.invokevirtual 92, 3, 9, none) := fe_of pg_121 rfl
set_option maxRecDepth 100000 in
theorem f_121_84 : fe 121 84 = some (.goto 15, 3, 9, none) := fe_of pg_121 rfl
set_option maxRecDepth 100000 in
theorem f_121_87 : fe 121 87 = some (.aload_n 0, 1, 9, none) := fe_of pg_121 rfl
set_option maxRecDepth 100000 in
theorem f_121_88 : fe 121 88 = some (.invokevirtual 88, 3, 9, none) := fe_of pg_121 rfl
set_option maxRecDepth 100000 in
theorem f_121_91 : fe 121 91 = some (.ifCond .ne 8, 3, 9, none) := fe_of pg_121 rfl
set_option maxRecDepth 100000 in
theorem f_121_94 : fe 121 94 = some (.aload_n 0, 1, 9, none) := fe_of pg_121 rfl
set_option maxRecDepth 100000 in
theorem f_121_95 : fe 121 95 = some (.invokevirtual 95, 3, 9, none) := fe_of pg_121 rfl
set_option maxRecDepth 100000 in
theorem f_121_98 : fe 121 98 = some (.pop, 1, 9, none) := fe_of pg_121 rfl
set_option maxRecDepth 100000 in
theorem f_121_99 : fe 121 99 = some (.iinc 3 1, 3, 9, none) := fe_of pg_121 rfl
set_option maxRecDepth 100000 in
theorem f_121_102 : fe 121 102 = some (.goto (-95), 3, 9, none) := fe_of pg_121 rfl
set_option maxRecDepth 100000 in
theorem f_121_105 : fe 121 105 = some (.return_, 1, 9, none) := fe_of pg_121 rfl
set_option maxRecDepth 100000 in
theorem f_122_0 : fe 122 0 = some (.aload_n 0, 1, 9, some .int) := fe_of pg_122 rfl
set_option maxRecDepth 100000 in
theorem f_122_1 : fe 122 1 = some (.aload_n 0, 1, 9, some .int) := fe_of pg_122 rfl
set_option maxRecDepth 100000 in
theorem f_122_2 : fe 122 2 = some (.getfield 140, 3, 9, some .int) := fe_of pg_122 rfl
set_option maxRecDepth 100000 in
theorem f_122_5 : fe 122 5 = some (.ldc 150, 2, 9, some .int) := fe_of pg_122 rfl
set_option maxRecDepth 100000 in
theorem f_122_7 : fe 122 7 = some (.imul, 1, 9, some .int) := fe_of pg_122 rfl
set_option maxRecDepth 100000 in
theorem f_122_8 : fe 122 8 = some (.sipush 12345, 3, 9, some .int) := fe_of pg_122 rfl
set_option maxRecDepth 100000 in
theorem f_122_11 : fe 122 11 = some (.iadd, 1, 9, some .int) := fe_of pg_122 rfl
set_option maxRecDepth 100000 in
theorem f_122_12 : fe 122 12 = some (.putfield 140, 3, 9, some .int) := fe_of pg_122 rfl
set_option maxRecDepth 100000 in
theorem f_122_15 : fe 122 15 = some (.iload_n 1, 1, 9, some .int) := fe_of pg_122 rfl
set_option maxRecDepth 100000 in
theorem f_122_16 : fe 122 16 = some (.ifCond .gt 7, 3, 9, some .int) := fe_of pg_122 rfl
set_option maxRecDepth 100000 in
theorem f_122_19 : fe 122 19 = some (.iconst 0, 1, 9, some .int) := fe_of pg_122 rfl
set_option maxRecDepth 100000 in
theorem f_122_20 : fe 122 20 = some (.goto 12, 3, 9, some .int) := fe_of pg_122 rfl
set_option maxRecDepth 100000 in
theorem f_122_23 : fe 122 23 = some (.aload_n 0, 1, 9, some .int) := fe_of pg_122 rfl
set_option maxRecDepth 100000 in
theorem f_122_24 : fe 122 24 = some (.getfield 140, 3, 9, some .int) := fe_of pg_122 rfl
set_option maxRecDepth 100000 in
theorem f_122_27 : fe 122 27 = some (.bipush 16, 2, 9, some .int) := fe_of pg_122 rfl
set_option maxRecDepth 100000 in
theorem f_122_29 : fe 122 29 = some (.iushr, 1, 9, some .int) := fe_of pg_122 rfl
set_option maxRecDepth 100000 in
theorem f_122_30 : fe 122 30 = some (.iload_n 1, 1, 9, some .int) := fe_of pg_122 rfl
set_option maxRecDepth 100000 in
theorem f_122_31 : fe 122 31 = some (.irem, 1, 9, some .int) := fe_of pg_122 rfl
set_option maxRecDepth 100000 in
theorem f_122_32 : fe 122 32 = some (.ireturn, 1, 9, some .int) := fe_of pg_122 rfl
set_option maxRecDepth 100000 in
theorem f_123_0 : fe 123 0 = some (.iconst 0, 1, 9, some .int) := fe_of pg_123 rfl
set_option maxRecDepth 100000 in
theorem f_123_1 : fe 123 1 = some (.istore_n 1, 1, 9, some .int) := fe_of pg_123 rfl
set_option maxRecDepth 100000 in
theorem f_123_2 : fe 123 2 = some (.iload_n 1, 1, 9, some .int) := fe_of pg_123 rfl
set_option maxRecDepth 100000 in
theorem f_123_3 : fe 123 3 = some (.aload_n 0, 1, 9, some .int) := fe_of pg_123 rfl
set_option maxRecDepth 100000 in
theorem f_123_4 : fe 123 4 = some (.getfield 21, 3, 9, some .int) := fe_of pg_123 rfl
set_option maxRecDepth 100000 in
theorem f_123_7 : fe 123 7 = some (.getfield 104, 3, 9, some .int) := fe_of pg_123 rfl
set_option maxRecDepth 100000 in
theorem f_123_10 : fe 123 10 = some (.if_icmp .ge 19, 3, 9, some .int) := fe_of pg_123 rfl
set_option maxRecDepth 100000 in
theorem f_123_13 : fe 123 13 = some (.aload_n 0, 1, 9, some .int) := fe_of pg_123 rfl
set_option maxRecDepth 100000 in
theorem f_123_14 : fe 123 14 = some (.iload_n 1, 1, 9, some .int) := fe_of pg_123 rfl
set_option maxRecDepth 100000 in
theorem f_123_15 : fe 123 15 = some (.invokevirtual 107, 3, 9, some .int) := fe_of pg_123 rfl
set_option maxRecDepth 100000 in
theorem f_123_18 : fe 123 18 = some (.ifCond .eq 5, 3, 9, some .int) := fe_of pg_123 rfl
set_option maxRecDepth 100000 in
theorem f_123_21 : fe 123 21 = some (.iload_n 1, 1, 9, some .int) := fe_of pg_123 rfl
set_option maxRecDepth 100000 in
theorem f_123_22 : fe 123 22 = some (.ireturn, 1, 9, some .int) := fe_of pg_123 rfl
set_option maxRecDepth 100000 in
theorem f_123_23 : fe 123 23 = some (.iinc 1 1, 3, 9, some .int) := fe_of pg_123 rfl
set_option maxRecDepth 100000 in
theorem f_123_26 : fe 123 26 = some (.goto (-24), 3, 9, some .int) := fe_of pg_123 rfl
set_option maxRecDepth 100000 in
theorem f_123_29 : fe 123 29 = some (.iconst (-1), 1, 9, some .int) := fe_of pg_123 rfl
set_option maxRecDepth 100000 in
theorem f_123_30 : fe 123 30 = some (.ireturn, 1, 9, some .int) := fe_of pg_123 rfl
set_option maxRecDepth 100000 in
theorem f_124_0 : fe 124 0 = some (.iload_n 1, 1, 9, some .int) := fe_of pg_124 rfl
set_option maxRecDepth 100000 in
theorem f_124_1 : fe 124 1 = some (.tableswitch 78 0 6 #[43, 48, 53, 58, 63, 68, 73], 43, 9, some .int) := fe_of pg_124 rfl
set_option maxRecDepth 100000 in
theorem f_124_44 : fe 124 44 = some (.aload_n 0, 1, 9, some .int) := fe_of pg_124 rfl
set_option maxRecDepth 100000 in
theorem f_124_45 : fe 124 45 = some (.getfield 25, 3, 9, some .int) := fe_of pg_124 rfl
set_option maxRecDepth 100000 in
theorem f_124_48 : fe 124 48 = some (.ireturn, 1, 9, some .int) := fe_of pg_124 rfl
set_option maxRecDepth 100000 in
theorem f_124_49 : fe 124 49 = some (.aload_n 0, 1, 9, some .int) := fe_of pg_124 rfl
set_option maxRecDepth 100000 in
theorem f_124_50 : fe 124 50 = some (.getfield 29, 3, 9, some .int) := fe_of pg_124 rfl
set_option maxRecDepth 100000 in
theorem f_124_53 : fe 124 53 = some (.ireturn, 1, 9, some .int) := fe_of pg_124 rfl
set_option maxRecDepth 100000 in
theorem f_124_54 : fe 124 54 = some (.aload_n 0, 1, 9, some .int) := fe_of pg_124 rfl
set_option maxRecDepth 100000 in
theorem f_124_55 : fe 124 55 = some (.getfield 32, 3, 9, some .int) := fe_of pg_124 rfl
set_option maxRecDepth 100000 in
theorem f_124_58 : fe 124 58 = some (.ireturn, 1, 9, some .int) := fe_of pg_124 rfl
set_option maxRecDepth 100000 in
theorem f_124_59 : fe 124 59 = some (.aload_n 0, 1, 9, some .int) := fe_of pg_124 rfl
set_option maxRecDepth 100000 in
theorem f_124_60 : fe 124 60 = some (.invokevirtual 124, 3, 9, some .int) := fe_of pg_124 rfl
set_option maxRecDepth 100000 in
theorem f_124_63 : fe 124 63 = some (.ireturn, 1, 9, some .int) := fe_of pg_124 rfl
set_option maxRecDepth 100000 in
theorem f_124_64 : fe 124 64 = some (.aload_n 0, 1, 9, some .int) := fe_of pg_124 rfl
set_option maxRecDepth 100000 in
theorem f_124_65 : fe 124 65 = some (.invokevirtual 151, 3, 9, some .int) := fe_of pg_124 rfl
set_option maxRecDepth 100000 in
theorem f_124_68 : fe 124 68 = some (.ireturn, 1, 9, some .int) := fe_of pg_124 rfl
set_option maxRecDepth 100000 in
theorem f_124_69 : fe 124 69 = some (.aload_n 0, 1, 9, some .int) := fe_of pg_124 rfl
set_option maxRecDepth 100000 in
theorem f_124_70 : fe 124 70 = some (.invokevirtual 154, 3, 9, some .int) := fe_of pg_124 rfl
set_option maxRecDepth 100000 in
theorem f_124_73 : fe 124 73 = some (.ireturn, 1, 9, some .int) := fe_of pg_124 rfl
set_option maxRecDepth 100000 in
theorem f_124_74 : fe 124 74 = some (.aload_n 0, 1, 9, some .int) := fe_of pg_124 rfl
set_option maxRecDepth 100000 in
theorem f_124_75 : fe 124 75 = some (.getfield 35, 3, 9, some .int) := fe_of pg_124 rfl
set_option maxRecDepth 100000 in
theorem f_124_78 : fe 124 78 = some (.ireturn, 1, 9, some .int) := fe_of pg_124 rfl
set_option maxRecDepth 100000 in
theorem f_124_79 : fe 124 79 = some (.iload_n 1, 1, 9, some .int) := fe_of pg_124 rfl
set_option maxRecDepth 100000 in
theorem f_124_80 : fe 124 80 = some (.bipush 10, 2, 9, some .int) := fe_of pg_124 rfl
set_option maxRecDepth 100000 in
theorem f_124_82 : fe 124 82 = some (.if_icmp .ge 8, 3, 9, some .int) := fe_of pg_124 rfl
set_option maxRecDepth 100000 in
theorem f_124_85 : fe 124 85 = some (.bipush (-2), 2, 9, some .int) := fe_of pg_124 rfl
set_option maxRecDepth 100000 in
theorem f_124_87 : fe 124 87 = some (.goto 15, 3, 9, some .int) := fe_of pg_124 rfl
set_option maxRecDepth 100000 in
theorem f_124_90 : fe 124 90 = some (.aload_n 0, 1, 9, some .int) := fe_of pg_124 rfl
set_option maxRecDepth 100000 in
theorem f_124_91 : fe 124 91 = some (.iload_n 1, 1, 9, some .int) := fe_of pg_124 rfl
set_option maxRecDepth 100000 in
theorem f_124_92 : fe 124 92 = some (.bipush 10, 2, 9, some .int) := fe_of pg_124 rfl
set_option maxRecDepth 100000 in
theorem f_124_94 : fe 124 94 = some (.idiv, 1, 9, some .int) := fe_of pg_124 rfl
set_option maxRecDepth 100000 in
theorem f_124_95 : fe 124 95 = some (.iload_n 1, 1, 9, some .int) := fe_of pg_124 rfl
set_option maxRecDepth 100000 in
theorem f_124_96 : fe 124 96 = some (.bipush 10, 2, 9, some .int) := fe_of pg_124 rfl
set_option maxRecDepth 100000 in
theorem f_124_98 : fe 124 98 = some (.irem, 1, 9, some .int) := fe_of pg_124 rfl
set_option maxRecDepth 100000 in
theorem f_124_99 : fe 124 99 = some (.invokevirtual 157, 3, 9, some .int) := fe_of pg_124 rfl
set_option maxRecDepth 100000 in
theorem f_124_102 : fe 124 102 = some (.ireturn, 1, 9, some .int) := fe_of pg_124 rfl
set_option maxRecDepth 100000 in
theorem f_125_0 : fe 125 0 = some (.iload_n 1, 1, 9, some .int) := fe_of pg_125 rfl
set_option maxRecDepth 100000 in
theorem f_125_1 : fe 125 1 = some (.tableswitch 90 1 3 #[27, 47, 67], 27, 9, some .int) := fe_of pg_125 rfl
set_option maxRecDepth 100000 in
theorem f_125_28 : fe 125 28 = some (.aload_n 0, 1, 9, some .int) := fe_of pg_125 rfl
set_option maxRecDepth 100000 in
theorem f_125_29 : fe 125 29 = some (.iload_n 2, 1, 9, some .int) := fe_of pg_125 rfl
set_option maxRecDepth 100000 in
theorem f_125_30 : fe 125 30 = some (.invokevirtual 101, 3, 9, some .int) := fe_of pg_125 rfl
set_option maxRecDepth 100000 in
theorem f_125_33 : fe 125 33 = some (.ifCond .eq 12, 3, 9, some .int) := fe_of pg_125 rfl
set_option maxRecDepth 100000 in
theorem f_125_36 : fe 125 36 = some (.aload_n 0, 1, 9, some .int) := fe_of pg_125 rfl
set_option maxRecDepth 100000 in
theorem f_125_37 : fe 125 37 = some (.getfield 9, 3, 9, some .int) := fe_of pg_125 rfl
set_option maxRecDepth 100000 in
theorem f_125_40 : fe 125 40 = some (.iload_n 2, 1, 9, some .int) := fe_of pg_125 rfl
set_option maxRecDepth 100000 in
theorem f_125_41 : fe 125 41 = some (.iaload, 1, 9, some .int) := fe_of pg_125 rfl
set_option maxRecDepth 100000 in
theorem f_125_42 : fe 125 42 = some (.goto 5, 3, 9, some .int) := fe_of pg_125 rfl
set_option maxRecDepth 100000 in
theorem f_125_45 : fe 125 45 = some (.bipush (-2), 2, 9, some .int) := fe_of pg_125 rfl
set_option maxRecDepth 100000 in
theorem f_125_47 : fe 125 47 = some (.ireturn, 1, 9, some .int) := fe_of pg_125 rfl
set_option maxRecDepth 100000 in
theorem f_125_48 : fe 125 48 = some (.aload_n 0, 1, 9, some .int) := fe_of pg_125 rfl
set_option maxRecDepth 100000 in
theorem f_125_49 : fe 125 49 = some (.iload_n 2, 1, 9, some .int) := fe_of pg_125 rfl
set_option maxRecDepth 100000 in
theorem f_125_50 : fe 125 50 = some (.invokevirtual 101, 3, 9, some .int) := fe_of pg_125 rfl
set_option maxRecDepth 100000 in
theorem f_125_53 : fe 125 53 = some (.ifCond .eq 12, 3, 9, some .int) := fe_of pg_125 rfl
set_option maxRecDepth 100000 in
theorem f_125_56 : fe 125 56 = some (.aload_n 0, 1, 9, some .int) := fe_of pg_125 rfl
set_option maxRecDepth 100000 in
theorem f_125_57 : fe 125 57 = some (.getfield 15, 3, 9, some .int) := fe_of pg_125 rfl
set_option maxRecDepth 100000 in
theorem f_125_60 : fe 125 60 = some (.iload_n 2, 1, 9, some .int) := fe_of pg_125 rfl
set_option maxRecDepth 100000 in
theorem f_125_61 : fe 125 61 = some (.iaload, 1, 9, some .int) := fe_of pg_125 rfl
set_option maxRecDepth 100000 in
theorem f_125_62 : fe 125 62 = some (.goto 5, 3, 9, some .int) := fe_of pg_125 rfl
set_option maxRecDepth 100000 in
theorem f_125_65 : fe 125 65 = some (.bipush (-2), 2, 9, some .int) := fe_of pg_125 rfl
set_option maxRecDepth 100000 in
theorem f_125_67 : fe 125 67 = some (.ireturn, 1, 9, some .int) := fe_of pg_125 rfl
set_option maxRecDepth 100000 in
theorem f_125_68 : fe 125 68 = some (.iload_n 2, 1, 9, some .int) := fe_of pg_125 rfl
set_option maxRecDepth 100000 in
theorem f_125_69 : fe 125 69 = some (.aload_n 0, 1, 9, some .int) := fe_of pg_125 rfl
set_option maxRecDepth 100000 in
theorem f_125_70 : fe 125 70 = some (.getfield 21, 3, 9, some .int) := fe_of pg_125 rfl
set_option maxRecDepth 100000 in
theorem f_125_73 : fe 125 73 = some (.getfield 104, 3, 9, some .int) := fe_of pg_125 rfl
set_option maxRecDepth 100000 in
theorem f_125_76 : fe 125 76 = some (.if_icmp .ge 12, 3, 9, some .int) := fe_of pg_125 rfl
set_option maxRecDepth 100000 in
theorem f_125_79 : fe 125 79 = some (.aload_n 0, 1, 9, some .int) := fe_of pg_125 rfl
set_option maxRecDepth 100000 in
theorem f_125_80 : fe 125 80 = some (.getfield 18, 3, 9, some .int) := fe_of pg_125 rfl
set_option maxRecDepth 100000 in
theorem f_125_83 : fe 125 83 = some (.iload_n 2, 1, 9, some .int) := fe_of pg_125 rfl
set_option maxRecDepth 100000 in
theorem f_125_84 : fe 125 84 = some (.iaload, 1, 9, some .int) := fe_of pg_125 rfl
set_option maxRecDepth 100000 in
theorem f_125_85 : fe 125 85 = some (.goto 5, 3, 9, some .int) := fe_of pg_125 rfl
set_option maxRecDepth 100000 in
theorem f_125_88 : fe 125 88 = some (.bipush (-2), 2, 9, some .int) := fe_of pg_125 rfl
set_option maxRecDepth 100000 in
theorem f_125_90 : fe 125 90 = some (.ireturn, 1, 9, some .int) := fe_of pg_125 rfl
set_option maxRecDepth 100000 in
theorem f_125_91 : fe 125 91 = some (.bipush (-2), 2, 9, some .int) := fe_of pg_125 rfl
set_option maxRecDepth 100000 in
theorem f_125_93 : fe 125 93 = some (.ireturn, 1, 9, some .int) := fe_of pg_125 rfl
set_option maxRecDepth 100000 in
theorem f_126_0 : fe 126 0 = some (.iconst 0, 1, 9, some .int) := fe_of pg_126 rfl
set_option maxRecDepth 100000 in
theorem f_126_1 : fe 126 1 = some (.istore_n 1, 1, 9, some .int) := fe_of pg_126 rfl
set_option maxRecDepth 100000 in
theorem f_126_2 : fe 126 2 = some (.iconst 0, 1, 9, some .int) := fe_of pg_126 rfl
set_option maxRecDepth 100000 in
theorem f_126_3 : fe 126 3 = some (.istore_n 2, 1, 9, some .int) := fe_of pg_126 rfl
set_option maxRecDepth 100000 in
theorem f_126_4 : fe 126 4 = some (.iload_n 2, 1, 9, some .int) := fe_of pg_126 rfl
set_option maxRecDepth 100000 in
theorem f_126_5 : fe 126 5 = some (.aload_n 0, 1, 9, some .int) := fe_of pg_126 rfl
set_option maxRecDepth 100000 in
theorem f_126_6 : fe 126 6 = some (.getfield 21, 3, 9, some .int) := fe_of pg_126 rfl
set_option maxRecDepth 100000 in
theorem f_126_9 : fe 126 9 = some (.getfield 98, 3, 9, some .int) := fe_of pg_126 rfl
set_option maxRecDepth 100000 in
theorem f_126_12 : fe 126 12 = some (.if_icmp .ge 34, 3, 9, some .int) := fe_of pg_126 rfl
set_option maxRecDepth 100000 in
theorem f_126_15 : fe 126 15 = some (.aload_n 0, 1, 9, some .int) := fe_of pg_126 rfl
set_option maxRecDepth 100000 in
theorem f_126_16 : fe 126 16 = some (.iload_n 2, 1, 9, some .int) := fe_of pg_126 rfl
set_option maxRecDepth 100000 in
theorem f_126_17 : fe 126 17 = some (.invokevirtual 110, 3, 9, some .int) := fe_of pg_126 rfl
set_option maxRecDepth 100000 in
theorem f_126_20 : fe 126 20 = some (.ifCond .eq 20, 3, 9, some .int) := fe_of pg_126 rfl
set_option maxRecDepth 100000 in
theorem f_126_23 : fe 126 23 = some (.iload_n 1, 1, 9, some .int) := fe_of pg_126 rfl
set_option maxRecDepth 100000 in
theorem f_126_24 : fe 126 24 = some (.aload_n 0, 1, 9, some .int) := fe_of pg_126 rfl
set_option maxRecDepth 100000 in
theorem f_126_25 : fe 126 25 = some (.getfield 21, 3, 9, some .int) := fe_of pg_126 rfl
set_option maxRecDepth 100000 in
theorem f_126_28 : fe 126 28 = some (.iload_n 2, 1, 9, some .int) := fe_of pg_126 rfl
set_option maxRecDepth 100000 in
theorem f_126_29 : fe 126 29 = some (.aload_n 0, 1, 9, some .int) := fe_of pg_126 rfl
set_option maxRecDepth 100000 in
theorem f_126_30 : fe 126 30 = some (.getfield 9, 3, 9, some .int) := fe_of pg_126 rfl
set_option maxRecDepth 100000 in
theorem f_126_33 : fe 126 33 = some (.iload_n 2, 1, 9, some .int) := fe_of pg_126 rfl
set_option maxRecDepth 100000 in
theorem f_126_34 : fe 126 34 = some (.iaload, 1, 9, some .int) := fe_of pg_126 rfl
set_option maxRecDepth 100000 in
theorem f_126_35 : fe 126 35 = some (.invokevirtual 160, 3, 9, some .int) := fe_of pg_126 rfl
set_option maxRecDepth 100000 in
theorem f_126_38 : fe 126 38 = some (.iadd, 1, 9, some .int) := fe_of pg_126 rfl
set_option maxRecDepth 100000 in
theorem f_126_39 : fe 126 39 = some (.istore_n 1, 1, 9, some .int) := fe_of pg_126 rfl
set_option maxRecDepth 100000 in
theorem f_126_40 : fe 126 40 = some (.iinc 2 1, 3, 9, some .int) := fe_of pg_126 rfl
set_option maxRecDepth 100000 in
theorem f_126_43 : fe 126 43 = some (.goto (-39), 3, 9, some .int) := fe_of pg_126 rfl
set_option maxRecDepth 100000 in
theorem f_126_46 : fe 126 46 = some (.iload_n 1, 1, 9, some .int) := fe_of pg_126 rfl
set_option maxRecDepth 100000 in
theorem f_126_47 : fe 126 47 = some (.ireturn, 1, 9, some .int) := fe_of pg_126 rfl
set_option maxRecDepth 100000 in
theorem f_127_0 : fe 127 0 = some (.iconst 0, 1, 9, some .int) := fe_of pg_127 rfl
set_option maxRecDepth 100000 in
theorem f_127_1 : fe 127 1 = some (.istore_n 1, 1, 9, some .int) := fe_of pg_127 rfl
set_option maxRecDepth 100000 in
theorem f_127_2 : fe 127 2 = some (.iconst 0, 1, 9, some .int) := fe_of pg_127 rfl
set_option maxRecDepth 100000 in
theorem f_127_3 : fe 127 3 = some (.istore_n 2, 1, 9, some .int) := fe_of pg_127 rfl
set_option maxRecDepth 100000 in
theorem f_127_4 : fe 127 4 = some (.iload_n 2, 1, 9, some .int) := fe_of pg_127 rfl
set_option maxRecDepth 100000 in
theorem f_127_5 : fe 127 5 = some (.aload_n 0, 1, 9, some .int) := fe_of pg_127 rfl
set_option maxRecDepth 100000 in
theorem f_127_6 : fe 127 6 = some (.getfield 21, 3, 9, some .int) := fe_of pg_127 rfl
set_option maxRecDepth 100000 in
theorem f_127_9 : fe 127 9 = some (.getfield 98, 3, 9, some .int) := fe_of pg_127 rfl
set_option maxRecDepth 100000 in
theorem f_127_12 : fe 127 12 = some (.if_icmp .ge 23, 3, 9, some .int) := fe_of pg_127 rfl
set_option maxRecDepth 100000 in
theorem f_127_15 : fe 127 15 = some (.aload_n 0, 1, 9, some .int) := fe_of pg_127 rfl
set_option maxRecDepth 100000 in
theorem f_127_16 : fe 127 16 = some (.iload_n 2, 1, 9, some .int) := fe_of pg_127 rfl
set_option maxRecDepth 100000 in
theorem f_127_17 : fe 127 17 = some (.invokevirtual 110, 3, 9, some .int) := fe_of pg_127 rfl
set_option maxRecDepth 100000 in
theorem f_127_20 : fe 127 20 = some (.ifCond .eq 9, 3, 9, some .int) := fe_of pg_127 rfl
set_option maxRecDepth 100000 in
theorem f_127_23 : fe 127 23 = some (.iload_n 1, 1, 9, some .int) := fe_of pg_127 rfl
set_option maxRecDepth 100000 in
theorem f_127_24 : fe 127 24 = some (.iconst 1, 1, 9, some .int) := fe_of pg_127 rfl
set_option maxRecDepth 100000 in
theorem f_127_25 : fe 127 25 = some (.iload_n 2, 1, 9, some .int) := fe_of pg_127 rfl
set_option maxRecDepth 100000 in
theorem f_127_26 : fe 127 26 = some (.ishl, 1, 9, some .int) := fe_of pg_127 rfl
set_option maxRecDepth 100000 in
theorem f_127_27 : fe 127 27 = some (.ior, 1, 9, some .int) := fe_of pg_127 rfl
set_option maxRecDepth 100000 in
theorem f_127_28 : fe 127 28 = some (.istore_n 1, 1, 9, some .int) := fe_of pg_127 rfl
set_option maxRecDepth 100000 in
theorem f_127_29 : fe 127 29 = some (.iinc 2 1, 3, 9, some .int) := fe_of pg_127 rfl
set_option maxRecDepth 100000 in
theorem f_127_32 : fe 127 32 = some (.goto (-28), 3, 9, some .int) := fe_of pg_127 rfl
set_option maxRecDepth 100000 in
theorem f_127_35 : fe 127 35 = some (.iload_n 1, 1, 9, some .int) := fe_of pg_127 rfl
set_option maxRecDepth 100000 in
theorem f_127_36 : fe 127 36 = some (.ireturn, 1, 9, some .int) := fe_of pg_127 rfl
set_option maxRecDepth 100000 in
theorem f_128_0 : fe 128 0 = some (.iconst 0, 1, 9, some .int) := fe_of pg_128 rfl
set_option maxRecDepth 100000 in
theorem f_128_1 : fe 128 1 = some (.istore_n 1, 1, 9, some .int) := fe_of pg_128 rfl
set_option maxRecDepth 100000 in
theorem f_128_2 : fe 128 2 = some (.iconst 0, 1, 9, some .int) := fe_of pg_128 rfl
set_option maxRecDepth 100000 in
theorem f_128_3 : fe 128 3 = some (.istore_n 2, 1, 9, some .int) := fe_of pg_128 rfl
set_option maxRecDepth 100000 in
theorem f_128_4 : fe 128 4 = some (.iload_n 2, 1, 9, some .int) := fe_of pg_128 rfl
set_option maxRecDepth 100000 in
theorem f_128_5 : fe 128 5 = some (.aload_n 0, 1, 9, some .int) := fe_of pg_128 rfl
set_option maxRecDepth 100000 in
theorem f_128_6 : fe 128 6 = some (.getfield 21, 3, 9, some .int) := fe_of pg_128 rfl
set_option maxRecDepth 100000 in
theorem f_128_9 : fe 128 9 = some (.getfield 98, 3, 9, some .int) := fe_of pg_128 rfl
set_option maxRecDepth 100000 in
theorem f_128_12 : fe 128 12 = some (.if_icmp .ge 39, 3, 9, some .int) := fe_of pg_128 rfl
set_option maxRecDepth 100000 in
theorem f_128_15 : fe 128 15 = some (.aload_n 0, 1, 9, some .int) := fe_of pg_128 rfl
set_option maxRecDepth 100000 in
theorem f_128_16 : fe 128 16 = some (.iload_n 2, 1, 9, some .int) := fe_of pg_128 rfl
set_option maxRecDepth 100000 in
theorem f_128_17 : fe 128 17 = some (.invokevirtual 110, 3, 9, some .int) := fe_of pg_128 rfl
set_option maxRecDepth 100000 in
theorem f_128_20 : fe 128 20 = some (.ifCond .eq 25, 3, 9, some .int) := fe_of pg_128 rfl
set_option maxRecDepth 100000 in
theorem f_128_23 : fe 128 23 = some (.aload_n 0, 1, 9, some .int) := fe_of pg_128 rfl
set_option maxRecDepth 100000 in
theorem f_128_24 : fe 128 24 = some (.getfield 21, 3, 9, some .int) := fe_of pg_128 rfl
set_option maxRecDepth 100000 in
theorem f_128_27 : fe 128 27 = some (.getfield 163, 3, 9, some .int) := fe_of pg_128 rfl
set_option maxRecDepth 100000 in
theorem f_128_30 : fe 128 30 = some (.iload_n 2, 1, 9, some .int) := fe_of pg_128 rfl
set_option maxRecDepth 100000 in
theorem f_128_31 : fe 128 31 = some (.iaload, 1, 9, some .int) := fe_of pg_128 rfl
set_option maxRecDepth 100000 in
theorem f_128_32 : fe 128 32 = some (.iconst 3, 1, 9, some .int) := fe_of pg_128 rfl
set_option maxRecDepth 100000 in
theorem f_128_33 : fe 128 33 = some (.if_icmp .ne 12, 3, 9, some .int) := fe_of pg_128 rfl
set_option maxRecDepth 100000 in
theorem f_128_36 : fe 128 36 = some (.iload_n 1, 1, 9, some .int) := fe_of pg_128 rfl
set_option maxRecDepth 100000 in
theorem f_128_37 : fe 128 37 = some (.aload_n 0, 1, 9, some .int) := fe_of pg_128 rfl
set_option maxRecDepth 100000 in
theorem f_128_38 : fe 128 38 = some (.getfield 9, 3, 9, some .int) := fe_of pg_128 rfl
set_option maxRecDepth 100000 in
theorem f_128_41 : fe 128 41 = some (.iload_n 2, 1, 9, some .int) := fe_of pg_128 rfl
set_option maxRecDepth 100000 in
theorem f_128_42 : fe 128 42 = some (.iaload, 1, 9, some .int) := fe_of pg_128 rfl
set_option maxRecDepth 100000 in
theorem f_128_43 : fe 128 43 = some (.iadd, 1, 9, some .int) := fe_of pg_128 rfl
set_option maxRecDepth 100000 in
theorem f_128_44 : fe 128 44 = some (.istore_n 1, 1, 9, some .int) := fe_of pg_128 rfl
set_option maxRecDepth 100000 in
theorem f_128_45 : fe 128 45 = some (.iinc 2 1, 3, 9, some .int) := fe_of pg_128 rfl
set_option maxRecDepth 100000 in
theorem f_128_48 : fe 128 48 = some (.goto (-44), 3, 9, some .int) := fe_of pg_128 rfl
set_option maxRecDepth 100000 in
theorem f_128_51 : fe 128 51 = some (.iload_n 1, 1, 9, some .int) := fe_of pg_128 rfl
set_option maxRecDepth 100000 in
theorem f_128_52 : fe 128 52 = some (.ireturn, 1, 9, some .int) := fe_of pg_128 rfl
