set_option maxRecDepth 100000 in
theorem f_232_0 : fe 232 0 = some (.aload_n 0, 1, 12, some .boolean) := fe_of pg_232 rfl
set_option maxRecDepth 100000 in
theorem f_232_1 : fe 232 1 = some (.iload_n 1, 1, 12, some .boolean) := fe_of pg_232 rfl
set_option maxRecDepth 100000 in
theorem f_232_2 : fe 232 2 = some (.putfield 313, 3, 12, some .boolean) := fe_of pg_232 rfl
set_option maxRecDepth 100000 in
theorem f_232_5 : fe 232 5 = some (.aload_n 0, 1, 12, some .boolean) := fe_of pg_232 rfl
set_option maxRecDepth 100000 in
theorem f_232_6 : fe 232 6 = some (.iconst 1, 1, 12, some .boolean) := fe_of pg_232 rfl
set_option maxRecDepth 100000 in
theorem f_232_7 : fe 232 7 = some (.iload_n 1, 1, 12, some .boolean) := fe_of pg_232 rfl
set_option maxRecDepth 100000 in
theorem f_232_8 : fe 232 8 = some (.invokevirtual 281, 3, 12, some .boolean) := fe_of pg_232 rfl
set_option maxRecDepth 100000 in
theorem f_232_11 : fe 232 11 = some (.ireturn, 1, 12, some .boolean) := fe_of pg_232 rfl
set_option maxRecDepth 100000 in
theorem f_233_0 : fe 233 0 = some (.aload_n 0, 1, 12, some .int) := fe_of pg_233 rfl
set_option maxRecDepth 100000 in
theorem f_233_1 : fe 233 1 = some (.iconst 0, 1, 12, some .int) := fe_of pg_233 rfl
set_option maxRecDepth 100000 in
theorem f_233_2 : fe 233 2 = some (.putfield 109, 3, 12, some .int) := fe_of pg_233 rfl
set_option maxRecDepth 100000 in
theorem f_233_5 : fe 233 5 = some (.aload_n 0, 1, 12, some .int) := fe_of pg_233 rfl
set_option maxRecDepth 100000 in
theorem f_233_6 : fe 233 6 = some (.iload_n 1, 1, 12, some .int) := fe_of pg_233 rfl
set_option maxRecDepth 100000 in
theorem f_233_7 : fe 233 7 = some (.invokevirtual 316, 3, 12, some .int) := fe_of pg_233 rfl
set_option maxRecDepth 100000 in
theorem f_233_10 : fe 233 10 = some (.ifCond .ne 6, 3, 12, some .int) := fe_of pg_233 rfl
set_option maxRecDepth 100000 in
theorem f_233_13 : fe 233 13 = some (.bipush (-2), 2, 12, some .int) := fe_of pg_233 rfl
set_option maxRecDepth 100000 in
theorem f_233_15 : fe 233 15 = some (.ireturn, 1, 12, some .int) := fe_of pg_233 rfl
set_option maxRecDepth 100000 in
theorem f_233_16 : fe 233 16 = some (.iload_n 2, 1, 12, some .int) := fe_of pg_233 rfl
set_option maxRecDepth 100000 in
theorem f_233_17 : fe 233 17 = some (.iconst (-1), 1, 12, some .int) := fe_of pg_233 rfl
set_option maxRecDepth 100000 in
theorem f_233_18 : fe 233 18 = some (.if_icmp .ne 17, 3, 12, some .int) := fe_of pg_233 rfl
set_option maxRecDepth 100000 in
theorem f_233_21 : fe 233 21 = some (.iload_n 3, 1, 12, some .int) := fe_of pg_233 rfl
set_option maxRecDepth 100000 in
theorem f_233_22 : fe 233 22 = some (.ifCond .ne 10, 3, 12, some .int) := fe_of pg_233 rfl
set_option maxRecDepth 100000 in
theorem f_233_25 : fe 233 25 = some (.aload_n 0, 1, 12, some .int) := fe_of pg_233 rfl
set_option maxRecDepth 100000 in
theorem f_233_26 : fe 233 26 = some (.invokevirtual 319, 3, 12, some .int) := fe_of pg_233 rfl
set_option maxRecDepth 100000 in
theorem f_233_29 : fe 233 29 = some (.goto 5, 3, 12, some .int) := fe_of pg_233 rfl
set_option maxRecDepth 100000 in
theorem f_233_32 : fe 233 32 = some (.bipush (-2), 2, 12, some .int) := fe_of pg_233 rfl
set_option maxRecDepth 100000 in
theorem f_233_34 : fe 233 34 = some (.ireturn, 1, 12, some .int) := fe_of pg_233 rfl
set_option maxRecDepth 100000 in
theorem f_233_35 : fe 233 35 = some (.iload_n 2, 1, 12, some .int) := fe_of pg_233 rfl
set_option maxRecDepth 100000 in
theorem f_233_36 : fe 233 36 = some (.iconst 0, 1, 12, some .int) := fe_of pg_233 rfl
set_option maxRecDepth 100000 in
theorem f_233_37 : fe 233 37 = some (.aload_n 0, 1, 12, some .int) := fe_of pg_233 rfl
set_option maxRecDepth 100000 in
theorem f_233_38 : fe 233 38 = some (.invokevirtual 319, 3, 12, some .int) := fe_of pg_233 rfl
set_option maxRecDepth 100000 in
theorem f_233_41 : fe 233 41 = some (.iconst 1, 1, 12, some .int) := fe_of pg_233 rfl
set_option maxRecDepth 100000 in
theorem f_233_42 : fe 233 42 = some (.isub, 1, 12, some .int) := fe_of pg_233 rfl
set_option maxRecDepth 100000 in
theorem f_233_43 : fe 233 43 = some (.invokestatic 121, 3, 12, some .int) := fe_of pg_233 rfl
set_option maxRecDepth 100000 in
theorem f_233_46 : fe 233 46 = some (.ifCond .eq 21, 3, 12, some .int) := fe_of pg_233 rfl
set_option maxRecDepth 100000 in
theorem f_233_49 : fe 233 49 = some (.iload_n 3, 1, 12, some .int) := fe_of pg_233 rfl
set_option maxRecDepth 100000 in
theorem f_233_50 : fe 233 50 = some (.iconst 0, 1, 12, some .int) := fe_of pg_233 rfl
set_option maxRecDepth 100000 in
theorem f_233_51 : fe 233 51 = some (.iconst 2, 1, 12, some .int) := fe_of pg_233 rfl
set_option maxRecDepth 100000 in
theorem f_233_52 : fe 233 52 = some (.invokestatic 121, 3, 12, some .int) := fe_of pg_233 rfl
set_option maxRecDepth 100000 in
theorem f_233_55 : fe 233 55 = some (.ifCond .eq 12, 3, 12, some .int) := fe_of pg_233 rfl
set_option maxRecDepth 100000 in
theorem f_233_58 : fe 233 58 = some (.aload_n 0, 1, 12, some .int) := fe_of pg_233 rfl
set_option maxRecDepth 100000 in
theorem f_233_59 : fe 233 59 = some (.iload_n 2, 1, 12, some .int) := fe_of pg_233 rfl
set_option maxRecDepth 100000 in
theorem f_233_60 : fe 233 60 = some (.iload_n 3, 1, 12, some .int) := fe_of pg_233 rfl
set_option maxRecDepth 100000 in
theorem f_233_61 : fe 233 61 = some (.invokevirtual 322, 3, 12, some .int) := fe_of pg_233 rfl
set_option maxRecDepth 100000 in
theorem f_233_64 : fe 233 64 = some (.goto 5, 3, 12, some .int) := fe_of pg_233 rfl
set_option maxRecDepth 100000 in
theorem f_233_67 : fe 233 67 = some (.bipush (-2), 2, 12, some .int) := fe_of pg_233 rfl
set_option maxRecDepth 100000 in
theorem f_233_69 : fe 233 69 = some (.ireturn, 1, 12, some .int) := fe_of pg_233 rfl
set_option maxRecDepth 100000 in
theorem f_234_0 : fe 234 0 = some (.iconst 0, 1, 12, none) := fe_of pg_234 rfl
set_option maxRecDepth 100000 in
theorem f_234_1 : fe 234 1 = some (.istore_n 1, 1, 12, none) := fe_of pg_234 rfl
set_option maxRecDepth 100000 in
theorem f_234_2 : fe 234 2 = some (.iload_n 1, 1, 12, none) := fe_of pg_234 rfl
set_option maxRecDepth 100000 in
theorem f_234_3 : fe 234 3 = some (.bipush 8, 2, 12, none) := fe_of pg_234 rfl
set_option maxRecDepth 100000 in
theorem f_234_5 : fe 234 5 = some (.if_icmp .ge 30, 3, 12, none) := fe_of pg_234 rfl
set_option maxRecDepth 100000 in
theorem f_234_8 : fe 234 8 = some (.aload_n 0, 1, 12, none) := fe_of pg_234 rfl
set_option maxRecDepth 100000 in
theorem f_234_9 : fe 234 9 = some (.getfield 44, 3, 12, none) := fe_of pg_234 rfl
set_option maxRecDepth 100000 in
theorem f_234_12 : fe 234 12 = some (.iload_n 1, 1, 12, none) := fe_of pg_234 rfl
set_option maxRecDepth 100000 in
theorem f_234_13 : fe 234 13 = some (.aload_n 0, 1, 12, none) := fe_of pg_234 rfl
set_option maxRecDepth 100000 in
theorem f_234_14 : fe 234 14 = some (.bipush 19, 2, 12, none) := fe_of pg_234 rfl
set_option maxRecDepth 100000 in
theorem f_234_16 : fe 234 16 = some (.iload_n 1, 1, 12, none) := fe_of pg_234 rfl
set_option maxRecDepth 100000 in
theorem f_234_17 : fe 234 17 = some (.iadd, 1, 12, none) := fe_of pg_234 rfl
set_option maxRecDepth 100000 in
theorem f_234_18 : fe 234 18 = some (.invokevirtual 293, 3, 12, none) := fe_of pg_234 rfl
set_option maxRecDepth 100000 in
theorem f_234_21 : fe 234 21 = some (.iastore, 1, 12, none) := fe_of pg_234 rfl
set_option maxRecDepth 100000 in
theorem f_234_22 : fe 234 22 = some (.aload_n 0, 1, 12, none) := fe_of pg_234 rfl
set_option maxRecDepth 100000 in
theorem f_234_23 : fe 234 23 = some (.getfield 47, 3, 12, none) := fe_of pg_234 rfl
set_option maxRecDepth 100000 in
theorem f_234_26 : fe 234 26 = some (.iload_n 1, 1, 12, none) := fe_of pg_234 rfl
set_option maxRecDepth 100000 in
theorem f_234_27 : fe 234 27 = some (.iconst (-1), 1, 12, none) := fe_of pg_234 rfl
set_option maxRecDepth 100000 in
theorem f_234_28 : fe 234 28 = some (.iastore, 1, 12, none) := fe_of pg_234 rfl
set_option maxRecDepth 100000 in
theorem f_234_29 : fe 234 29 = some (.iinc 1 1, 3, 12, none) := fe_of pg_234 rfl
set_option maxRecDepth 100000 in
theorem f_234_32 : fe 234 32 = some (.goto (-30), 3, 12, none) := fe_of pg_234 rfl
set_option maxRecDepth 100000 in
theorem f_234_35 : fe 234 35 = some (.iconst 0, 1, 12, none) := fe_of pg_234 rfl
set_option maxRecDepth 100000 in
theorem f_234_36 : fe 234 36 = some (.istore_n 1, 1, 12, none) := fe_of pg_234 rfl
set_option maxRecDepth 100000 in
theorem f_234_37 : fe 234 37 = some (.iload_n 1, 1, 12, none) := fe_of pg_234 rfl
set_option maxRecDepth 100000 in
theorem f_234_38 : fe 234 38 = some (.bipush 6, 2, 12, none) := fe_of pg_234 rfl
set_option maxRecDepth 100000 in
theorem f_234_40 : fe 234 40 = some (.if_icmp .ge 16, 3, 12, none) := fe_of pg_234 rfl
set_option maxRecDepth 100000 in
theorem f_234_43 : fe 234 43 = some (.aload_n 0, 1, 12, none) := fe_of pg_234 rfl
set_option maxRecDepth 100000 in
theorem f_234_44 : fe 234 44 = some (.getfield 50, 3, 12, none) := fe_of pg_234 rfl
set_option maxRecDepth 100000 in
theorem f_234_47 : fe 234 47 = some (.iload_n 1, 1, 12, none) := fe_of pg_234 rfl
set_option maxRecDepth 100000 in
theorem f_234_48 : fe 234 48 = some (.iconst (-1), 1, 12, none) := fe_of pg_234 rfl
set_option maxRecDepth 100000 in
theorem f_234_49 : fe 234 49 = some (.iastore, 1, 12, none) := fe_of pg_234 rfl
set_option maxRecDepth 100000 in
theorem f_234_50 : fe 234 50 = some (.iinc 1 1, 3, 12, none) := fe_of pg_234 rfl
set_option maxRecDepth 100000 in
theorem f_234_53 : fe 234 53 = some (.goto (-16), 3, 12, none) := fe_of pg_234 rfl
set_option maxRecDepth 100000 in
theorem f_234_56 : fe 234 56 = some (.aload_n 0, 1, 12, none) := fe_of pg_234 rfl
set_option maxRecDepth 100000 in
theorem f_234_57 : fe 234 57 = some (.iconst 0, 1, 12, none) := fe_of pg_234 rfl
set_option maxRecDepth 100000 in
theorem f_234_58 : fe 234 58 = some (.putfield 325, 3, 12, none) := fe_of pg_234 rfl
set_option maxRecDepth 100000 in
theorem f_234_61 : fe 234 61 = some (.aload_n 0, 1, 12, none) := fe_of pg_234 rfl
set_option maxRecDepth 100000 in
theorem f_234_62 : fe 234 62 = some (.iconst 0, 1, 12, none) := fe_of pg_234 rfl
set_option maxRecDepth 100000 in
theorem f_234_63 : fe 234 63 = some (.putfield 328, 3, 12, none) := fe_of pg_234 rfl
set_option maxRecDepth 100000 in
theorem f_234_66 : fe 234 66 = some (.aload_n 0, 1, 12, none) := fe_of pg_234 rfl
set_option maxRecDepth 100000 in
theorem f_234_67 : fe 234 67 = some (.iconst (-1), 1, 12, none) := fe_of pg_234 rfl
set_option maxRecDepth 100000 in
theorem f_234_68 : fe 234 68 = some (.putfield 331, 3, 12, none) := fe_of pg_234 rfl
set_option maxRecDepth 100000 in
theorem f_234_71 : fe 234 71 = some (.aload_n 0, 1, 12, none) := fe_of pg_234 rfl
set_option maxRecDepth 100000 in
theorem f_234_72 : fe 234 72 = some (.iconst 0, 1, 12, none) := fe_of pg_234 rfl
set_option maxRecDepth 100000 in
theorem f_234_73 : fe 234 73 = some (.putfield 334, 3, 12, none) := fe_of pg_234 rfl
set_option maxRecDepth 100000 in
theorem f_234_76 : fe 234 76 = some (.return_, 1, 12, none) := fe_of pg_234 rfl
set_option maxRecDepth 100000 in
theorem f_235_0 : fe 235 0 = some (.iload_n 1, 1, 12, some .boolean) := fe_of pg_235 rfl
set_option maxRecDepth 100000 in
theorem f_235_1 : fe 235 1 = some (.iconst 0, 1, 12, some .boolean) := fe_of pg_235 rfl
set_option maxRecDepth 100000 in
theorem f_235_2 : fe 235 2 = some (.aload_n 0, 1, 12, some .boolean) := fe_of pg_235 rfl
set_option maxRecDepth 100000 in
theorem f_235_3 : fe 235 3 = some (.getfield 303, 3, 12, some .boolean) := fe_of pg_235 rfl
set_option maxRecDepth 100000 in
theorem f_235_6 : fe 235 6 = some (.iconst 1, 1, 12, some .boolean) := fe_of pg_235 rfl
set_option maxRecDepth 100000 in
theorem f_235_7 : fe 235 7 = some (.isub, 1, 12, some .boolean) := fe_of pg_235 rfl
set_option maxRecDepth 100000 in
theorem f_235_8 : fe 235 8 = some (.invokestatic 121, 3, 12, some .boolean) := fe_of pg_235 rfl
set_option maxRecDepth 100000 in
theorem f_235_11 : fe 235 11 = some (.ifCond .eq 17, 3, 12, some .boolean) := fe_of pg_235 rfl
set_option maxRecDepth 100000 in
theorem f_235_14 : fe 235 14 = some (.aload_n 0, 1, 12, some .boolean) := fe_of pg_235 rfl
set_option maxRecDepth 100000 in
theorem f_235_15 : fe 235 15 = some (.getfield 47, 3, 12, some .boolean) := fe_of pg_235 rfl
set_option maxRecDepth 100000 in
theorem f_235_18 : fe 235 18 = some (.iload_n 1, 1, 12, some .boolean) := fe_of pg_235 rfl
set_option maxRecDepth 100000 in
theorem f_235_19 : fe 235 19 = some (.iaload, 1, 12, some .boolean) := fe_of pg_235 rfl
set_option maxRecDepth 100000 in
theorem f_235_20 : fe 235 20 = some (.iconst (-1), 1, 12, some .boolean) := fe_of pg_235 rfl
set_option maxRecDepth 100000 in
theorem f_235_21 : fe 235 21 = some (.if_icmp .eq 7, 3, 12, some .boolean) := fe_of pg_235 rfl
set_option maxRecDepth 100000 in
theorem f_235_24 : fe 235 24 = some (.iconst 1, 1, 12, some .boolean) := fe_of pg_235 rfl
set_option maxRecDepth 100000 in
theorem f_235_25 : fe 235 25 = some (.goto 4, 3, 12, some .boolean) := fe_of pg_235 rfl
set_option maxRecDepth 100000 in
theorem f_235_28 : fe 235 28 = some (.iconst 0, 1, 12, some .boolean) := fe_of pg_235 rfl
set_option maxRecDepth 100000 in
theorem f_235_29 : fe 235 29 = some (.ireturn, 1, 12, some .boolean) := fe_of pg_235 rfl
set_option maxRecDepth 100000 in
theorem f_236_0 : fe 236 0 = some (.iload_n 1, 1, 12, some .boolean) := fe_of pg_236 rfl
set_option maxRecDepth 100000 in
theorem f_236_1 : fe 236 1 = some (.iconst 0, 1, 12, some .boolean) := fe_of pg_236 rfl
set_option maxRecDepth 100000 in
theorem f_236_2 : fe 236 2 = some (.aload_n 0, 1, 12, some .boolean) := fe_of pg_236 rfl
set_option maxRecDepth 100000 in
theorem f_236_3 : fe 236 3 = some (.getfield 300, 3, 12, some .boolean) := fe_of pg_236 rfl
set_option maxRecDepth 100000 in
theorem f_236_6 : fe 236 6 = some (.iconst 1, 1, 12, some .boolean) := fe_of pg_236 rfl
set_option maxRecDepth 100000 in
theorem f_236_7 : fe 236 7 = some (.isub, 1, 12, some .boolean) := fe_of pg_236 rfl
set_option maxRecDepth 100000 in
theorem f_236_8 : fe 236 8 = some (.invokestatic 121, 3, 12, some .boolean) := fe_of pg_236 rfl
set_option maxRecDepth 100000 in
theorem f_236_11 : fe 236 11 = some (.ifCond .eq 17, 3, 12, some .boolean) := fe_of pg_236 rfl
set_option maxRecDepth 100000 in
theorem f_236_14 : fe 236 14 = some (.aload_n 0, 1, 12, some .boolean) := fe_of pg_236 rfl
set_option maxRecDepth 100000 in
theorem f_236_15 : fe 236 15 = some (.getfield 50, 3, 12, some .boolean) := fe_of pg_236 rfl
set_option maxRecDepth 100000 in
theorem f_236_18 : fe 236 18 = some (.iload_n 1, 1, 12, some .boolean) := fe_of pg_236 rfl
set_option maxRecDepth 100000 in
theorem f_236_19 : fe 236 19 = some (.iaload, 1, 12, some .boolean) := fe_of pg_236 rfl
set_option maxRecDepth 100000 in
theorem f_236_20 : fe 236 20 = some (.iconst (-1), 1, 12, some .boolean) := fe_of pg_236 rfl
set_option maxRecDepth 100000 in
theorem f_236_21 : fe 236 21 = some (.if_icmp .ne 7, 3, 12, some .boolean) := fe_of pg_236 rfl
set_option maxRecDepth 100000 in
theorem f_236_24 : fe 236 24 = some (.iconst 1, 1, 12, some .boolean) := fe_of pg_236 rfl
set_option maxRecDepth 100000 in
theorem f_236_25 : fe 236 25 = some (.goto 4, 3, 12, some .boolean) := fe_of pg_236 rfl
set_option maxRecDepth 100000 in
theorem f_236_28 : fe 236 28 = some (.iconst 0, 1, 12, some .boolean) := fe_of pg_236 rfl
set_option maxRecDepth 100000 in
theorem f_236_29 : fe 236 29 = some (.ireturn, 1, 12, some .boolean) := fe_of pg_236 rfl
set_option maxRecDepth 100000 in
theorem f_237_0 : fe 237 0 = some (.aload_n 0, 1, 12, none) := fe_of pg_237 rfl
set_option maxRecDepth 100000 in
theorem f_237_1 : fe 237 1 = some (.getfield 47, 3, 12, none) := fe_of pg_237 rfl
set_option maxRecDepth 100000 in
theorem f_237_4 : fe 237 4 = some (.iload_n 1, 1, 12, none) := fe_of pg_237 rfl
set_option maxRecDepth 100000 in
theorem f_237_5 : fe 237 5 = some (.iaload, 1, 12, none) := fe_of pg_237 rfl
set_option maxRecDepth 100000 in
theorem f_237_6 : fe 237 6 = some (.iconst (-1), 1, 12, none) := fe_of pg_237 rfl
set_option maxRecDepth 100000 in
theorem f_237_7 : fe 237 7 = some (.if_icmp .eq 15, 3, 12, none) := fe_of pg_237 rfl
set_option maxRecDepth 100000 in
theorem f_237_10 : fe 237 10 = some (.aload_n 0, 1, 12, none) := fe_of pg_237 rfl
set_option maxRecDepth 100000 in
theorem f_237_11 : fe 237 11 = some (.getfield 50, 3, 12, none) := fe_of pg_237 rfl
set_option maxRecDepth 100000 in
theorem f_237_14 : fe 237 14 = some (.aload_n 0, 1, 12, none) := fe_of pg_237 rfl
set_option maxRecDepth 100000 in
theorem f_237_15 : fe 237 15 = some (.getfield 47, 3, 12, none) := fe_of pg_237 rfl
set_option maxRecDepth 100000 in
theorem f_237_18 : fe 237 18 = some (.iload_n 1, 1, 12, none) := fe_of pg_237 rfl
set_option maxRecDepth 100000 in
theorem f_237_19 : fe 237 19 = some (.iaload, 1, 12, none) := fe_of pg_237 rfl
set_option maxRecDepth 100000 in
theorem f_237_20 : fe 237 20 = some (.iconst (-1), 1, 12, none) := fe_of pg_237 rfl
set_option maxRecDepth 100000 in
theorem f_237_21 : fe 237 21 = some (.iastore, 1, 12, none) := fe_of pg_237 rfl
set_option maxRecDepth 100000 in
theorem f_237_22 : fe 237 22 = some (.aload_n 0, 1, 12, none) := fe_of pg_237 rfl
set_option maxRecDepth 100000 in
theorem f_237_23 : fe 237 23 = some (.getfield 47, 3, 12, none) := fe_of pg_237 rfl
set_option maxRecDepth 100000 in
theorem f_237_26 : fe 237 26 = some (.iload_n 1, 1, 12, none) := fe_of pg_237 rfl
set_option maxRecDepth 100000 in
theorem f_237_27 : fe 237 27 = some (.iload_n 2, 1, 12, none) := fe_of pg_237 rfl
set_option maxRecDepth 100000 in
theorem f_237_28 : fe 237 28 = some (.iastore, 1, 12, none) := fe_of pg_237 rfl
set_option maxRecDepth 100000 in
theorem f_237_29 : fe 237 29 = some (.iload_n 2, 1, 12, none) := fe_of pg_237 rfl
set_option maxRecDepth 100000 in
theorem f_237_30 : fe 237 30 = some (.iconst (-1), 1, 12, none) := fe_of pg_237 rfl
set_option maxRecDepth 100000 in
theorem f_237_31 : fe 237 31 = some (.if_icmp .eq 10, 3, 12, none) := fe_of pg_237 rfl
set_option maxRecDepth 100000 in
theorem f_237_34 : fe 237 34 = some (.aload_n 0, 1, 12, none) := fe_of pg_237 rfl
set_option maxRecDepth 100000 in
theorem f_237_35 : fe 237 35 = some (.getfield 50, 3, 12, none) := fe_of pg_237 rfl
set_option maxRecDepth 100000 in
theorem f_237_38 : fe 237 38 = some (.iload_n 2, 1, 12, none) := fe_of pg_237 rfl
set_option maxRecDepth 100000 in
theorem f_237_39 : fe 237 39 = some (.iload_n 1, 1, 12, none) := fe_of pg_237 rfl
set_option maxRecDepth 100000 in
theorem f_237_40 : fe 237 40 = some (.iastore, 1, 12, none) := fe_of pg_237 rfl
set_option maxRecDepth 100000 in
theorem f_237_41 : fe 237 41 = some (.return_, 1, 12, none) := fe_of pg_237 rfl
set_option maxRecDepth 100000 in
theorem f_238_0 : fe 238 0 = some (.iload_n 1, 1, 12, some .boolean) := fe_of pg_238 rfl
set_option maxRecDepth 100000 in
theorem f_238_1 : fe 238 1 = some (.iconst 0, 1, 12, some .boolean) := fe_of pg_238 rfl
set_option maxRecDepth 100000 in
theorem f_238_2 : fe 238 2 = some (.aload_n 0, 1, 12, some .boolean) := fe_of pg_238 rfl
set_option maxRecDepth 100000 in
theorem f_238_3 : fe 238 3 = some (.getfield 303, 3, 12, some .boolean) := fe_of pg_238 rfl
set_option maxRecDepth 100000 in
theorem f_238_6 : fe 238 6 = some (.iconst 1, 1, 12, some .boolean) := fe_of pg_238 rfl
set_option maxRecDepth 100000 in
theorem f_238_7 : fe 238 7 = some (.isub, 1, 12, some .boolean) := fe_of pg_238 rfl
set_option maxRecDepth 100000 in
theorem f_238_8 : fe 238 8 = some (.invokestatic 121, 3, 12, some .boolean) := fe_of pg_238 rfl
set_option maxRecDepth 100000 in
theorem f_238_11 : fe 238 11 = some (.ifCond .eq 19, 3, 12, some .boolean) := fe_of pg_238 rfl
set_option maxRecDepth 100000 in
theorem f_238_14 : fe 238 14 = some (.aload_n 0, 1, 12, some .boolean) := fe_of pg_238 rfl
set_option maxRecDepth 100000 in
theorem f_238_15 : fe 238 15 = some (.iload_n 1, 1, 12, some .boolean) := fe_of pg_238 rfl
set_option maxRecDepth 100000 in
theorem f_238_16 : fe 238 16 = some (.invokevirtual 337, 3, 12, some .boolean) := fe_of pg_238 rfl
set_option maxRecDepth 100000 in
theorem f_238_19 : fe 238 19 = some (.ifCond .ne 11, 3, 12, some .boolean) := fe_of pg_238 rfl
set_option maxRecDepth 100000 in
theorem f_238_22 : fe 238 22 = some (.aload_n 0, 1, 12, some .boolean) := fe_of pg_238 rfl
set_option maxRecDepth 100000 in
theorem f_238_23 : fe 238 23 = some (.iload_n 2, 1, 12, some .boolean) := fe_of pg_238 rfl
set_option maxRecDepth 100000 in
theorem f_238_24 : fe 238 24 = some (.invokevirtual 340, 3, 12, some .boolean) := fe_of pg_238 rfl
set_option maxRecDepth 100000 in
theorem f_238_27 : fe 238 27 = some (.ifCond .ne 5, 3, 12, some .boolean) := fe_of pg_238 rfl
set_option maxRecDepth 100000 in
theorem f_238_30 : fe 238 30 = some (.iconst 0, 1, 12, some .boolean) := fe_of pg_238 rfl
set_option maxRecDepth 100000 in
theorem f_238_31 : fe 238 31 = some (.ireturn, 1, 12, some .boolean) := fe_of pg_238 rfl
set_option maxRecDepth 100000 in
theorem f_238_32 : fe 238 32 = some (.aload_n 0, 1, 12, some .boolean) := fe_of pg_238 rfl
set_option maxRecDepth 100000 in
theorem f_238_33 : fe 238 33 = some (.iload_n 1, 1, 12, some .boolean) := fe_of pg_238 rfl
set_option maxRecDepth 100000 in
theorem f_238_34 : fe 238 34 = some (.iload_n 2, 1, 12, some .boolean) := fe_of pg_238 rfl
set_option maxRecDepth 100000 in
theorem f_238_35 : fe 238 35 = some (.invokevirtual 343, 3, 12, some .boolean) := fe_of pg_238 rfl
set_option maxRecDepth 100000 in
theorem f_238_38 : fe 238 38 = some (.iconst 1, 1, 12, some .boolean) := fe_of pg_238 rfl
set_option maxRecDepth 100000 in
theorem f_238_39 : fe 238 39 = some (.ireturn, 1, 12, some .boolean) := fe_of pg_238 rfl
set_option maxRecDepth 100000 in
theorem f_239_0 : fe 239 0 = some (.aload_n 0, 1, 12, some .boolean) := fe_of pg_239 rfl
set_option maxRecDepth 100000 in
theorem f_239_1 : fe 239 1 = some (.iload_n 1, 1, 12, some .boolean) := fe_of pg_239 rfl
set_option maxRecDepth 100000 in
theorem f_239_2 : fe 239 2 = some (.invokevirtual 337, 3, 12, some .boolean) := fe_of pg_239 rfl
set_option maxRecDepth 100000 in
theorem f_239_5 : fe 239 5 = some (.ifCond .ne 5, 3, 12, some .boolean) := fe_of pg_239 rfl
set_option maxRecDepth 100000 in
theorem f_239_8 : fe 239 8 = some (.iconst 0, 1, 12, some .boolean) := fe_of pg_239 rfl
set_option maxRecDepth 100000 in
theorem f_239_9 : fe 239 9 = some (.ireturn, 1, 12, some .boolean) := fe_of pg_239 rfl
set_option maxRecDepth 100000 in
theorem f_239_10 : fe 239 10 = some (.aload_n 0, 1, 12, some .boolean) := fe_of pg_239 rfl
set_option maxRecDepth 100000 in
theorem f_239_11 : fe 239 11 = some (.iload_n 1, 1, 12, some .boolean) := fe_of pg_239 rfl
set_option maxRecDepth 100000 in
theorem f_239_12 : fe 239 12 = some (.iconst (-1), 1, 12, some .boolean) := fe_of pg_239 rfl
set_option maxRecDepth 100000 in
theorem f_239_13 : fe 239 13 = some (.invokevirtual 343, 3, 12, some .boolean) := fe_of pg_239 rfl
set_option maxRecDepth 100000 in
theorem f_239_16 : fe 239 16 = some (.iconst 1, 1, 12, some .boolean) := fe_of pg_239 rfl
set_option maxRecDepth 100000 in
theorem f_239_17 : fe 239 17 = some (.ireturn, 1, 12, some .boolean) := fe_of pg_239 rfl
set_option maxRecDepth 100000 in
theorem f_240_0 : fe 240 0 = some (.iconst 0, 1, 12, none) := fe_of pg_240 rfl
set_option maxRecDepth 100000 in
theorem f_240_1 : fe 240 1 = some (.istore_n 2, 1, 12, none) := fe_of pg_240 rfl
set_option maxRecDepth 100000 in
theorem f_240_2 : fe 240 2 = some (.iload_n 2, 1, 12, none) := fe_of pg_240 rfl
set_option maxRecDepth 100000 in
theorem f_240_3 : fe 240 3 = some (.aload_n 0, 1, 12, none) := fe_of pg_240 rfl
set_option maxRecDepth 100000 in
theorem f_240_4 : fe 240 4 = some (.getfield 303, 3, 12, none) := fe_of pg_240 rfl
set_option maxRecDepth 100000 in
theorem f_240_7 : fe 240 7 = some (.if_icmp .ge 40, 3, 12, none) := fe_of pg_240 rfl
set_option maxRecDepth 100000 in
theorem f_240_10 : fe 240 10 = some (.aload_n 0, 1, 12, none) := fe_of pg_240 rfl
set_option maxRecDepth 100000 in
theorem f_240_11 : fe 240 11 = some (.iload_n 2, 1, 12, none) := fe_of pg_240 rfl
set_option maxRecDepth 100000 in
theorem f_240_12 : fe 240 12 = some (.invokevirtual 337, 3, 12, none) := fe_of pg_240 rfl
set_option maxRecDepth 100000 in
theorem f_240_15 : fe 240 15 = some (.ifCond .eq 26, 3, 12, none) := fe_of pg_240 rfl
set_option maxRecDepth 100000 in
theorem f_240_18 : fe 240 18 = some (.aload_n 0, 1, 12, none) := fe_of pg_240 rfl
set_option maxRecDepth 100000 in
theorem f_240_19 : fe 240 19 = some (.getfield 44, 3, 12, none) := fe_of pg_240 rfl
set_option maxRecDepth 100000 in
theorem f_240_22 : fe 240 22 = some (.iload_n 2, 1, 12, none) := fe_of pg_240 rfl
set_option maxRecDepth 100000 in
theorem f_240_23 : fe 240 23 = some (.iconst 0, 1, 12, none) := fe_of pg_240 rfl
set_option maxRecDepth 100000 in
theorem f_240_24 : fe 240 24 = some (.bipush 99, 2, 12, none) := fe_of pg_240 rfl
set_option maxRecDepth 100000 in
theorem f_240_26 : fe 240 26 = some (.aload_n 0, 1, 12, none) := fe_of pg_240 rfl
set_option maxRecDepth 100000 in
theorem f_240_27 : fe 240 27 = some (.getfield 44, 3, 12, none) := fe_of pg_240 rfl
set_option maxRecDepth 100000 in
theorem f_240_30 : fe 240 30 = some (.iload_n 2, 1, 12, none) := fe_of pg_240 rfl
set_option maxRecDepth 100000 in
theorem f_240_31 : fe 240 31 = some (.iaload, 1, 12, none) := fe_of pg_240 rfl
set_option maxRecDepth 100000 in
theorem f_240_32 : fe 240 32 = some (.iload_n 1, 1, 12, none) := fe_of pg_240 rfl
set_option maxRecDepth 100000 in
theorem f_240_33 : fe 240 33 = some (.iadd, 1, 12, none) := fe_of pg_240 rfl
set_option maxRecDepth 100000 in
theorem f_240_34 : fe 240 34 = some (.invokestatic 346, 3, 12, none) := fe_of pg_240 rfl
set_option maxRecDepth 100000 in
theorem f_240_37 : fe 240 37 = some (.invokestatic 349, 3, 12, none) := fe_of pg_240 rfl
set_option maxRecDepth 100000 in
theorem f_240_40 : fe 240 40 = some (.iastore, 1, 12, none) := fe_of pg_240 rfl
set_option maxRecDepth 100000 in
theorem f_240_41 : fe 240 41 = some (.iinc 2 1, 3, 12, none) := fe_of pg_240 rfl
set_option maxRecDepth 100000 in
theorem f_240_44 : fe 240 44 = some (.goto (-42), 3, 12, none) := fe_of pg_240 rfl
set_option maxRecDepth 100000 in
theorem f_240_47 : fe 240 47 = some (.return_, 1, 12, none) := fe_of pg_240 rfl
set_option maxRecDepth 100000 in
theorem f_241_0 : fe 241 0 = some (.iconst 0, 1, 12, none) := fe_of pg_241 rfl
set_option maxRecDepth 100000 in
theorem f_241_1 : fe 241 1 = some (.istore_n 1, 1, 12, none) := fe_of pg_241 rfl
set_option maxRecDepth 100000 in
theorem f_241_2 : fe 241 2 = some (.iload_n 1, 1, 12, none) := fe_of pg_241 rfl
set_option maxRecDepth 100000 in
theorem f_241_3 : fe 241 3 = some (.iconst 1, 1, 12, none) := fe_of pg_241 rfl
set_option maxRecDepth 100000 in
theorem f_241_4 : fe 241 4 = some (.iadd, 1, 12, none) := fe_of pg_241 rfl
set_option maxRecDepth 100000 in
theorem f_241_5 : fe 241 5 = some (.aload_n 0, 1, 12, none) := fe_of pg_241 rfl
set_option maxRecDepth 100000 in
theorem f_241_6 : fe 241 6 = some (.getfield 300, 3, 12, none) := fe_of pg_241 rfl
set_option maxRecDepth 100000 in
theorem f_241_9 : fe 241 9 = some (.if_icmp .ge 95, 3, 12, none) := fe_of pg_241 rfl
set_option maxRecDepth 100000 in
theorem f_241_12 : fe 241 12 = some (.aload_n 0, 1, 12, none) := fe_of pg_241 rfl
set_option maxRecDepth 100000 in
theorem f_241_13 : fe 241 13 = some (.getfield 50, 3, 12, none) := fe_of pg_241 rfl
set_option maxRecDepth 100000 in
theorem f_241_16 : fe 241 16 = some (.iload_n 1, 1, 12, none) := fe_of pg_241 rfl
set_option maxRecDepth 100000 in
theorem f_241_17 : fe 241 17 = some (.iaload, 1, 12, none) := fe_of pg_241 rfl
set_option maxRecDepth 100000 in
theorem f_241_18 : fe 241 18 = some (.istore_n 2, 1, 12, none) := fe_of pg_241 rfl
set_option maxRecDepth 100000 in
theorem f_241_19 : fe 241 19 = some (.aload_n 0, 1, 12, none) := fe_of pg_241 rfl
set_option maxRecDepth 100000 in
theorem f_241_20 : fe 241 20 = some (.getfield 50, 3, 12, none) := fe_of pg_241 rfl
set_option maxRecDepth 100000 in
theorem f_241_23 : fe 241 23 = some (.iload_n 1, 1, 12, none) := fe_of pg_241 rfl
set_option maxRecDepth 100000 in
theorem f_241_24 : fe 241 24 = some (.iconst 1, 1, 12, none) := fe_of pg_241 rfl
set_option maxRecDepth 100000 in
theorem f_241_25 : fe 241 25 = some (.iadd, 1, 12, none) := fe_of pg_241 rfl
set_option maxRecDepth 100000 in
theorem f_241_26 : fe 241 26 = some (.iaload, 1, 12, none) := fe_of pg_241 rfl
set_option maxRecDepth 100000 in
theorem f_241_27 : fe 241 27 = some (.istore_n 3, 1, 12, none) := fe_of pg_241 rfl
set_option maxRecDepth 100000 in
theorem f_241_28 : fe 241 28 = some (.iload_n 2, 1, 12, none) := fe_of pg_241 rfl
set_option maxRecDepth 100000 in
theorem f_241_29 : fe 241 29 = some (.iconst (-1), 1, 12, none) := fe_of pg_241 rfl
set_option maxRecDepth 100000 in
theorem f_241_30 : fe 241 30 = some (.if_icmp .eq 68, 3, 12, none) := fe_of pg_241 rfl
set_option maxRecDepth 100000 in
theorem f_241_33 : fe 241 33 = some (.iload_n 3, 1, 12, none) := fe_of pg_241 rfl
set_option maxRecDepth 100000 in
theorem f_241_34 : fe 241 34 = some (.iconst (-1), 1, 12, none) := fe_of pg_241 rfl
set_option maxRecDepth 100000 in
theorem f_241_35 : fe 241 35 = some (.if_icmp .eq 63, 3, 12, none) := fe_of pg_241 rfl
set_option maxRecDepth 100000 in
theorem f_241_38 : fe 241 38 = some (.aload_n 0, 1, 12, none) := fe_of pg_241 rfl
set_option maxRecDepth 100000 in
theorem f_241_39 : fe 241 39 = some (.getfield 44, 3, 12, none) := fe_of pg_241 rfl
set_option maxRecDepth 100000 in
theorem f_241_42 : fe 241 42 = some (.iload_n 2, 1, 12, none) := fe_of pg_241 rfl
set_option maxRecDepth 100000 in
theorem f_241_43 : fe 241 43 = some (.iaload, 1, 12, none) := fe_of pg_241 rfl
set_option maxRecDepth 100000 in
theorem f_241_44 : fe 241 44 = some (.aload_n 0, 1, 12, none) := fe_of pg_241 rfl
set_option maxRecDepth 100000 in
theorem f_241_45 : fe 241 45 = some (.getfield 44, 3, 12, none) := fe_of pg_241 rfl
set_option maxRecDepth 100000 in
theorem f_241_48 : fe 241 48 = some (.iload_n 3, 1, 12, none) := fe_of pg_241 rfl
set_option maxRecDepth 100000 in
theorem f_241_49 : fe 241 49 = some (.iaload, 1, 12, none) := fe_of pg_241 rfl
set_option maxRecDepth 100000 in
theorem f_241_50 : fe 241 50 = some (.isub, 1, 12, none) := fe_of pg_241 rfl
set_option maxRecDepth 100000 in
theorem f_241_51 : fe 241 51 = some (.istore 4, 2, 12, none) := fe_of pg_241 rfl
set_option maxRecDepth 100000 in
theorem f_241_53 : fe 241 53 = some (.iload 4, 2, 12, none) := fe_of pg_241 rfl
set_option maxRecDepth 100000 in
theorem f_241_55 : fe 241 55 = some (.iconst 1, 1, 12, none) := fe_of pg_241 rfl
set_option maxRecDepth 100000 in
theorem f_241_56 : fe 241 56 = some (.if_icmp .le 7, 3, 12, none) := fe_of pg_241 rfl
set_option maxRecDepth 100000 in
theorem f_241_59 : fe 241 59 = some (.iconst 1, 1, 12, none) := fe_of pg_241 rfl
set_option maxRecDepth 100000 in
theorem f_241_60 : fe 241 60 = some (.goto 14, 3, 12, none) := fe_of pg_241 rfl
set_option maxRecDepth 100000 in
theorem f_241_63 : fe 241 63 = some (.iload 4, 2, 12, none) := fe_of pg_241 rfl
set_option maxRecDepth 100000 in
theorem f_241_65 : fe 241 65 = some (.iconst (-1), 1, 12, none) := fe_of pg_241 rfl
set_option maxRecDepth 100000 in
theorem f_241_66 : fe 241 66 = some (.if_icmp .ge 7, 3, 12, none) := fe_of pg_241 rfl
set_option maxRecDepth 100000 in
theorem f_241_69 : fe 241 69 = some (.iconst (-1), 1, 12, none) := fe_of pg_241 rfl
set_option maxRecDepth 100000 in
theorem f_241_70 : fe 241 70 = some (.goto 4, 3, 12, none) := fe_of pg_241 rfl
set_option maxRecDepth 100000 in
theorem f_241_73 : fe 241 73 = some (.iconst 0, 1, 12, none) := fe_of pg_241 rfl
set_option maxRecDepth 100000 in
theorem f_241_74 : fe 241 74 = some (.istore 5, 2, 12, none) := fe_of pg_241 rfl
set_option maxRecDepth 100000 in
theorem f_241_76 : fe 241 76 = some (.aload_n 0, 1, 12, none) := fe_of pg_241 rfl
set_option maxRecDepth 100000 in
theorem f_241_77 : fe 241 77 = some (.getfield 44, 3, 12, none) := fe_of pg_241 rfl
set_option maxRecDepth 100000 in
theorem f_241_80 : fe 241 80 = some (.iload_n 2, 1, 12, none) := fe_of pg_241 rfl
set_option maxRecDepth 100000 in
theorem f_241_81 : fe 241 81 = some (.dup2, 1, 12, none) := fe_of pg_241 rfl
set_option maxRecDepth 100000 in
theorem f_241_82 : fe 241 82 = some (.iaload, 1, 12, none) := fe_of pg_241 rfl
set_option maxRecDepth 100000 in
theorem f_241_83 : fe 241 83 = some (.iload 5, 2, 12, none) := fe_of pg_241 rfl
set_option maxRecDepth 100000 in
theorem f_241_85 : fe 241 85 = some (.isub, 1, 12, none) := fe_of pg_241 rfl
set_option maxRecDepth 100000 in
theorem f_241_86 : fe 241 86 = some (.iastore, 1, 12, none) := fe_of pg_241 rfl
set_option maxRecDepth 100000 in
theorem f_241_87 : fe 241 87 = some (.aload_n 0, 1, 12, none) := fe_of pg_241 rfl
set_option maxRecDepth 100000 in
theorem f_241_88 : fe 241 88 = some (.getfield 44, 3, 12, none) := fe_of pg_241 rfl
set_option maxRecDepth 100000 in
theorem f_241_91 : fe 241 91 = some (.iload_n 3, 1, 12, none) := fe_of pg_241 rfl
set_option maxRecDepth 100000 in
theorem f_241_92 : fe 241 92 = some (.dup2, 1, 12, none) := fe_of pg_241 rfl
set_option maxRecDepth 100000 in
theorem f_241_93 : fe 241 93 = some (.iaload, 1, 12, none) := fe_of pg_241 rfl
set_option maxRecDepth 100000 in
theorem f_241_94 : fe 241 94 = some (.iload 5, 2, 12, none) := fe_of pg_241 rfl
set_option maxRecDepth 100000 in
theorem f_241_96 : fe 241 96 = some (.iadd, 1, 12, none) := fe_of pg_241 rfl
set_option maxRecDepth 100000 in
theorem f_241_97 : fe 241 97 = some (.iastore, 1, 12, none) := fe_of pg_241 rfl
set_option maxRecDepth 100000 in
theorem f_241_98 : fe 241 98 = some (.iinc 1 1, 3, 12, none) := fe_of pg_241 rfl
set_option maxRecDepth 100000 in
theorem f_241_101 : fe 241 101 = some (.goto (-99), 3, 12, none) := fe_of pg_241 rfl
set_option maxRecDepth 100000 in
theorem f_241_104 : fe 241 104 = some (.return_, 1, 12, none) := fe_of pg_241 rfl
set_option maxRecDepth 100000 in
theorem f_242_0 : fe 242 0 = some (.iconst 0, 1, 12, some .int) := fe_of pg_242 rfl
set_option maxRecDepth 100000 in
theorem f_242_1 : fe 242 1 = some (.istore_n 1, 1, 12, some .int) := fe_of pg_242 rfl
set_option maxRecDepth 100000 in
theorem f_242_2 : fe 242 2 = some (.iconst 0, 1, 12, some .int) := fe_of pg_242 rfl
set_option maxRecDepth 100000 in
theorem f_242_3 : fe 242 3 = some (.istore_n 2, 1, 12, some .int) := fe_of pg_242 rfl
set_option maxRecDepth 100000 in
theorem f_242_4 : fe 242 4 = some (.iload_n 2, 1, 12, some .int) := fe_of pg_242 rfl
set_option maxRecDepth 100000 in
theorem f_242_5 : fe 242 5 = some (.aload_n 0, 1, 12, some .int) := fe_of pg_242 rfl
set_option maxRecDepth 100000 in
theorem f_242_6 : fe 242 6 = some (.getfield 303, 3, 12, some .int) := fe_of pg_242 rfl
set_option maxRecDepth 100000 in
theorem f_242_9 : fe 242 9 = some (.if_icmp .ge 35, 3, 12, some .int) := fe_of pg_242 rfl
set_option maxRecDepth 100000 in
theorem f_242_12 : fe 242 12 = some (.iload_n 1, 1, 12, some .int) := fe_of pg_242 rfl
set_option maxRecDepth 100000 in
theorem f_242_13 : fe 242 13 = some (.aload_n 0, 1, 12, some .int) := fe_of pg_242 rfl
set_option maxRecDepth 100000 in
theorem f_242_14 : fe 242 14 = some (.iload_n 2, 1, 12, some .int) := fe_of pg_242 rfl
set_option maxRecDepth 100000 in
theorem f_242_15 : fe 242 15 = some (.invokevirtual 337, 3, 12, some .int) := fe_of pg_242 rfl
set_option maxRecDepth 100000 in
theorem f_242_18 : fe 242 18 = some (.ifCond .eq 17, 3, 12, some .int) := fe_of pg_242 rfl
set_option maxRecDepth 100000 in
theorem f_242_21 : fe 242 21 = some (.aload_n 0, 1, 12, some .int) := fe_of pg_242 rfl
set_option maxRecDepth 100000 in
theorem f_242_22 : fe 242 22 = some (.iload_n 2, 1, 12, some .int) := fe_of pg_242 rfl
set_option maxRecDepth 100000 in
theorem f_242_23 : fe 242 23 = some (.aload_n 0, 1, 12, some .int) := fe_of pg_242 rfl
set_option maxRecDepth 100000 in
theorem f_242_24 : fe 242 24 = some (.getfield 44, 3, 12, some .int) := fe_of pg_242 rfl
set_option maxRecDepth 100000 in
theorem f_242_27 : fe 242 27 = some (.iload_n 2, 1, 12, some .int) := fe_of pg_242 rfl
set_option maxRecDepth 100000 in
theorem f_242_28 : fe 242 28 = some (.iaload, 1, 12, some .int) := fe_of pg_242 rfl
set_option maxRecDepth 100000 in
theorem f_242_29 : fe 242 29 = some (.invokevirtual 309, 3, 12, some .int) := fe_of pg_242 rfl
set_option maxRecDepth 100000 in
theorem f_242_32 : fe 242 32 = some (.goto 4, 3, 12, some .int) := fe_of pg_242 rfl
set_option maxRecDepth 100000 in
theorem f_242_35 : fe 242 35 = some (.iconst 0, 1, 12, some .int) := fe_of pg_242 rfl
set_option maxRecDepth 100000 in
theorem f_242_36 : fe 242 36 = some (.iadd, 1, 12, some .int) := fe_of pg_242 rfl
set_option maxRecDepth 100000 in
theorem f_242_37 : fe 242 37 = some (.istore_n 1, 1, 12, some .int) := fe_of pg_242 rfl
set_option maxRecDepth 100000 in
theorem f_242_38 : fe 242 38 = some (.iinc 2 1, 3, 12, some .int) := fe_of pg_242 rfl
set_option maxRecDepth 100000 in
theorem f_242_41 : fe 242 41 = some (.goto (-37), 3, 12, some .int) := fe_of pg_242 rfl
set_option maxRecDepth 100000 in
theorem f_242_44 : fe 242 44 = some (.iload_n 1, 1, 12, some .int) := fe_of pg_242 rfl
set_option maxRecDepth 100000 in
theorem f_242_45 : fe 242 45 = some (.ireturn, 1, 12, some .int) := fe_of pg_242 rfl
set_option maxRecDepth 100000 in
theorem f_243_0 : fe 243 0 = some (.aload_n 0, 1, 12, some .boolean) := fe_of pg_243 rfl
set_option maxRecDepth 100000 in
theorem f_243_1 : fe 243 1 = some (.getfield 325, 3, 12, some .boolean) := fe_of pg_243 rfl
set_option maxRecDepth 100000 in
theorem f_243_4 : fe 243 4 = some (.aload_n 0, 1, 12, some .boolean) := fe_of pg_243 rfl
set_option maxRecDepth 100000 in
theorem f_243_5 : fe 243 5 = some (.getfield 297, 3, 12, some .boolean) := fe_of pg_243 rfl
set_option maxRecDepth 100000 in
theorem f_243_8 : fe 243 8 = some (.if_icmp .lt 5, 3, 12, some .boolean) := fe_of pg_243 rfl
set_option maxRecDepth 100000 in
theorem f_243_11 : fe 243 11 = some (.iconst 0, 1, 12, some .boolean) := fe_of pg_243 rfl
set_option maxRecDepth 100000 in
theorem f_243_12 : fe 243 12 = some (.ireturn, 1, 12, some .boolean) := fe_of pg_243 rfl
set_option maxRecDepth 100000 in
theorem f_243_13 : fe 243 13 = some (.aload_n 0, 1, 12, some .boolean) := fe_of pg_243 rfl
set_option maxRecDepth 100000 in
theorem f_243_14 : fe 243 14 = some (.invokevirtual 352, 3, 12, some .boolean) := fe_of pg_243 rfl
set_option maxRecDepth 100000 in
theorem f_243_17 : fe 243 17 = some (.aload_n 0, 1, 12, some .boolean) := fe_of pg_243 rfl
set_option maxRecDepth 100000 in
theorem f_243_18 : fe 243 18 = some (.iconst 3, 1, 12, some .boolean) := fe_of pg_243 rfl
set_option maxRecDepth 100000 in
theorem f_243_19 : fe 243 19 = some (.aload_n 0, 1, 12, some .boolean) := fe_of pg_243 rfl
set_option maxRecDepth 100000 in
theorem f_243_20 : fe 243 20 = some (.getfield 325, 3, 12, some .boolean) := fe_of pg_243 rfl
set_option maxRecDepth 100000 in
theorem f_243_23 : fe 243 23 = some (.iadd, 1, 12, some .boolean) := fe_of pg_243 rfl
set_option maxRecDepth 100000 in
theorem f_243_24 : fe 243 24 = some (.invokevirtual 293, 3, 12, some .boolean) := fe_of pg_243 rfl
set_option maxRecDepth 100000 in
theorem f_243_27 : fe 243 27 = some (.if_icmp .ge 37, 3, 12, some .boolean) := fe_of pg_243 rfl
set_option maxRecDepth 100000 in
theorem f_243_30 : fe 243 30 = some (.aload_n 0, 1, 12, some .boolean) := fe_of pg_243 rfl
set_option maxRecDepth 100000 in
theorem f_243_31 : fe 243 31 = some (.aload_n 0, 1, 12, some .boolean) := fe_of pg_243 rfl
set_option maxRecDepth 100000 in
theorem f_243_32 : fe 243 32 = some (.getfield 328, 3, 12, some .boolean) := fe_of pg_243 rfl
set_option maxRecDepth 100000 in
theorem f_243_35 : fe 243 35 = some (.ifCond .ne 10, 3, 12, some .boolean) := fe_of pg_243 rfl
set_option maxRecDepth 100000 in
theorem f_243_38 : fe 243 38 = some (.aload_n 0, 1, 12, some .boolean) := fe_of pg_243 rfl
set_option maxRecDepth 100000 in
theorem f_243_39 : fe 243 39 = some (.getfield 325, 3, 12, some .boolean) := fe_of pg_243 rfl
set_option maxRecDepth 100000 in
theorem f_243_42 : fe 243 42 = some (.goto 7, 3, 12, some .boolean) := fe_of pg_243 rfl
set_option maxRecDepth 100000 in
theorem f_243_45 : fe 243 45 = some (.aload_n 0, 1, 12, some .boolean) := fe_of pg_243 rfl
set_option maxRecDepth 100000 in
theorem f_243_46 : fe 243 46 = some (.getfield 331, 3, 12, some .boolean) := fe_of pg_243 rfl
set_option maxRecDepth 100000 in
theorem f_243_49 : fe 243 49 = some (.putfield 331, 3, 12, some .boolean) := fe_of pg_243 rfl
set_option maxRecDepth 100000 in
theorem f_243_52 : fe 243 52 = some (.aload_n 0, 1, 12, some .boolean) := fe_of pg_243 rfl
set_option maxRecDepth 100000 in
theorem f_243_53 : fe 243 53 = some (.dup, 1, 12, some .boolean) := fe_of pg_243 rfl
set_option maxRecDepth 100000 in
theorem f_243_54 : fe 243 54 = some (.getfield 328, 3, 12, some .boolean) := fe_of pg_243 rfl
set_option maxRecDepth 100000 in
theorem f_243_57 : fe 243 57 = some (.iconst 1, 1, 12, some .boolean) := fe_of pg_243 rfl
set_option maxRecDepth 100000 in
theorem f_243_58 : fe 243 58 = some (.iadd, 1, 12, some .boolean) := fe_of pg_243 rfl
set_option maxRecDepth 100000 in
theorem f_243_59 : fe 243 59 = some (.putfield 328, 3, 12, some .boolean) := fe_of pg_243 rfl
set_option maxRecDepth 100000 in
theorem f_243_62 : fe 243 62 = some (.iconst 1, 1, 12, some .boolean) := fe_of pg_243 rfl
set_option maxRecDepth 100000 in
theorem f_243_63 : fe 243 63 = some (.ireturn, 1, 12, some .boolean) := fe_of pg_243 rfl
set_option maxRecDepth 100000 in
theorem f_243_64 : fe 243 64 = some (.aload_n 0, 1, 12, some .boolean) := fe_of pg_243 rfl
set_option maxRecDepth 100000 in
theorem f_243_65 : fe 243 65 = some (.dup, 1, 12, some .boolean) := fe_of pg_243 rfl
set_option maxRecDepth 100000 in
theorem f_243_66 : fe 243 66 = some (.getfield 325, 3, 12, some .boolean) := fe_of pg_243 rfl
set_option maxRecDepth 100000 in
theorem f_243_69 : fe 243 69 = some (.iconst 1, 1, 12, some .boolean) := fe_of pg_243 rfl
set_option maxRecDepth 100000 in
theorem f_243_70 : fe 243 70 = some (.iadd, 1, 12, some .boolean) := fe_of pg_243 rfl
set_option maxRecDepth 100000 in
theorem f_243_71 : fe 243 71 = some (.putfield 325, 3, 12, some .boolean) := fe_of pg_243 rfl
set_option maxRecDepth 100000 in
theorem f_243_74 : fe 243 74 = some (.aload_n 0, 1, 12, some .boolean) := fe_of pg_243 rfl
set_option maxRecDepth 100000 in
theorem f_243_75 : fe 243 75 = some (.dup, 1, 12, some .boolean) := fe_of pg_243 rfl
set_option maxRecDepth 100000 in
theorem f_243_76 : fe 243 76 = some (.getfield 334, 3, 12, some .boolean) := fe_of pg_243 rfl
set_option maxRecDepth 100000 in
theorem f_243_79 : fe 243 79 = some (.iconst 1, 1, 12, some .boolean) := fe_of pg_243 rfl
set_option maxRecDepth 100000 in
theorem f_243_80 : fe 243 80 = some (.iadd, 1, 12, some .boolean) := fe_of pg_243 rfl
set_option maxRecDepth 100000 in
theorem f_243_81 : fe 243 81 = some (.putfield 334, 3, 12, some .boolean) := fe_of pg_243 rfl
set_option maxRecDepth 100000 in
theorem f_243_84 : fe 243 84 = some (.iconst 0, 1, 12, some .boolean) := fe_of pg_243 rfl
set_option maxRecDepth 100000 in
theorem f_243_85 : fe 243 85 = some (.istore_n 1, 1, 12, some .boolean) := fe_of pg_243 rfl
set_option maxRecDepth 100000 in
theorem f_243_86 : fe 243 86 = some (.iload_n 1, 1, 12, some .boolean) := fe_of pg_243 rfl
set_option maxRecDepth 100000 in
theorem f_243_87 : fe 243 87 = some (.aload_n 0, 1, 12, some .boolean) := fe_of pg_243 rfl
set_option maxRecDepth 100000 in
theorem f_243_88 : fe 243 88 = some (.getfield 303, 3, 12, some .boolean) := fe_of pg_243 rfl
set_option maxRecDepth 100000 in
theorem f_243_91 : fe 243 91 = some (.if_icmp .ge 48, 3, 12, some .boolean) := fe_of pg_243 rfl
set_option maxRecDepth 100000 in
theorem f_243_94 : fe 243 94 = some (.aload_n 0, 1, 12, some .boolean) := fe_of pg_243 rfl
set_option maxRecDepth 100000 in
theorem f_243_95 : fe 243 95 = some (.getfield 44, 3, 12, some .boolean) := fe_of pg_243 rfl
set_option maxRecDepth 100000 in
theorem f_243_98 : fe 243 98 = some (.iload_n 1, 1, 12, some .boolean) := fe_of pg_243 rfl
set_option maxRecDepth 100000 in
theorem f_243_99 : fe 243 99 = some (.aload_n 0, 1, 12, some .boolean) := fe_of pg_243 rfl
set_option maxRecDepth 100000 in
theorem f_243_100 : fe 243 100 = some (.iload_n 1, 1, 12, some .boolean) := fe_of pg_243 rfl
set_option maxRecDepth 100000 in
theorem f_243_101 : fe 243 101 = some (.invokevirtual 337, 3, 12, some .boolean) := fe_of pg_243 rfl
set_option maxRecDepth 100000 in
theorem f_243_104 : fe 243 104 = some (.ifCond .eq 22, 3, 12, some .boolean) := fe_of pg_243 rfl
set_option maxRecDepth 100000 in
theorem f_243_107 : fe 243 107 = some (.iconst 0, 1, 12, some .boolean) := fe_of pg_243 rfl
set_option maxRecDepth 100000 in
theorem f_243_108 : fe 243 108 = some (.aload_n 0, 1, 12, some .boolean) := fe_of pg_243 rfl
set_option maxRecDepth 100000 in
theorem f_243_109 : fe 243 109 = some (.getfield 44, 3, 12, some .boolean) := fe_of pg_243 rfl
set_option maxRecDepth 100000 in
theorem f_243_112 : fe 243 112 = some (.iload_n 1, 1, 12, some .boolean) := fe_of pg_243 rfl
set_option maxRecDepth 100000 in
theorem f_243_113 : fe 243 113 = some (.iaload, 1, 12, some .boolean) := fe_of pg_243 rfl
set_option maxRecDepth 100000 in
theorem f_243_114 : fe 243 114 = some (.aload_n 0, 1, 12, some .boolean) := fe_of pg_243 rfl
set_option maxRecDepth 100000 in
theorem f_243_115 : fe 243 115 = some (.iload_n 1, 1, 12, some .boolean) := fe_of pg_243 rfl
set_option maxRecDepth 100000 in
theorem f_243_116 : fe 243 116 = some (.invokevirtual 355, 3, 12, some .boolean) := fe_of pg_243 rfl
set_option maxRecDepth 100000 in
theorem f_243_119 : fe 243 119 = some (.isub, 1, 12, some .boolean) := fe_of pg_243 rfl
set_option maxRecDepth 100000 in
theorem f_243_120 : fe 243 120 = some (.invokestatic 349, 3, 12, some .boolean) := fe_of pg_243 rfl
set_option maxRecDepth 100000 in
theorem f_243_123 : fe 243 123 = some (.goto 9, 3, 12, some .boolean) := fe_of pg_243 rfl
set_option maxRecDepth 100000 in
theorem f_243_126 : fe 243 126 = some (.aload_n 0, 1, 12, some .boolean) := fe_of pg_243 rfl
set_option maxRecDepth 100000 in
theorem f_243_127 : fe 243 127 = some (.getfield 44, 3, 12, some .boolean) := fe_of pg_243 rfl
set_option maxRecDepth 100000 in
theorem f_243_130 : fe 243 130 = some (.iload_n 1, 1, 12, some .boolean) := fe_of pg_243 rfl
set_option maxRecDepth 100000 in
theorem f_243_131 : fe 243 131 = some (.iaload, 1, 12, some .boolean) := fe_of pg_243 rfl
set_option maxRecDepth 100000 in
theorem f_243_132 : fe 243 132 = some (.iastore, 1, 12, some .boolean) := fe_of pg_243 rfl
set_option maxRecDepth 100000 in
theorem f_243_133 : fe 243 133 = some (.iinc 1 1, 3, 12, some .boolean) := fe_of pg_243 rfl
set_option maxRecDepth 100000 in
theorem f_243_136 : fe 243 136 = some (.goto (-50), 3, 12, some .boolean) := fe_of pg_243 rfl
set_option maxRecDepth 100000 in
theorem f_243_139 : fe 243 139 = some (.iconst 1, 1, 12, some .boolean) := fe_of pg_243 rfl
set_option maxRecDepth 100000 in
theorem f_243_140 : fe 243 140 = some (.ireturn, 1, 12, some .boolean) := fe_of pg_243 rfl
set_option maxRecDepth 100000 in
theorem f_244_0 : fe 244 0 = some (.aload_n 0, 1, 12, some .boolean) := fe_of pg_244 rfl
set_option maxRecDepth 100000 in
theorem f_244_1 : fe 244 1 = some (.getfield 325, 3, 12, some .boolean) := fe_of pg_244 rfl
set_option maxRecDepth 100000 in
theorem f_244_4 : fe 244 4 = some (.ifCond .ne 5, 3, 12, some .boolean) := fe_of pg_244 rfl
set_option maxRecDepth 100000 in
theorem f_244_7 : fe 244 7 = some (.iconst 0, 1, 12, some .boolean) := fe_of pg_244 rfl
set_option maxRecDepth 100000 in
theorem f_244_8 : fe 244 8 = some (.ireturn, 1, 12, some .boolean) := fe_of pg_244 rfl
set_option maxRecDepth 100000 in
theorem f_244_9 : fe 244 9 = some (.aload_n 0, 1, 12, some .boolean) := fe_of pg_244 rfl
set_option maxRecDepth 100000 in
theorem f_244_10 : fe 244 10 = some (.iconst 0, 1, 12, some .boolean) := fe_of pg_244 rfl
set_option maxRecDepth 100000 in
theorem f_244_11 : fe 244 11 = some (.putfield 325, 3, 12, some .boolean) := fe_of pg_244 rfl
set_option maxRecDepth 100000 in
theorem f_244_14 : fe 244 14 = some (.iconst 1, 1, 12, some .boolean) := fe_of pg_244 rfl
set_option maxRecDepth 100000 in
theorem f_244_15 : fe 244 15 = some (.ireturn, 1, 12, some .boolean) := fe_of pg_244 rfl
set_option maxRecDepth 100000 in
theorem f_245_0 : fe 245 0 = some (.aload_n 0, 1, 12, some .boolean) := fe_of pg_245 rfl
set_option maxRecDepth 100000 in
theorem f_245_1 : fe 245 1 = some (.iload_n 1, 1, 12, some .boolean) := fe_of pg_245 rfl
set_option maxRecDepth 100000 in
theorem f_245_2 : fe 245 2 = some (.iconst 1, 1, 12, some .boolean) := fe_of pg_245 rfl
set_option maxRecDepth 100000 in
theorem f_245_3 : fe 245 3 = some (.invokevirtual 322, 3, 12, some .boolean) := fe_of pg_245 rfl
set_option maxRecDepth 100000 in
theorem f_245_6 : fe 245 6 = some (.istore_n 2, 1, 12, some .boolean) := fe_of pg_245 rfl
set_option maxRecDepth 100000 in
theorem f_245_7 : fe 245 7 = some (.aload_n 0, 1, 12, some .boolean) := fe_of pg_245 rfl
set_option maxRecDepth 100000 in
theorem f_245_8 : fe 245 8 = some (.iload_n 1, 1, 12, some .boolean) := fe_of pg_245 rfl
set_option maxRecDepth 100000 in
theorem f_245_9 : fe 245 9 = some (.iconst 2, 1, 12, some .boolean) := fe_of pg_245 rfl
set_option maxRecDepth 100000 in
theorem f_245_10 : fe 245 10 = some (.invokevirtual 322, 3, 12, some .boolean) := fe_of pg_245 rfl
set_option maxRecDepth 100000 in
theorem f_245_13 : fe 245 13 = some (.istore_n 3, 1, 12, some .boolean) := fe_of pg_245 rfl
set_option maxRecDepth 100000 in
theorem f_245_14 : fe 245 14 = some (.aload_n 0, 1, 12, some .boolean) := fe_of pg_245 rfl
set_option maxRecDepth 100000 in
theorem f_245_15 : fe 245 15 = some (.iload_n 1, 1, 12, some .boolean) := fe_of pg_245 rfl
set_option maxRecDepth 100000 in
theorem f_245_16 : fe 245 16 = some (.iconst 0, 1, 12, some .boolean) := fe_of pg_245 rfl
set_option maxRecDepth 100000 in
theorem f_245_17 : fe 245 17 = some (.invokevirtual 322, 3, 12, some .boolean) := fe_of pg_245 rfl
set_option maxRecDepth 100000 in
theorem f_245_20 : fe 245 20 = some (.tableswitch 109 0 6 #[44, 51, 77, 83, 90, 98, 103], 44, 12, some .boolean) := fe_of pg_245 rfl
set_option maxRecDepth 100000 in
theorem f_245_64 : fe 245 64 = some (.aload_n 0, 1, 12, some .boolean) := fe_of pg_245 rfl
set_option maxRecDepth 100000 in
theorem f_245_65 : fe 245 65 = some (.iload_n 2, 1, 12, some .boolean) := fe_of pg_245 rfl
set_option maxRecDepth 100000 in
theorem f_245_66 : fe 245 66 = some (.iload_n 3, 1, 12, some .boolean) := fe_of pg_245 rfl
set_option maxRecDepth 100000 in
theorem f_245_67 : fe 245 67 = some (.invokevirtual 358, 3, 12, some .boolean) := fe_of pg_245 rfl
set_option maxRecDepth 100000 in
theorem f_245_70 : fe 245 70 = some (.ireturn, 1, 12, some .boolean) := fe_of pg_245 rfl
set_option maxRecDepth 100000 in
theorem f_245_71 : fe 245 71 = some (.aload_n 0, 1, 12, some .boolean) := fe_of pg_245 rfl
set_option maxRecDepth 100000 in
theorem f_245_72 : fe 245 72 = some (.iload_n 2, 1, 12, some .boolean) := fe_of pg_245 rfl
set_option maxRecDepth 100000 in
theorem f_245_73 : fe 245 73 = some (.invokevirtual 337, 3, 12, some .boolean) := fe_of pg_245 rfl
set_option maxRecDepth 100000 in
theorem f_245_76 : fe 245 76 = some (.ifCond .eq 11, 3, 12, some .boolean) := fe_of pg_245 rfl
set_option maxRecDepth 100000 in
theorem f_245_79 : fe 245 79 = some (.aload_n 0, 1, 12, some .boolean) := fe_of pg_245 rfl
set_option maxRecDepth 100000 in
theorem f_245_80 : fe 245 80 = some (.iload_n 3, 1, 12, some .boolean) := fe_of pg_245 rfl
set_option maxRecDepth 100000 in
theorem f_245_81 : fe 245 81 = some (.invokevirtual 340, 3, 12, some .boolean) := fe_of pg_245 rfl
set_option maxRecDepth 100000 in
theorem f_245_84 : fe 245 84 = some (.ifCond .ne 5, 3, 12, some .boolean) := fe_of pg_245 rfl
set_option maxRecDepth 100000 in
theorem f_245_87 : fe 245 87 = some (.iconst 0, 1, 12, some .boolean) := fe_of pg_245 rfl
set_option maxRecDepth 100000 in
theorem f_245_88 : fe 245 88 = some (.ireturn, 1, 12, some .boolean) := fe_of pg_245 rfl
set_option maxRecDepth 100000 in
theorem f_245_89 : fe 245 89 = some (.aload_n 0, 1, 12, some .boolean) := fe_of pg_245 rfl
set_option maxRecDepth 100000 in
theorem f_245_90 : fe 245 90 = some (.iload_n 2, 1, 12, some .boolean) := fe_of pg_245 rfl
set_option maxRecDepth 100000 in
theorem f_245_91 : fe 245 91 = some (.iload_n 3, 1, 12, some .boolean) := fe_of pg_245 rfl
set_option maxRecDepth 100000 in
theorem f_245_92 : fe 245 92 = some (.invokevirtual 343, 3, 12, some .boolean) := fe_of pg_245 rfl
set_option maxRecDepth 100000 in
theorem f_245_95 : fe 245 95 = some (.iconst 1, 1, 12, some .boolean) := fe_of pg_245 rfl
set_option maxRecDepth 100000 in
theorem f_245_96 : fe 245 96 = some (.ireturn, 1, 12, some .boolean) := fe_of pg_245 rfl
set_option maxRecDepth 100000 in
theorem f_245_97 : fe 245 97 = some (.aload_n 0, 1, 12, some .boolean) := fe_of pg_245 rfl
set_option maxRecDepth 100000 in
theorem f_245_98 : fe 245 98 = some (.iload_n 2, 1, 12, some .boolean) := fe_of pg_245 rfl
set_option maxRecDepth 100000 in
theorem f_245_99 : fe 245 99 = some (.invokevirtual 361, 3, 12, some .boolean) := fe_of pg_245 rfl
set_option maxRecDepth 100000 in
theorem f_245_102 : fe 245 102 = some (.ireturn, 1, 12, some .boolean) := fe_of pg_245 rfl
set_option maxRecDepth 100000 in
theorem f_245_103 : fe 245 103 = some (.aload_n 0, 1, 12, some .boolean) := fe_of pg_245 rfl
set_option maxRecDepth 100000 in
theorem f_245_104 : fe 245 104 = some (.iload_n 2, 1, 12, some .boolean) := fe_of pg_245 rfl
set_option maxRecDepth 100000 in
theorem f_245_105 : fe 245 105 = some (.invokevirtual 364, 3, 12, some .boolean) := fe_of pg_245 rfl
set_option maxRecDepth 100000 in
theorem f_245_108 : fe 245 108 = some (.iconst 1, 1, 12, some .boolean) := fe_of pg_245 rfl
set_option maxRecDepth 100000 in
theorem f_245_109 : fe 245 109 = some (.ireturn, 1, 12, some .boolean) := fe_of pg_245 rfl
set_option maxRecDepth 100000 in
theorem f_245_110 : fe 245 110 = some (.aload_n 0, 1, 12, some .boolean) := fe_of pg_245 rfl
set_option maxRecDepth 100000 in
theorem f_245_111 : fe 245 111 = some (.iload_n 2, 1, 12, some .boolean) := fe_of pg_245 rfl
set_option maxRecDepth 100000 in
theorem f_245_112 : fe 245 112 = some (.ineg, 1, 12, some .boolean) := fe_of pg_245 rfl
set_option maxRecDepth 100000 in
theorem f_245_113 : fe 245 113 = some (.invokevirtual 364, 3, 12, some .boolean) := fe_of pg_245 rfl
set_option maxRecDepth 100000 in
theorem f_245_116 : fe 245 116 = some (.iconst 1, 1, 12, some .boolean) := fe_of pg_245 rfl
set_option maxRecDepth 100000 in
theorem f_245_117 : fe 245 117 = some (.ireturn, 1, 12, some .boolean) := fe_of pg_245 rfl
set_option maxRecDepth 100000 in
theorem f_245_118 : fe 245 118 = some (.aload_n 0, 1, 12, some .boolean) := fe_of pg_245 rfl
set_option maxRecDepth 100000 in
theorem f_245_119 : fe 245 119 = some (.invokevirtual 367, 3, 12, some .boolean) := fe_of pg_245 rfl
set_option maxRecDepth 100000 in
theorem f_245_122 : fe 245 122 = some (.ireturn, 1, 12, some .boolean) := fe_of pg_245 rfl
set_option maxRecDepth 100000 in
theorem f_245_123 : fe 245 123 = some (.aload_n 0, 1, 12, some .boolean) := fe_of pg_245 rfl
set_option maxRecDepth 100000 in
theorem f_245_124 : fe 245 124 = some (.invokevirtual 370, 3, 12, some .boolean) := fe_of pg_245 rfl
set_option maxRecDepth 100000 in
theorem f_245_127 : fe 245 127 = some (.iconst 1, 1, 12, some .boolean) := fe_of pg_245 rfl
set_option maxRecDepth 100000 in
theorem f_245_128 : fe 245 128 = some (.ireturn, 1, 12, some .boolean) := fe_of pg_245 rfl
set_option maxRecDepth 100000 in
theorem f_245_129 : fe 245 129 = some (.aload_n 0, 1, 12, some .boolean) := fe_of pg_245 rfl
set_option maxRecDepth 100000 in
theorem f_245_130 : fe 245 130 = some (.invokevirtual 373, 3, 12, some .boolean) := fe_of pg_245 rfl
set_option maxRecDepth 100000 in
theorem f_245_133 : fe 245 133 = some (.ireturn, 1, 12, some .boolean) := fe_of pg_245 rfl
set_option maxRecDepth 100000 in
theorem f_246_0 : fe 246 0 = some (.aload_n 0, 1, 12, some .int) := fe_of pg_246 rfl
set_option maxRecDepth 100000 in
theorem f_246_1 : fe 246 1 = some (.invokevirtual 376, 3, 12, some .int) := fe_of pg_246 rfl
set_option maxRecDepth 100000 in
theorem f_246_4 : fe 246 4 = some (.iconst 0, 1, 12, some .int) := fe_of pg_246 rfl
set_option maxRecDepth 100000 in
theorem f_246_5 : fe 246 5 = some (.istore_n 2, 1, 12, some .int) := fe_of pg_246 rfl
set_option maxRecDepth 100000 in
theorem f_246_6 : fe 246 6 = some (.iload_n 2, 1, 12, some .int) := fe_of pg_246 rfl
set_option maxRecDepth 100000 in
theorem f_246_7 : fe 246 7 = some (.iload_n 1, 1, 12, some .int) := fe_of pg_246 rfl
set_option maxRecDepth 100000 in
theorem f_246_8 : fe 246 8 = some (.if_icmp .ge 17, 3, 12, some .int) := fe_of pg_246 rfl
set_option maxRecDepth 100000 in
theorem f_246_11 : fe 246 11 = some (.aload_n 0, 1, 12, some .int) := fe_of pg_246 rfl
set_option maxRecDepth 100000 in
theorem f_246_12 : fe 246 12 = some (.iload_n 2, 1, 12, some .int) := fe_of pg_246 rfl
set_option maxRecDepth 100000 in
theorem f_246_13 : fe 246 13 = some (.invokevirtual 379, 3, 12, some .int) := fe_of pg_246 rfl
set_option maxRecDepth 100000 in
theorem f_246_16 : fe 246 16 = some (.ifCond .eq 9, 3, 12, some .int) := fe_of pg_246 rfl
set_option maxRecDepth 100000 in
theorem f_246_19 : fe 246 19 = some (.iinc 2 1, 3, 12, some .int) := fe_of pg_246 rfl
set_option maxRecDepth 100000 in
theorem f_246_22 : fe 246 22 = some (.goto (-16), 3, 12, some .int) := fe_of pg_246 rfl
set_option maxRecDepth 100000 in
theorem f_246_25 : fe 246 25 = some (.iload_n 2, 1, 12, some .int) := fe_of pg_246 rfl
set_option maxRecDepth 100000 in
theorem f_246_26 : fe 246 26 = some (.ireturn, 1, 12, some .int) := fe_of pg_246 rfl
set_option maxRecDepth 100000 in
theorem f_247_0 : fe 247 0 = some (.aload_n 0, 1, 12, some .boolean) := fe_of pg_247 rfl
set_option maxRecDepth 100000 in
theorem f_247_1 : fe 247 1 = some (.iload_n 2, 1, 12, some .boolean) := fe_of pg_247 rfl
set_option maxRecDepth 100000 in
theorem f_247_2 : fe 247 2 = some (.invokevirtual 316, 3, 12, some .boolean) := fe_of pg_247 rfl
set_option maxRecDepth 100000 in
theorem f_247_5 : fe 247 5 = some (.ifCond .eq 15, 3, 12, some .boolean) := fe_of pg_247 rfl
set_option maxRecDepth 100000 in
theorem f_247_8 : fe 247 8 = some (.aload_n 0, 1, 12, some .boolean) := fe_of pg_247 rfl
set_option maxRecDepth 100000 in
theorem f_247_9 : fe 247 9 = some (.iload_n 1, 1, 12, some .boolean) := fe_of pg_247 rfl
set_option maxRecDepth 100000 in
theorem f_247_10 : fe 247 10 = some (.invokevirtual 306, 3, 12, some .boolean) := fe_of pg_247 rfl
set_option maxRecDepth 100000 in
theorem f_247_13 : fe 247 13 = some (.ifCond .eq 7, 3, 12, some .boolean) := fe_of pg_247 rfl
set_option maxRecDepth 100000 in
theorem f_247_16 : fe 247 16 = some (.iconst 1, 1, 12, some .boolean) := fe_of pg_247 rfl
set_option maxRecDepth 100000 in
theorem f_247_17 : fe 247 17 = some (.goto 4, 3, 12, some .boolean) := fe_of pg_247 rfl
set_option maxRecDepth 100000 in
theorem f_247_20 : fe 247 20 = some (.iconst 0, 1, 12, some .boolean) := fe_of pg_247 rfl
set_option maxRecDepth 100000 in
theorem f_247_21 : fe 247 21 = some (.ireturn, 1, 12, some .boolean) := fe_of pg_247 rfl
set_option maxRecDepth 100000 in
theorem f_248_0 : fe 248 0 = some (.aload_n 0, 1, 12, some .int) := fe_of pg_248 rfl
set_option maxRecDepth 100000 in
theorem f_248_1 : fe 248 1 = some (.iconst 0, 1, 12, some .int) := fe_of pg_248 rfl
set_option maxRecDepth 100000 in
theorem f_248_2 : fe 248 2 = some (.putfield 109, 3, 12, some .int) := fe_of pg_248 rfl
set_option maxRecDepth 100000 in
theorem f_248_5 : fe 248 5 = some (.aload_n 0, 1, 12, some .int) := fe_of pg_248 rfl
set_option maxRecDepth 100000 in
theorem f_248_6 : fe 248 6 = some (.iload_n 1, 1, 12, some .int) := fe_of pg_248 rfl
set_option maxRecDepth 100000 in
theorem f_248_7 : fe 248 7 = some (.iload_n 2, 1, 12, some .int) := fe_of pg_248 rfl
set_option maxRecDepth 100000 in
theorem f_248_8 : fe 248 8 = some (.invokevirtual 382, 3, 12, some .int) := fe_of pg_248 rfl
set_option maxRecDepth 100000 in
theorem f_248_11 : fe 248 11 = some (.ifCond .eq 14, 3, 12, some .int) := fe_of pg_248 rfl
set_option maxRecDepth 100000 in
theorem f_248_14 : fe 248 14 = some (.aload_n 0, 1, 12, some .int) := fe_of pg_248 rfl
set_option maxRecDepth 100000 in
theorem f_248_15 : fe 248 15 = some (.aload_n 0, 1, 12, some .int) := fe_of pg_248 rfl
set_option maxRecDepth 100000 in
theorem f_248_16 : fe 248 16 = some (.invokevirtual 319, 3, 12, some .int) := fe_of pg_248 rfl
set_option maxRecDepth 100000 in
theorem f_248_19 : fe 248 19 = some (.invokevirtual 385, 3, 12, some .int) := fe_of pg_248 rfl
set_option maxRecDepth 100000 in
theorem f_248_22 : fe 248 22 = some (.goto 4, 3, 12, some .int) := fe_of pg_248 rfl
set_option maxRecDepth 100000 in
theorem f_248_25 : fe 248 25 = some (.iconst (-1), 1, 12, some .int) := fe_of pg_248 rfl
set_option maxRecDepth 100000 in
theorem f_248_26 : fe 248 26 = some (.ireturn, 1, 12, some .int) := fe_of pg_248 rfl
set_option maxRecDepth 100000 in
theorem f_249_0 : fe 249 0 = some (.iload_n 1, 1, 12, some .int) := fe_of pg_249 rfl
set_option maxRecDepth 100000 in
theorem f_249_1 : fe 249 1 = some (.bipush 10, 2, 12, some .int) := fe_of pg_249 rfl
set_option maxRecDepth 100000 in
theorem f_249_3 : fe 249 3 = some (.bipush 9, 2, 12, some .int) := fe_of pg_249 rfl
set_option maxRecDepth 100000 in
theorem f_249_5 : fe 249 5 = some (.aload_n 0, 1, 12, some .int) := fe_of pg_249 rfl
set_option maxRecDepth 100000 in
theorem f_249_6 : fe 249 6 = some (.getfield 303, 3, 12, some .int) := fe_of pg_249 rfl
set_option maxRecDepth 100000 in
theorem f_249_9 : fe 249 9 = some (.iadd, 1, 12, some .int) := fe_of pg_249 rfl
set_option maxRecDepth 100000 in
theorem f_249_10 : fe 249 10 = some (.invokestatic 121, 3, 12, some .int) := fe_of pg_249 rfl
set_option maxRecDepth 100000 in
theorem f_249_13 : fe 249 13 = some (.ifCond .eq 13, 3, 12, some .int) := fe_of pg_249 rfl
set_option maxRecDepth 100000 in
theorem f_249_16 : fe 249 16 = some (.aload_n 0, 1, 12, some .int) := fe_of pg_249 rfl
set_option maxRecDepth 100000 in
theorem f_249_17 : fe 249 17 = some (.getfield 44, 3, 12, some .int) := fe_of pg_249 rfl
set_option maxRecDepth 100000 in
theorem f_249_20 : fe 249 20 = some (.iload_n 1, 1, 12, some .int) := fe_of pg_249 rfl
set_option maxRecDepth 100000 in
theorem f_249_21 : fe 249 21 = some (.bipush 10, 2, 12, some .int) := fe_of pg_249 rfl
set_option maxRecDepth 100000 in
theorem f_249_23 : fe 249 23 = some (.isub, 1, 12, some .int) := fe_of pg_249 rfl
set_option maxRecDepth 100000 in
theorem f_249_24 : fe 249 24 = some (.iaload, 1, 12, some .int) := fe_of pg_249 rfl
set_option maxRecDepth 100000 in
theorem f_249_25 : fe 249 25 = some (.ireturn, 1, 12, some .int) := fe_of pg_249 rfl
set_option maxRecDepth 100000 in
theorem f_249_26 : fe 249 26 = some (.iload_n 1, 1, 12, some .int) := fe_of pg_249 rfl
set_option maxRecDepth 100000 in
theorem f_249_27 : fe 249 27 = some (.bipush 20, 2, 12, some .int) := fe_of pg_249 rfl
set_option maxRecDepth 100000 in
theorem f_249_29 : fe 249 29 = some (.bipush 19, 2, 12, some .int) := fe_of pg_249 rfl
set_option maxRecDepth 100000 in
theorem f_249_31 : fe 249 31 = some (.aload_n 0, 1, 12, some .int) := fe_of pg_249 rfl
set_option maxRecDepth 100000 in
theorem f_249_32 : fe 249 32 = some (.getfield 303, 3, 12, some .int) := fe_of pg_249 rfl
set_option maxRecDepth 100000 in
theorem f_249_35 : fe 249 35 = some (.iadd, 1, 12, some .int) := fe_of pg_249 rfl
set_option maxRecDepth 100000 in
theorem f_249_36 : fe 249 36 = some (.invokestatic 121, 3, 12, some .int) := fe_of pg_249 rfl
set_option maxRecDepth 100000 in
theorem f_249_39 : fe 249 39 = some (.ifCond .eq 13, 3, 12, some .int) := fe_of pg_249 rfl
set_option maxRecDepth 100000 in
theorem f_249_42 : fe 249 42 = some (.aload_n 0, 1, 12, some .int) := fe_of pg_249 rfl
set_option maxRecDepth 100000 in
theorem f_249_43 : fe 249 43 = some (.getfield 47, 3, 12, some .int) := fe_of pg_249 rfl
set_option maxRecDepth 100000 in
theorem f_249_46 : fe 249 46 = some (.iload_n 1, 1, 12, some .int) := fe_of pg_249 rfl
set_option maxRecDepth 100000 in
theorem f_249_47 : fe 249 47 = some (.bipush 20, 2, 12, some .int) := fe_of pg_249 rfl
set_option maxRecDepth 100000 in
theorem f_249_49 : fe 249 49 = some (.isub, 1, 12, some .int) := fe_of pg_249 rfl
set_option maxRecDepth 100000 in
theorem f_249_50 : fe 249 50 = some (.iaload, 1, 12, some .int) := fe_of pg_249 rfl
set_option maxRecDepth 100000 in
theorem f_249_51 : fe 249 51 = some (.ireturn, 1, 12, some .int) := fe_of pg_249 rfl
set_option maxRecDepth 100000 in
theorem f_249_52 : fe 249 52 = some (.iload_n 1, 1, 12, some .int) := fe_of pg_249 rfl
set_option maxRecDepth 100000 in
theorem f_249_53 : fe 249 53 = some (.bipush 30, 2, 12, some .int) := fe_of pg_249 rfl
set_option maxRecDepth 100000 in
theorem f_249_55 : fe 249 55 = some (.bipush 29, 2, 12, some .int) := fe_of pg_249 rfl
set_option maxRecDepth 100000 in
theorem f_249_57 : fe 249 57 = some (.aload_n 0, 1, 12, some .int) := fe_of pg_249 rfl
set_option maxRecDepth 100000 in
theorem f_249_58 : fe 249 58 = some (.getfield 300, 3, 12, some .int) := fe_of pg_249 rfl
set_option maxRecDepth 100000 in
theorem f_249_61 : fe 249 61 = some (.iadd, 1, 12, some .int) := fe_of pg_249 rfl
set_option maxRecDepth 100000 in
theorem f_249_62 : fe 249 62 = some (.invokestatic 121, 3, 12, some .int) := fe_of pg_249 rfl
set_option maxRecDepth 100000 in
theorem f_249_65 : fe 249 65 = some (.ifCond .eq 13, 3, 12, some .int) := fe_of pg_249 rfl
set_option maxRecDepth 100000 in
theorem f_249_68 : fe 249 68 = some (.aload_n 0, 1, 12, some .int) := fe_of pg_249 rfl
set_option maxRecDepth 100000 in
theorem f_249_69 : fe 249 69 = some (.getfield 50, 3, 12, some .int) := fe_of pg_249 rfl
set_option maxRecDepth 100000 in
theorem f_249_72 : fe 249 72 = some (.iload_n 1, 1, 12, some .int) := fe_of pg_249 rfl
set_option maxRecDepth 100000 in
theorem f_249_73 : fe 249 73 = some (.bipush 30, 2, 12, some .int) := fe_of pg_249 rfl
set_option maxRecDepth 100000 in
theorem f_249_75 : fe 249 75 = some (.isub, 1, 12, some .int) := fe_of pg_249 rfl
set_option maxRecDepth 100000 in
theorem f_249_76 : fe 249 76 = some (.iaload, 1, 12, some .int) := fe_of pg_249 rfl
set_option maxRecDepth 100000 in
theorem f_249_77 : fe 249 77 = some (.ireturn, 1, 12, some .int) := fe_of pg_249 rfl
set_option maxRecDepth 100000 in
theorem f_249_78 : fe 249 78 = some (.iconst 0, 1, 12, some .int) := fe_of pg_249 rfl
set_option maxRecDepth 100000 in
theorem f_249_79 : fe 249 79 = some (.istore_n 2, 1, 12, some .int) := fe_of pg_249 rfl
set_option maxRecDepth 100000 in
theorem f_249_80 : fe 249 80 = some (.iconst 0, 1, 12, some .int) := fe_of pg_249 rfl
set_option maxRecDepth 100000 in
theorem f_249_81 : fe 249 81 = some (.istore_n 3, 1, 12, some .int) := fe_of pg_249 rfl
set_option maxRecDepth 100000 in
theorem f_249_82 : fe 249 82 = some (.iconst 0, 1, 12, some .int) := fe_of pg_249 rfl
set_option maxRecDepth 100000 in
theorem f_249_83 : fe 249 83 = some (.istore 4, 2, 12, some .int) := fe_of pg_249 rfl
set_option maxRecDepth 100000 in
theorem f_249_85 : fe 249 85 = some (.iload 4, 2, 12, some .int) := fe_of pg_249 rfl
set_option maxRecDepth 100000 in
theorem f_249_87 : fe 249 87 = some (.aload_n 0, 1, 12, some .int) := fe_of pg_249 rfl
set_option maxRecDepth 100000 in
theorem f_249_88 : fe 249 88 = some (.getfield 303, 3, 12, some .int) := fe_of pg_249 rfl
set_option maxRecDepth 100000 in
theorem f_249_91 : fe 249 91 = some (.if_icmp .ge 65, 3, 12, some .int) := fe_of pg_249 rfl
set_option maxRecDepth 100000 in
theorem f_249_94 : fe 249 94 = some (.iload_n 2, 1, 12, some .int) := fe_of pg_249 rfl
set_option maxRecDepth 100000 in
theorem f_249_95 : fe 249 95 = some (.aload_n 0, 1, 12, some .int) := fe_of pg_249 rfl
set_option maxRecDepth 100000 in
theorem f_249_96 : fe 249 96 = some (.iload 4, 2, 12, some .int) := fe_of pg_249 rfl
set_option maxRecDepth 100000 in
theorem f_249_98 : fe 249 98 = some (.invokevirtual 337, 3, 12, some .int) := fe_of pg_249 rfl
set_option maxRecDepth 100000 in
theorem f_249_101 : fe 249 101 = some (.ifCond .eq 10, 3, 12, some .int) := fe_of pg_249 rfl
set_option maxRecDepth 100000 in
theorem f_249_104 : fe 249 104 = some (.iconst 1, 1, 12, some .int) := fe_of pg_249 rfl
set_option maxRecDepth 100000 in
theorem f_249_105 : fe 249 105 = some (.iload 4, 2, 12, some .int) := fe_of pg_249 rfl
set_option maxRecDepth 100000 in
theorem f_249_107 : fe 249 107 = some (.ishl, 1, 12, some .int) := fe_of pg_249 rfl
set_option maxRecDepth 100000 in
theorem f_249_108 : fe 249 108 = some (.goto 4, 3, 12, some .int) := fe_of pg_249 rfl
set_option maxRecDepth 100000 in
theorem f_249_111 : fe 249 111 = some (.iconst 0, 1, 12, some .int) := fe_of pg_249 rfl
set_option maxRecDepth 100000 in
theorem f_249_112 : fe 249 112 = some (.ior, 1, 12, some .int) := fe_of pg_249 rfl
set_option maxRecDepth 100000 in
theorem f_249_113 : fe 249 113 = some (.istore_n 2, 1, 12, some .int) := fe_of pg_249 rfl
set_option maxRecDepth 100000 in
theorem f_249_114 : fe 249 114 = some (.iload_n 3, 1, 12, some .int) := fe_of pg_249 rfl
set_option maxRecDepth 100000 in
theorem f_249_115 : fe 249 115 = some (.aload_n 0, 1, 12, some .int) := fe_of pg_249 rfl
set_option maxRecDepth 100000 in
theorem f_249_116 : fe 249 116 = some (.iload 4, 2, 12, some .int) := fe_of pg_249 rfl
set_option maxRecDepth 100000 in
theorem f_249_118 : fe 249 118 = some (.invokevirtual 337, 3, 12, some .int) := fe_of pg_249 rfl
set_option maxRecDepth 100000 in
theorem f_249_121 : fe 249 121 = some (.ifCond .eq 26, 3, 12, some .int) := fe_of pg_249 rfl
set_option maxRecDepth 100000 in
theorem f_249_124 : fe 249 124 = some (.aload_n 0, 1, 12, some .int) := fe_of pg_249 rfl
set_option maxRecDepth 100000 in
theorem f_249_125 : fe 249 125 = some (.bipush 11, 2, 12, some .int) := fe_of pg_249 rfl
set_option maxRecDepth 100000 in
theorem f_249_127 : fe 249 127 = some (.iload 4, 2, 12, some .int) := fe_of pg_249 rfl
set_option maxRecDepth 100000 in
theorem f_249_129 : fe 249 129 = some (.iadd, 1, 12, some .int) := fe_of pg_249 rfl
set_option maxRecDepth 100000 in
theorem f_249_130 : fe 249 130 = some (.invokevirtual 293, 3, 12, some .int) := fe_of pg_249 rfl
set_option maxRecDepth 100000 in
theorem f_249_133 : fe 249 133 = some (.iconst 3, 1, 12, some .int) := fe_of pg_249 rfl
set_option maxRecDepth 100000 in
theorem f_249_134 : fe 249 134 = some (.if_icmp .ne 13, 3, 12, some .int) := fe_of pg_249 rfl
set_option maxRecDepth 100000 in
theorem f_249_137 : fe 249 137 = some (.aload_n 0, 1, 12, some .int) := fe_of pg_249 rfl
set_option maxRecDepth 100000 in
theorem f_249_138 : fe 249 138 = some (.getfield 44, 3, 12, some .int) := fe_of pg_249 rfl
set_option maxRecDepth 100000 in
theorem f_249_141 : fe 249 141 = some (.iload 4, 2, 12, some .int) := fe_of pg_249 rfl
set_option maxRecDepth 100000 in
theorem f_249_143 : fe 249 143 = some (.iaload, 1, 12, some .int) := fe_of pg_249 rfl
set_option maxRecDepth 100000 in
theorem f_249_144 : fe 249 144 = some (.goto 4, 3, 12, some .int) := fe_of pg_249 rfl
set_option maxRecDepth 100000 in
theorem f_249_147 : fe 249 147 = some (.iconst 0, 1, 12, some .int) := fe_of pg_249 rfl
set_option maxRecDepth 100000 in
theorem f_249_148 : fe 249 148 = some (.iadd, 1, 12, some .int) := fe_of pg_249 rfl
set_option maxRecDepth 100000 in
theorem f_249_149 : fe 249 149 = some (.istore_n 3, 1, 12, some .int) := fe_of pg_249 rfl
set_option maxRecDepth 100000 in
theorem f_249_150 : fe 249 150 = some (.iinc 4 1, 3, 12, some .int) := fe_of pg_249 rfl
set_option maxRecDepth 100000 in
theorem f_249_153 : fe 249 153 = some (.goto (-68), 3, 12, some .int) := fe_of pg_249 rfl
set_option maxRecDepth 100000 in
theorem f_249_156 : fe 249 156 = some (.iload_n 1, 1, 12, some .int) := fe_of pg_249 rfl
set_option maxRecDepth 100000 in
theorem f_249_157 : fe 249 157 = some (.tableswitch 72 0 6 #[43, 48, 53, 58, 63, 65, 67], 43, 12, some .int) := fe_of pg_249 rfl
set_option maxRecDepth 100000 in
theorem f_249_200 : fe 249 200 = some (.aload_n 0, 1, 12, some .int) := fe_of pg_249 rfl
set_option maxRecDepth 100000 in
theorem f_249_201 : fe 249 201 = some (.getfield 325, 3, 12, some .int) := fe_of pg_249 rfl
set_option maxRecDepth 100000 in
theorem f_249_204 : fe 249 204 = some (.ireturn, 1, 12, some .int) := fe_of pg_249 rfl
set_option maxRecDepth 100000 in
theorem f_249_205 : fe 249 205 = some (.aload_n 0, 1, 12, some .int) := fe_of pg_249 rfl
set_option maxRecDepth 100000 in
theorem f_249_206 : fe 249 206 = some (.getfield 328, 3, 12, some .int) := fe_of pg_249 rfl
set_option maxRecDepth 100000 in
theorem f_249_209 : fe 249 209 = some (.ireturn, 1, 12, some .int) := fe_of pg_249 rfl
set_option maxRecDepth 100000 in
theorem f_249_210 : fe 249 210 = some (.aload_n 0, 1, 12, some .int) := fe_of pg_249 rfl
set_option maxRecDepth 100000 in
theorem f_249_211 : fe 249 211 = some (.getfield 331, 3, 12, some .int) := fe_of pg_249 rfl
set_option maxRecDepth 100000 in
theorem f_249_214 : fe 249 214 = some (.ireturn, 1, 12, some .int) := fe_of pg_249 rfl
set_option maxRecDepth 100000 in
theorem f_249_215 : fe 249 215 = some (.aload_n 0, 1, 12, some .int) := fe_of pg_249 rfl
set_option maxRecDepth 100000 in
theorem f_249_216 : fe 249 216 = some (.invokevirtual 352, 3, 12, some .int) := fe_of pg_249 rfl
set_option maxRecDepth 100000 in
theorem f_249_219 : fe 249 219 = some (.ireturn, 1, 12, some .int) := fe_of pg_249 rfl
set_option maxRecDepth 100000 in
theorem f_249_220 : fe 249 220 = some (.iload_n 2, 1, 12, some .int) := fe_of pg_249 rfl
set_option maxRecDepth 100000 in
theorem f_249_221 : fe 249 221 = some (.ireturn, 1, 12, some .int) := fe_of pg_249 rfl
set_option maxRecDepth 100000 in
theorem f_249_222 : fe 249 222 = some (.iload_n 3, 1, 12, some .int) := fe_of pg_249 rfl
set_option maxRecDepth 100000 in
theorem f_249_223 : fe 249 223 = some (.ireturn, 1, 12, some .int) := fe_of pg_249 rfl
set_option maxRecDepth 100000 in
theorem f_249_224 : fe 249 224 = some (.aload_n 0, 1, 12, some .int) := fe_of pg_249 rfl
set_option maxRecDepth 100000 in
theorem f_249_225 : fe 249 225 = some (.getfield 334, 3, 12, some .int) := fe_of pg_249 rfl
set_option maxRecDepth 100000 in
theorem f_249_228 : fe 249 228 = some (.ireturn, 1, 12, some .int) := fe_of pg_249 rfl
set_option maxRecDepth 100000 in
theorem f_249_229 : fe 249 229 = some (.bipush (-2), 2, 12, some .int) := fe_of pg_249 rfl
set_option maxRecDepth 100000 in
theorem f_249_231 : fe 249 231 = some (.ireturn, 1, 12, some .int) := fe_of pg_249 rfl
set_option maxRecDepth 100000 in
theorem f_250_0 : fe 250 0 = some (.aload_n 0, 1, 12, some .int) := fe_of pg_250 rfl
set_option maxRecDepth 100000 in
theorem f_250_1 : fe 250 1 = some (.iconst 0, 1, 12, some .int) := fe_of pg_250 rfl
set_option maxRecDepth 100000 in
theorem f_250_2 : fe 250 2 = some (.putfield 109, 3, 12, some .int) := fe_of pg_250 rfl
set_option maxRecDepth 100000 in
theorem f_250_5 : fe 250 5 = some (.aload_n 0, 1, 12, some .int) := fe_of pg_250 rfl
set_option maxRecDepth 100000 in
theorem f_250_6 : fe 250 6 = some (.iload_n 1, 1, 12, some .int) := fe_of pg_250 rfl
set_option maxRecDepth 100000 in
theorem f_250_7 : fe 250 7 = some (.iload_n 2, 1, 12, some .int) := fe_of pg_250 rfl
set_option maxRecDepth 100000 in
theorem f_250_8 : fe 250 8 = some (.invokevirtual 382, 3, 12, some .int) := fe_of pg_250 rfl
set_option maxRecDepth 100000 in
theorem f_250_11 : fe 250 11 = some (.ifCond .eq 33, 3, 12, some .int) := fe_of pg_250 rfl
set_option maxRecDepth 100000 in
theorem f_250_14 : fe 250 14 = some (.iload_n 3, 1, 12, some .int) := fe_of pg_250 rfl
set_option maxRecDepth 100000 in
theorem f_250_15 : fe 250 15 = some (.iconst 0, 1, 12, some .int) := fe_of pg_250 rfl
set_option maxRecDepth 100000 in
theorem f_250_16 : fe 250 16 = some (.aload_n 0, 1, 12, some .int) := fe_of pg_250 rfl
set_option maxRecDepth 100000 in
theorem f_250_17 : fe 250 17 = some (.invokevirtual 319, 3, 12, some .int) := fe_of pg_250 rfl
set_option maxRecDepth 100000 in
theorem f_250_20 : fe 250 20 = some (.invokestatic 121, 3, 12, some .int) := fe_of pg_250 rfl
set_option maxRecDepth 100000 in
theorem f_250_23 : fe 250 23 = some (.ifCond .eq 21, 3, 12, some .int) := fe_of pg_250 rfl
set_option maxRecDepth 100000 in
theorem f_250_26 : fe 250 26 = some (.aload_n 0, 1, 12, some .int) := fe_of pg_250 rfl
set_option maxRecDepth 100000 in
theorem f_250_27 : fe 250 27 = some (.iload_n 3, 1, 12, some .int) := fe_of pg_250 rfl
set_option maxRecDepth 100000 in
theorem f_250_28 : fe 250 28 = some (.invokevirtual 385, 3, 12, some .int) := fe_of pg_250 rfl
set_option maxRecDepth 100000 in
theorem f_250_31 : fe 250 31 = some (.iload_n 3, 1, 12, some .int) := fe_of pg_250 rfl
set_option maxRecDepth 100000 in
theorem f_250_32 : fe 250 32 = some (.if_icmp .ne 12, 3, 12, some .int) := fe_of pg_250 rfl
set_option maxRecDepth 100000 in
theorem f_250_35 : fe 250 35 = some (.aload_n 0, 1, 12, some .int) := fe_of pg_250 rfl
set_option maxRecDepth 100000 in
theorem f_250_36 : fe 250 36 = some (.iload 4, 2, 12, some .int) := fe_of pg_250 rfl
set_option maxRecDepth 100000 in
theorem f_250_38 : fe 250 38 = some (.invokevirtual 388, 3, 12, some .int) := fe_of pg_250 rfl
set_option maxRecDepth 100000 in
theorem f_250_41 : fe 250 41 = some (.goto 5, 3, 12, some .int) := fe_of pg_250 rfl
set_option maxRecDepth 100000 in
theorem f_250_44 : fe 250 44 = some (.bipush (-2), 2, 12, some .int) := fe_of pg_250 rfl
set_option maxRecDepth 100000 in
theorem f_250_46 : fe 250 46 = some (.ireturn, 1, 12, some .int) := fe_of pg_250 rfl
set_option maxRecDepth 100000 in
theorem f_251_0 : fe 251 0 = some (.iload_n 1, 1, 12, some .boolean) := fe_of pg_251 rfl
set_option maxRecDepth 100000 in
theorem f_251_1 : fe 251 1 = some (.iconst 0, 1, 12, some .boolean) := fe_of pg_251 rfl
set_option maxRecDepth 100000 in
theorem f_251_2 : fe 251 2 = some (.iconst 1, 1, 12, some .boolean) := fe_of pg_251 rfl
set_option maxRecDepth 100000 in
theorem f_251_3 : fe 251 3 = some (.aload_n 0, 1, 12, some .boolean) := fe_of pg_251 rfl
set_option maxRecDepth 100000 in
theorem f_251_4 : fe 251 4 = some (.getfield 303, 3, 12, some .boolean) := fe_of pg_251 rfl
set_option maxRecDepth 100000 in
theorem f_251_7 : fe 251 7 = some (.ishl, 1, 12, some .boolean) := fe_of pg_251 rfl
set_option maxRecDepth 100000 in
theorem f_251_8 : fe 251 8 = some (.iconst 1, 1, 12, some .boolean) := fe_of pg_251 rfl
set_option maxRecDepth 100000 in
theorem f_251_9 : fe 251 9 = some (.isub, 1, 12, some .boolean) := fe_of pg_251 rfl
set_option maxRecDepth 100000 in
theorem f_251_10 : fe 251 10 = some (.invokestatic 121, 3, 12, some .boolean) := fe_of pg_251 rfl
set_option maxRecDepth 100000 in
theorem f_251_13 : fe 251 13 = some (.ireturn, 1, 12, some .boolean) := fe_of pg_251 rfl
set_option maxRecDepth 100000 in
theorem f_252_0 : fe 252 0 = some (.iload_n 1, 1, 12, some .boolean) := fe_of pg_252 rfl
set_option maxRecDepth 100000 in
theorem f_252_1 : fe 252 1 = some (.invokestatic 391, 3, 12, some .boolean) := fe_of pg_252 rfl
set_option maxRecDepth 100000 in
theorem f_252_4 : fe 252 4 = some (.aload_n 0, 1, 12, some .boolean) := fe_of pg_252 rfl
set_option maxRecDepth 100000 in
theorem f_252_5 : fe 252 5 = some (.getfield 300, 3, 12, some .boolean) := fe_of pg_252 rfl
set_option maxRecDepth 100000 in
theorem f_252_8 : fe 252 8 = some (.if_icmp .gt 7, 3, 12, some .boolean) := fe_of pg_252 rfl
set_option maxRecDepth 100000 in
theorem f_252_11 : fe 252 11 = some (.iconst 1, 1, 12, some .boolean) := fe_of pg_252 rfl
set_option maxRecDepth 100000 in
theorem f_252_12 : fe 252 12 = some (.goto 4, 3, 12, some .boolean) := fe_of pg_252 rfl
set_option maxRecDepth 100000 in
theorem f_252_15 : fe 252 15 = some (.iconst 0, 1, 12, some .boolean) := fe_of pg_252 rfl
set_option maxRecDepth 100000 in
theorem f_252_16 : fe 252 16 = some (.ireturn, 1, 12, some .boolean) := fe_of pg_252 rfl
set_option maxRecDepth 100000 in
theorem f_253_0 : fe 253 0 = some (.iconst 0, 1, 12, none) := fe_of pg_253 rfl
set_option maxRecDepth 100000 in
theorem f_253_1 : fe 253 1 = some (.istore_n 2, 1, 12, none) := fe_of pg_253 rfl
set_option maxRecDepth 100000 in
theorem f_253_2 : fe 253 2 = some (.iload_n 2, 1, 12, none) := fe_of pg_253 rfl
set_option maxRecDepth 100000 in
theorem f_253_3 : fe 253 3 = some (.aload_n 0, 1, 12, none) := fe_of pg_253 rfl
set_option maxRecDepth 100000 in
theorem f_253_4 : fe 253 4 = some (.getfield 303, 3, 12, none) := fe_of pg_253 rfl
set_option maxRecDepth 100000 in
theorem f_253_7 : fe 253 7 = some (.if_icmp .ge 34, 3, 12, none) := fe_of pg_253 rfl
set_option maxRecDepth 100000 in
theorem f_253_10 : fe 253 10 = some (.aload_n 0, 1, 12, none) := fe_of pg_253 rfl
set_option maxRecDepth 100000 in
theorem f_253_11 : fe 253 11 = some (.getfield 44, 3, 12, none) := fe_of pg_253 rfl
set_option maxRecDepth 100000 in
theorem f_253_14 : fe 253 14 = some (.iload_n 2, 1, 12, none) := fe_of pg_253 rfl
set_option maxRecDepth 100000 in
theorem f_253_15 : fe 253 15 = some (.iconst 0, 1, 12, none) := fe_of pg_253 rfl
set_option maxRecDepth 100000 in
theorem f_253_16 : fe 253 16 = some (.bipush 99, 2, 12, none) := fe_of pg_253 rfl
set_option maxRecDepth 100000 in
theorem f_253_18 : fe 253 18 = some (.aload_n 0, 1, 12, none) := fe_of pg_253 rfl
set_option maxRecDepth 100000 in
theorem f_253_19 : fe 253 19 = some (.bipush 19, 2, 12, none) := fe_of pg_253 rfl
set_option maxRecDepth 100000 in
theorem f_253_21 : fe 253 21 = some (.iload_n 2, 1, 12, none) := fe_of pg_253 rfl
set_option maxRecDepth 100000 in
theorem f_253_22 : fe 253 22 = some (.iadd, 1, 12, none) := fe_of pg_253 rfl
set_option maxRecDepth 100000 in
theorem f_253_23 : fe 253 23 = some (.invokevirtual 293, 3, 12, none) := fe_of pg_253 rfl
set_option maxRecDepth 100000 in
theorem f_253_26 : fe 253 26 = some (.iload_n 1, 1, 12, none) := fe_of pg_253 rfl
set_option maxRecDepth 100000 in
theorem f_253_27 : fe 253 27 = some (.iadd, 1, 12, none) := fe_of pg_253 rfl
set_option maxRecDepth 100000 in
theorem f_253_28 : fe 253 28 = some (.invokestatic 346, 3, 12, none) := fe_of pg_253 rfl
set_option maxRecDepth 100000 in
theorem f_253_31 : fe 253 31 = some (.invokestatic 349, 3, 12, none) := fe_of pg_253 rfl
set_option maxRecDepth 100000 in
theorem f_253_34 : fe 253 34 = some (.iastore, 1, 12, none) := fe_of pg_253 rfl
set_option maxRecDepth 100000 in
theorem f_253_35 : fe 253 35 = some (.iinc 2 1, 3, 12, none) := fe_of pg_253 rfl
set_option maxRecDepth 100000 in
theorem f_253_38 : fe 253 38 = some (.goto (-36), 3, 12, none) := fe_of pg_253 rfl
set_option maxRecDepth 100000 in
theorem f_253_41 : fe 253 41 = some (.return_, 1, 12, none) := fe_of pg_253 rfl
set_option maxRecDepth 100000 in
theorem f_254_0 : fe 254 0 = some (.iconst 0, 1, 12, some .int) := fe_of pg_254 rfl
set_option maxRecDepth 100000 in
theorem f_254_1 : fe 254 1 = some (.istore_n 2, 1, 12, some .int) := fe_of pg_254 rfl
set_option maxRecDepth 100000 in
theorem f_254_2 : fe 254 2 = some (.iconst 0, 1, 12, some .int) := fe_of pg_254 rfl
set_option maxRecDepth 100000 in
theorem f_254_3 : fe 254 3 = some (.istore_n 3, 1, 12, some .int) := fe_of pg_254 rfl
set_option maxRecDepth 100000 in
theorem f_254_4 : fe 254 4 = some (.iload_n 3, 1, 12, some .int) := fe_of pg_254 rfl
set_option maxRecDepth 100000 in
theorem f_254_5 : fe 254 5 = some (.aload_n 0, 1, 12, some .int) := fe_of pg_254 rfl
set_option maxRecDepth 100000 in
theorem f_254_6 : fe 254 6 = some (.getfield 303, 3, 12, some .int) := fe_of pg_254 rfl
set_option maxRecDepth 100000 in
theorem f_254_9 : fe 254 9 = some (.if_icmp .ge 35, 3, 12, some .int) := fe_of pg_254 rfl
set_option maxRecDepth 100000 in
theorem f_254_12 : fe 254 12 = some (.iload_n 2, 1, 12, some .int) := fe_of pg_254 rfl
set_option maxRecDepth 100000 in
theorem f_254_13 : fe 254 13 = some (.iload_n 1, 1, 12, some .int) := fe_of pg_254 rfl
set_option maxRecDepth 100000 in
theorem f_254_14 : fe 254 14 = some (.iload_n 3, 1, 12, some .int) := fe_of pg_254 rfl
set_option maxRecDepth 100000 in
theorem f_254_15 : fe 254 15 = some (.invokestatic 113, 3, 12, some .int) := fe_of pg_254 rfl
set_option maxRecDepth 100000 in
theorem f_254_18 : fe 254 18 = some (.ifCond .eq 17, 3, 12, some .int) := fe_of pg_254 rfl
set_option maxRecDepth 100000 in
theorem f_254_21 : fe 254 21 = some (.aload_n 0, 1, 12, some .int) := fe_of pg_254 rfl
set_option maxRecDepth 100000 in
theorem f_254_22 : fe 254 22 = some (.iload_n 3, 1, 12, some .int) := fe_of pg_254 rfl
set_option maxRecDepth 100000 in
theorem f_254_23 : fe 254 23 = some (.aload_n 0, 1, 12, some .int) := fe_of pg_254 rfl
set_option maxRecDepth 100000 in
theorem f_254_24 : fe 254 24 = some (.getfield 44, 3, 12, some .int) := fe_of pg_254 rfl
set_option maxRecDepth 100000 in
theorem f_254_27 : fe 254 27 = some (.iload_n 3, 1, 12, some .int) := fe_of pg_254 rfl
set_option maxRecDepth 100000 in
theorem f_254_28 : fe 254 28 = some (.iaload, 1, 12, some .int) := fe_of pg_254 rfl
set_option maxRecDepth 100000 in
theorem f_254_29 : fe 254 29 = some (.invokevirtual 309, 3, 12, some .int) := fe_of pg_254 rfl
set_option maxRecDepth 100000 in
theorem f_254_32 : fe 254 32 = some (.goto 4, 3, 12, some .int) := fe_of pg_254 rfl
set_option maxRecDepth 100000 in
theorem f_254_35 : fe 254 35 = some (.iconst 0, 1, 12, some .int) := fe_of pg_254 rfl
set_option maxRecDepth 100000 in
theorem f_254_36 : fe 254 36 = some (.iadd, 1, 12, some .int) := fe_of pg_254 rfl
set_option maxRecDepth 100000 in
theorem f_254_37 : fe 254 37 = some (.istore_n 2, 1, 12, some .int) := fe_of pg_254 rfl
set_option maxRecDepth 100000 in
theorem f_254_38 : fe 254 38 = some (.iinc 3 1, 3, 12, some .int) := fe_of pg_254 rfl
set_option maxRecDepth 100000 in
theorem f_254_41 : fe 254 41 = some (.goto (-37), 3, 12, some .int) := fe_of pg_254 rfl
set_option maxRecDepth 100000 in
theorem f_254_44 : fe 254 44 = some (.iload_n 2, 1, 12, some .int) := fe_of pg_254 rfl
set_option maxRecDepth 100000 in
theorem f_254_45 : fe 254 45 = some (.ireturn, 1, 12, some .int) := fe_of pg_254 rfl
set_option maxRecDepth 100000 in
theorem f_255_0 : fe 255 0 = some (.iconst 0, 1, 12, none) := fe_of pg_255 rfl
set_option maxRecDepth 100000 in
theorem f_255_1 : fe 255 1 = some (.istore_n 2, 1, 12, none) := fe_of pg_255 rfl
set_option maxRecDepth 100000 in
theorem f_255_2 : fe 255 2 = some (.iload_n 2, 1, 12, none) := fe_of pg_255 rfl
set_option maxRecDepth 100000 in
theorem f_255_3 : fe 255 3 = some (.aload_n 0, 1, 12, none) := fe_of pg_255 rfl
set_option maxRecDepth 100000 in
theorem f_255_4 : fe 255 4 = some (.getfield 303, 3, 12, none) := fe_of pg_255 rfl
set_option maxRecDepth 100000 in
theorem f_255_7 : fe 255 7 = some (.if_icmp .ge 48, 3, 12, none) := fe_of pg_255 rfl
set_option maxRecDepth 100000 in
theorem f_255_10 : fe 255 10 = some (.aload_n 0, 1, 12, none) := fe_of pg_255 rfl
set_option maxRecDepth 100000 in
theorem f_255_11 : fe 255 11 = some (.getfield 44, 3, 12, none) := fe_of pg_255 rfl
set_option maxRecDepth 100000 in
theorem f_255_14 : fe 255 14 = some (.iload_n 2, 1, 12, none) := fe_of pg_255 rfl
set_option maxRecDepth 100000 in
theorem f_255_15 : fe 255 15 = some (.iload_n 1, 1, 12, none) := fe_of pg_255 rfl
set_option maxRecDepth 100000 in
theorem f_255_16 : fe 255 16 = some (.iload_n 2, 1, 12, none) := fe_of pg_255 rfl
set_option maxRecDepth 100000 in
theorem f_255_17 : fe 255 17 = some (.invokestatic 113, 3, 12, none) := fe_of pg_255 rfl
set_option maxRecDepth 100000 in
theorem f_255_20 : fe 255 20 = some (.ifCond .eq 22, 3, 12, none) := fe_of pg_255 rfl
set_option maxRecDepth 100000 in
theorem f_255_23 : fe 255 23 = some (.iconst 0, 1, 12, none) := fe_of pg_255 rfl
set_option maxRecDepth 100000 in
theorem f_255_24 : fe 255 24 = some (.aload_n 0, 1, 12, none) := fe_of pg_255 rfl
set_option maxRecDepth 100000 in
theorem f_255_25 : fe 255 25 = some (.getfield 44, 3, 12, none) := fe_of pg_255 rfl
set_option maxRecDepth 100000 in
theorem f_255_28 : fe 255 28 = some (.iload_n 2, 1, 12, none) := fe_of pg_255 rfl
set_option maxRecDepth 100000 in
theorem f_255_29 : fe 255 29 = some (.iaload, 1, 12, none) := fe_of pg_255 rfl
set_option maxRecDepth 100000 in
theorem f_255_30 : fe 255 30 = some (.aload_n 0, 1, 12, none) := fe_of pg_255 rfl
set_option maxRecDepth 100000 in
theorem f_255_31 : fe 255 31 = some (.iload_n 2, 1, 12, none) := fe_of pg_255 rfl
set_option maxRecDepth 100000 in
theorem f_255_32 : fe 255 32 = some (.invokevirtual 355, 3, 12, none) := fe_of pg_255 rfl
set_option maxRecDepth 100000 in
theorem f_255_35 : fe 255 35 = some (.isub, 1, 12, none) := fe_of pg_255 rfl
set_option maxRecDepth 100000 in
theorem f_255_36 : fe 255 36 = some (.invokestatic 349, 3, 12, none) := fe_of pg_255 rfl
set_option maxRecDepth 100000 in
theorem f_255_39 : fe 255 39 = some (.goto 9, 3, 12, none) := fe_of pg_255 rfl
set_option maxRecDepth 100000 in
theorem f_255_42 : fe 255 42 = some (.aload_n 0, 1, 12, none) := fe_of pg_255 rfl
set_option maxRecDepth 100000 in
theorem f_255_43 : fe 255 43 = some (.getfield 44, 3, 12, none) := fe_of pg_255 rfl
set_option maxRecDepth 100000 in
theorem f_255_46 : fe 255 46 = some (.iload_n 2, 1, 12, none) := fe_of pg_255 rfl
set_option maxRecDepth 100000 in
theorem f_255_47 : fe 255 47 = some (.iaload, 1, 12, none) := fe_of pg_255 rfl
set_option maxRecDepth 100000 in
theorem f_255_48 : fe 255 48 = some (.iastore, 1, 12, none) := fe_of pg_255 rfl
set_option maxRecDepth 100000 in
theorem f_255_49 : fe 255 49 = some (.iinc 2 1, 3, 12, none) := fe_of pg_255 rfl
set_option maxRecDepth 100000 in
theorem f_255_52 : fe 255 52 = some (.goto (-50), 3, 12, none) := fe_of pg_255 rfl
set_option maxRecDepth 100000 in
theorem f_255_55 : fe 255 55 = some (.return_, 1, 12, none) := fe_of pg_255 rfl
set_option maxRecDepth 100000 in
theorem f_256_0 : fe 256 0 = some (.iload_n 2, 1, 12, some .int) := fe_of pg_256 rfl
set_option maxRecDepth 100000 in
theorem f_256_1 : fe 256 1 = some (.istore_n 3, 1, 12, some .int) := fe_of pg_256 rfl
set_option maxRecDepth 100000 in
theorem f_256_2 : fe 256 2 = some (.iload_n 3, 1, 12, some .int) := fe_of pg_256 rfl
set_option maxRecDepth 100000 in
theorem f_256_3 : fe 256 3 = some (.aload_n 0, 1, 12, some .int) := fe_of pg_256 rfl
set_option maxRecDepth 100000 in
theorem f_256_4 : fe 256 4 = some (.getfield 297, 3, 12, some .int) := fe_of pg_256 rfl
set_option maxRecDepth 100000 in
theorem f_256_7 : fe 256 7 = some (.if_icmp .ge 29, 3, 12, some .int) := fe_of pg_256 rfl
set_option maxRecDepth 100000 in
theorem f_256_10 : fe 256 10 = some (.aload_n 0, 1, 12, some .int) := fe_of pg_256 rfl
set_option maxRecDepth 100000 in
theorem f_256_11 : fe 256 11 = some (.iload_n 1, 1, 12, some .int) := fe_of pg_256 rfl
set_option maxRecDepth 100000 in
theorem f_256_12 : fe 256 12 = some (.invokevirtual 394, 3, 12, some .int) := fe_of pg_256 rfl
set_option maxRecDepth 100000 in
theorem f_256_15 : fe 256 15 = some (.aload_n 0, 1, 12, some .int) := fe_of pg_256 rfl
set_option maxRecDepth 100000 in
theorem f_256_16 : fe 256 16 = some (.iconst 3, 1, 12, some .int) := fe_of pg_256 rfl
set_option maxRecDepth 100000 in
theorem f_256_17 : fe 256 17 = some (.iload_n 3, 1, 12, some .int) := fe_of pg_256 rfl
set_option maxRecDepth 100000 in
theorem f_256_18 : fe 256 18 = some (.iadd, 1, 12, some .int) := fe_of pg_256 rfl
set_option maxRecDepth 100000 in
theorem f_256_19 : fe 256 19 = some (.invokevirtual 293, 3, 12, some .int) := fe_of pg_256 rfl
set_option maxRecDepth 100000 in
theorem f_256_22 : fe 256 22 = some (.if_icmp .lt 14, 3, 12, some .int) := fe_of pg_256 rfl
set_option maxRecDepth 100000 in
theorem f_256_25 : fe 256 25 = some (.aload_n 0, 1, 12, some .int) := fe_of pg_256 rfl
set_option maxRecDepth 100000 in
theorem f_256_26 : fe 256 26 = some (.iload_n 1, 1, 12, some .int) := fe_of pg_256 rfl
set_option maxRecDepth 100000 in
theorem f_256_27 : fe 256 27 = some (.invokevirtual 397, 3, 12, some .int) := fe_of pg_256 rfl
set_option maxRecDepth 100000 in
theorem f_256_30 : fe 256 30 = some (.iinc 3 1, 3, 12, some .int) := fe_of pg_256 rfl
set_option maxRecDepth 100000 in
theorem f_256_33 : fe 256 33 = some (.goto (-31), 3, 12, some .int) := fe_of pg_256 rfl
set_option maxRecDepth 100000 in
theorem f_256_36 : fe 256 36 = some (.iload_n 3, 1, 12, some .int) := fe_of pg_256 rfl
set_option maxRecDepth 100000 in
theorem f_256_37 : fe 256 37 = some (.ireturn, 1, 12, some .int) := fe_of pg_256 rfl
set_option maxRecDepth 100000 in
theorem f_257_0 : fe 257 0 = some (.aload_n 0, 1, 12, some .int) := fe_of pg_257 rfl
set_option maxRecDepth 100000 in
theorem f_257_1 : fe 257 1 = some (.iconst 0, 1, 12, some .int) := fe_of pg_257 rfl
set_option maxRecDepth 100000 in
theorem f_257_2 : fe 257 2 = some (.putfield 109, 3, 12, some .int) := fe_of pg_257 rfl
set_option maxRecDepth 100000 in
theorem f_257_5 : fe 257 5 = some (.aload_n 0, 1, 12, some .int) := fe_of pg_257 rfl
set_option maxRecDepth 100000 in
theorem f_257_6 : fe 257 6 = some (.iload_n 1, 1, 12, some .int) := fe_of pg_257 rfl
set_option maxRecDepth 100000 in
theorem f_257_7 : fe 257 7 = some (.invokevirtual 306, 3, 12, some .int) := fe_of pg_257 rfl
set_option maxRecDepth 100000 in
theorem f_257_10 : fe 257 10 = some (.ifCond .eq 23, 3, 12, some .int) := fe_of pg_257 rfl
set_option maxRecDepth 100000 in
theorem f_257_13 : fe 257 13 = some (.aload_n 0, 1, 12, some .int) := fe_of pg_257 rfl
set_option maxRecDepth 100000 in
theorem f_257_14 : fe 257 14 = some (.iload_n 2, 1, 12, some .int) := fe_of pg_257 rfl
set_option maxRecDepth 100000 in
theorem f_257_15 : fe 257 15 = some (.invokevirtual 400, 3, 12, some .int) := fe_of pg_257 rfl
set_option maxRecDepth 100000 in
theorem f_257_18 : fe 257 18 = some (.ifCond .eq 15, 3, 12, some .int) := fe_of pg_257 rfl
set_option maxRecDepth 100000 in
theorem f_257_21 : fe 257 21 = some (.iload_n 3, 1, 12, some .int) := fe_of pg_257 rfl
set_option maxRecDepth 100000 in
theorem f_257_22 : fe 257 22 = some (.iconst 0, 1, 12, some .int) := fe_of pg_257 rfl
set_option maxRecDepth 100000 in
theorem f_257_23 : fe 257 23 = some (.aload_n 0, 1, 12, some .int) := fe_of pg_257 rfl
set_option maxRecDepth 100000 in
theorem f_257_24 : fe 257 24 = some (.getfield 297, 3, 12, some .int) := fe_of pg_257 rfl
set_option maxRecDepth 100000 in
theorem f_257_27 : fe 257 27 = some (.invokestatic 121, 3, 12, some .int) := fe_of pg_257 rfl
set_option maxRecDepth 100000 in
theorem f_257_30 : fe 257 30 = some (.ifCond .ne 5, 3, 12, some .int) := fe_of pg_257 rfl
set_option maxRecDepth 100000 in
theorem f_257_33 : fe 257 33 = some (.iconst (-1), 1, 12, some .int) := fe_of pg_257 rfl
set_option maxRecDepth 100000 in
theorem f_257_34 : fe 257 34 = some (.ireturn, 1, 12, some .int) := fe_of pg_257 rfl
set_option maxRecDepth 100000 in
theorem f_257_35 : fe 257 35 = some (.aload_n 0, 1, 12, some .int) := fe_of pg_257 rfl
set_option maxRecDepth 100000 in
theorem f_257_36 : fe 257 36 = some (.iconst 0, 1, 12, some .int) := fe_of pg_257 rfl
set_option maxRecDepth 100000 in
theorem f_257_37 : fe 257 37 = some (.invokevirtual 403, 3, 12, some .int) := fe_of pg_257 rfl
set_option maxRecDepth 100000 in
theorem f_257_40 : fe 257 40 = some (.aload_n 0, 1, 12, some .int) := fe_of pg_257 rfl
set_option maxRecDepth 100000 in
theorem f_257_41 : fe 257 41 = some (.iload_n 2, 1, 12, some .int) := fe_of pg_257 rfl
set_option maxRecDepth 100000 in
theorem f_257_42 : fe 257 42 = some (.iload_n 3, 1, 12, some .int) := fe_of pg_257 rfl
set_option maxRecDepth 100000 in
theorem f_257_43 : fe 257 43 = some (.invokevirtual 406, 3, 12, some .int) := fe_of pg_257 rfl
set_option maxRecDepth 100000 in
theorem f_257_46 : fe 257 46 = some (.ireturn, 1, 12, some .int) := fe_of pg_257 rfl
set_option maxRecDepth 100000 in
theorem f_258_0 : fe 258 0 = some (.aload_n 0, 1, 12, some .boolean) := fe_of pg_258 rfl
set_option maxRecDepth 100000 in
theorem f_258_1 : fe 258 1 = some (.iload_n 2, 1, 12, some .boolean) := fe_of pg_258 rfl
set_option maxRecDepth 100000 in
theorem f_258_2 : fe 258 2 = some (.invokevirtual 403, 3, 12, some .boolean) := fe_of pg_258 rfl
set_option maxRecDepth 100000 in
theorem f_258_5 : fe 258 5 = some (.aload_n 0, 1, 12, some .boolean) := fe_of pg_258 rfl
set_option maxRecDepth 100000 in
theorem f_258_6 : fe 258 6 = some (.iload_n 1, 1, 12, some .boolean) := fe_of pg_258 rfl
set_option maxRecDepth 100000 in
theorem f_258_7 : fe 258 7 = some (.invokevirtual 409, 3, 12, some .boolean) := fe_of pg_258 rfl
set_option maxRecDepth 100000 in
theorem f_258_10 : fe 258 10 = some (.ifCond .eq 20, 3, 12, some .boolean) := fe_of pg_258 rfl
set_option maxRecDepth 100000 in
theorem f_258_13 : fe 258 13 = some (.aload_n 0, 1, 12, some .boolean) := fe_of pg_258 rfl
set_option maxRecDepth 100000 in
theorem f_258_14 : fe 258 14 = some (.iload_n 1, 1, 12, some .boolean) := fe_of pg_258 rfl
set_option maxRecDepth 100000 in
theorem f_258_15 : fe 258 15 = some (.iconst 0, 1, 12, some .boolean) := fe_of pg_258 rfl
set_option maxRecDepth 100000 in
theorem f_258_16 : fe 258 16 = some (.invokevirtual 406, 3, 12, some .boolean) := fe_of pg_258 rfl
set_option maxRecDepth 100000 in
theorem f_258_19 : fe 258 19 = some (.aload_n 0, 1, 12, some .boolean) := fe_of pg_258 rfl
set_option maxRecDepth 100000 in
theorem f_258_20 : fe 258 20 = some (.getfield 297, 3, 12, some .boolean) := fe_of pg_258 rfl
set_option maxRecDepth 100000 in
theorem f_258_23 : fe 258 23 = some (.if_icmp .ne 7, 3, 12, some .boolean) := fe_of pg_258 rfl
set_option maxRecDepth 100000 in
theorem f_258_26 : fe 258 26 = some (.iconst 1, 1, 12, some .boolean) := fe_of pg_258 rfl
set_option maxRecDepth 100000 in
theorem f_258_27 : fe 258 27 = some (.goto 4, 3, 12, some .boolean) := fe_of pg_258 rfl
set_option maxRecDepth 100000 in
theorem f_258_30 : fe 258 30 = some (.iconst 0, 1, 12, some .boolean) := fe_of pg_258 rfl
set_option maxRecDepth 100000 in
theorem f_258_31 : fe 258 31 = some (.ireturn, 1, 12, some .boolean) := fe_of pg_258 rfl
set_option maxRecDepth 100000 in
theorem f_259_0 : fe 259 0 = some (.iconst 0, 1, 12, none) := fe_of pg_259 rfl
set_option maxRecDepth 100000 in
theorem f_259_1 : fe 259 1 = some (.istore_n 1, 1, 12, none) := fe_of pg_259 rfl
set_option maxRecDepth 100000 in
theorem f_259_2 : fe 259 2 = some (.iload_n 1, 1, 12, none) := fe_of pg_259 rfl
set_option maxRecDepth 100000 in
theorem f_259_3 : fe 259 3 = some (.iconst 1, 1, 12, none) := fe_of pg_259 rfl
set_option maxRecDepth 100000 in
theorem f_259_4 : fe 259 4 = some (.aload_n 0, 1, 12, none) := fe_of pg_259 rfl
set_option maxRecDepth 100000 in
theorem f_259_5 : fe 259 5 = some (.getfield 303, 3, 12, none) := fe_of pg_259 rfl
set_option maxRecDepth 100000 in
theorem f_259_8 : fe 259 8 = some (.ishl, 1, 12, none) := fe_of pg_259 rfl
set_option maxRecDepth 100000 in
theorem f_259_9 : fe 259 9 = some (.if_icmp .ge 21, 3, 12, none) := fe_of pg_259 rfl
set_option maxRecDepth 100000 in
theorem f_259_12 : fe 259 12 = some (.aload_n 0, 1, 12, none) := fe_of pg_259 rfl
set_option maxRecDepth 100000 in
theorem f_259_13 : fe 259 13 = some (.getfield 53, 3, 12, none) := fe_of pg_259 rfl
set_option maxRecDepth 100000 in
theorem f_259_16 : fe 259 16 = some (.iload_n 1, 1, 12, none) := fe_of pg_259 rfl
set_option maxRecDepth 100000 in
theorem f_259_17 : fe 259 17 = some (.aload_n 0, 1, 12, none) := fe_of pg_259 rfl
set_option maxRecDepth 100000 in
theorem f_259_18 : fe 259 18 = some (.iload_n 1, 1, 12, none) := fe_of pg_259 rfl
set_option maxRecDepth 100000 in
theorem f_259_19 : fe 259 19 = some (.iconst 0, 1, 12, none) := fe_of pg_259 rfl
set_option maxRecDepth 100000 in
theorem f_259_20 : fe 259 20 = some (.invokevirtual 412, 3, 12, none) := fe_of pg_259 rfl
set_option maxRecDepth 100000 in
theorem f_259_23 : fe 259 23 = some (.bastore, 1, 12, none) := fe_of pg_259 rfl
set_option maxRecDepth 100000 in
theorem f_259_24 : fe 259 24 = some (.iinc 1 1, 3, 12, none) := fe_of pg_259 rfl
set_option maxRecDepth 100000 in
theorem f_259_27 : fe 259 27 = some (.goto (-25), 3, 12, none) := fe_of pg_259 rfl
set_option maxRecDepth 100000 in
theorem f_259_30 : fe 259 30 = some (.return_, 1, 12, none) := fe_of pg_259 rfl
set_option maxRecDepth 100000 in
theorem f_260_0 : fe 260 0 = some (.iconst 0, 1, 12, some .int) := fe_of pg_260 rfl
set_option maxRecDepth 100000 in
theorem f_260_1 : fe 260 1 = some (.istore_n 2, 1, 12, some .int) := fe_of pg_260 rfl
set_option maxRecDepth 100000 in
theorem f_260_2 : fe 260 2 = some (.iconst 0, 1, 12, some .int) := fe_of pg_260 rfl
set_option maxRecDepth 100000 in
theorem f_260_3 : fe 260 3 = some (.istore_n 3, 1, 12, some .int) := fe_of pg_260 rfl
set_option maxRecDepth 100000 in
theorem f_260_4 : fe 260 4 = some (.iload_n 3, 1, 12, some .int) := fe_of pg_260 rfl
set_option maxRecDepth 100000 in
theorem f_260_5 : fe 260 5 = some (.aload_n 0, 1, 12, some .int) := fe_of pg_260 rfl
set_option maxRecDepth 100000 in
theorem f_260_6 : fe 260 6 = some (.getfield 303, 3, 12, some .int) := fe_of pg_260 rfl
set_option maxRecDepth 100000 in
theorem f_260_9 : fe 260 9 = some (.if_icmp .ge 32, 3, 12, some .int) := fe_of pg_260 rfl
set_option maxRecDepth 100000 in
theorem f_260_12 : fe 260 12 = some (.iload_n 2, 1, 12, some .int) := fe_of pg_260 rfl
set_option maxRecDepth 100000 in
theorem f_260_13 : fe 260 13 = some (.iload_n 1, 1, 12, some .int) := fe_of pg_260 rfl
set_option maxRecDepth 100000 in
theorem f_260_14 : fe 260 14 = some (.iload_n 3, 1, 12, some .int) := fe_of pg_260 rfl
set_option maxRecDepth 100000 in
theorem f_260_15 : fe 260 15 = some (.invokestatic 113, 3, 12, some .int) := fe_of pg_260 rfl
set_option maxRecDepth 100000 in
theorem f_260_18 : fe 260 18 = some (.ifCond .eq 14, 3, 12, some .int) := fe_of pg_260 rfl
set_option maxRecDepth 100000 in
theorem f_260_21 : fe 260 21 = some (.aload_n 0, 1, 12, some .int) := fe_of pg_260 rfl
set_option maxRecDepth 100000 in
theorem f_260_22 : fe 260 22 = some (.bipush 19, 2, 12, some .int) := fe_of pg_260 rfl
set_option maxRecDepth 100000 in
theorem f_260_24 : fe 260 24 = some (.iload_n 3, 1, 12, some .int) := fe_of pg_260 rfl
set_option maxRecDepth 100000 in
theorem f_260_25 : fe 260 25 = some (.iadd, 1, 12, some .int) := fe_of pg_260 rfl
set_option maxRecDepth 100000 in
theorem f_260_26 : fe 260 26 = some (.invokevirtual 293, 3, 12, some .int) := fe_of pg_260 rfl
set_option maxRecDepth 100000 in
theorem f_260_29 : fe 260 29 = some (.goto 4, 3, 12, some .int) := fe_of pg_260 rfl
set_option maxRecDepth 100000 in
theorem f_260_32 : fe 260 32 = some (.iconst 0, 1, 12, some .int) := fe_of pg_260 rfl
set_option maxRecDepth 100000 in
theorem f_260_33 : fe 260 33 = some (.iadd, 1, 12, some .int) := fe_of pg_260 rfl
set_option maxRecDepth 100000 in
theorem f_260_34 : fe 260 34 = some (.istore_n 2, 1, 12, some .int) := fe_of pg_260 rfl
set_option maxRecDepth 100000 in
theorem f_260_35 : fe 260 35 = some (.iinc 3 1, 3, 12, some .int) := fe_of pg_260 rfl
set_option maxRecDepth 100000 in
theorem f_260_38 : fe 260 38 = some (.goto (-34), 3, 12, some .int) := fe_of pg_260 rfl
set_option maxRecDepth 100000 in
theorem f_260_41 : fe 260 41 = some (.iload_n 2, 1, 12, some .int) := fe_of pg_260 rfl
set_option maxRecDepth 100000 in
theorem f_260_42 : fe 260 42 = some (.ireturn, 1, 12, some .int) := fe_of pg_260 rfl
set_option maxRecDepth 100000 in
theorem f_261_0 : fe 261 0 = some (.iconst (-1), 1, 12, some .int) := fe_of pg_261 rfl
set_option maxRecDepth 100000 in
theorem f_261_1 : fe 261 1 = some (.istore_n 1, 1, 12, some .int) := fe_of pg_261 rfl
set_option maxRecDepth 100000 in
theorem f_261_2 : fe 261 2 = some (.iconst 0, 1, 12, some .int) := fe_of pg_261 rfl
set_option maxRecDepth 100000 in
theorem f_261_3 : fe 261 3 = some (.istore_n 2, 1, 12, some .int) := fe_of pg_261 rfl
set_option maxRecDepth 100000 in
theorem f_261_4 : fe 261 4 = some (.iload_n 2, 1, 12, some .int) := fe_of pg_261 rfl
set_option maxRecDepth 100000 in
theorem f_261_5 : fe 261 5 = some (.iconst 1, 1, 12, some .int) := fe_of pg_261 rfl
set_option maxRecDepth 100000 in
theorem f_261_6 : fe 261 6 = some (.aload_n 0, 1, 12, some .int) := fe_of pg_261 rfl
set_option maxRecDepth 100000 in
theorem f_261_7 : fe 261 7 = some (.getfield 303, 3, 12, some .int) := fe_of pg_261 rfl
set_option maxRecDepth 100000 in
theorem f_261_10 : fe 261 10 = some (.ishl, 1, 12, some .int) := fe_of pg_261 rfl
set_option maxRecDepth 100000 in
theorem f_261_11 : fe 261 11 = some (.if_icmp .ge 40, 3, 12, some .int) := fe_of pg_261 rfl
set_option maxRecDepth 100000 in
theorem f_261_14 : fe 261 14 = some (.aload_n 0, 1, 12, some .int) := fe_of pg_261 rfl
set_option maxRecDepth 100000 in
theorem f_261_15 : fe 261 15 = some (.getfield 53, 3, 12, some .int) := fe_of pg_261 rfl
set_option maxRecDepth 100000 in
theorem f_261_18 : fe 261 18 = some (.iload_n 2, 1, 12, some .int) := fe_of pg_261 rfl
set_option maxRecDepth 100000 in
theorem f_261_19 : fe 261 19 = some (.baload, 1, 12, some .int) := fe_of pg_261 rfl
set_option maxRecDepth 100000 in
theorem f_261_20 : fe 261 20 = some (.ifCond .eq 23, 3, 12, some .int) := fe_of pg_261 rfl
set_option maxRecDepth 100000 in
theorem f_261_23 : fe 261 23 = some (.iload_n 1, 1, 12, some .int) := fe_of pg_261 rfl
set_option maxRecDepth 100000 in
theorem f_261_24 : fe 261 24 = some (.iconst (-1), 1, 12, some .int) := fe_of pg_261 rfl
set_option maxRecDepth 100000 in
theorem f_261_25 : fe 261 25 = some (.if_icmp .eq 14, 3, 12, some .int) := fe_of pg_261 rfl
set_option maxRecDepth 100000 in
theorem f_261_28 : fe 261 28 = some (.iload_n 2, 1, 12, some .int) := fe_of pg_261 rfl
set_option maxRecDepth 100000 in
theorem f_261_29 : fe 261 29 = some (.invokestatic 391, 3, 12, some .int) := fe_of pg_261 rfl
set_option maxRecDepth 100000 in
theorem f_261_32 : fe 261 32 = some (.iload_n 1, 1, 12, some .int) := fe_of pg_261 rfl
set_option maxRecDepth 100000 in
theorem f_261_33 : fe 261 33 = some (.invokestatic 391, 3, 12, some .int) := fe_of pg_261 rfl
set_option maxRecDepth 100000 in
theorem f_261_36 : fe 261 36 = some (.if_icmp .ge 7, 3, 12, some .int) := fe_of pg_261 rfl
set_option maxRecDepth 100000 in
theorem f_261_39 : fe 261 39 = some (.iload_n 2, 1, 12, some .int) := fe_of pg_261 rfl
set_option maxRecDepth 100000 in
theorem f_261_40 : fe 261 40 = some (.goto 4, 3, 12, some .int) := fe_of pg_261 rfl
set_option maxRecDepth 100000 in
theorem f_261_43 : fe 261 43 = some (.iload_n 1, 1, 12, some .int) := fe_of pg_261 rfl
set_option maxRecDepth 100000 in
theorem f_261_44 : fe 261 44 = some (.istore_n 1, 1, 12, some .int) := fe_of pg_261 rfl
set_option maxRecDepth 100000 in
theorem f_261_45 : fe 261 45 = some (.iinc 2 1, 3, 12, some .int) := fe_of pg_261 rfl
set_option maxRecDepth 100000 in
theorem f_261_48 : fe 261 48 = some (.goto (-44), 3, 12, some .int) := fe_of pg_261 rfl
set_option maxRecDepth 100000 in
theorem f_261_51 : fe 261 51 = some (.iload_n 1, 1, 12, some .int) := fe_of pg_261 rfl
set_option maxRecDepth 100000 in
theorem f_261_52 : fe 261 52 = some (.ireturn, 1, 12, some .int) := fe_of pg_261 rfl
set_option maxRecDepth 100000 in
theorem f_262_0 : fe 262 0 = some (.iconst (-1), 1, 12, some .int) := fe_of pg_262 rfl
set_option maxRecDepth 100000 in
theorem f_262_1 : fe 262 1 = some (.istore_n 1, 1, 12, some .int) := fe_of pg_262 rfl
set_option maxRecDepth 100000 in
theorem f_262_2 : fe 262 2 = some (.iconst 0, 1, 12, some .int) := fe_of pg_262 rfl
set_option maxRecDepth 100000 in
theorem f_262_3 : fe 262 3 = some (.istore_n 2, 1, 12, some .int) := fe_of pg_262 rfl
set_option maxRecDepth 100000 in
theorem f_262_4 : fe 262 4 = some (.iload_n 2, 1, 12, some .int) := fe_of pg_262 rfl
set_option maxRecDepth 100000 in
theorem f_262_5 : fe 262 5 = some (.iconst 1, 1, 12, some .int) := fe_of pg_262 rfl
set_option maxRecDepth 100000 in
theorem f_262_6 : fe 262 6 = some (.aload_n 0, 1, 12, some .int) := fe_of pg_262 rfl
set_option maxRecDepth 100000 in
theorem f_262_7 : fe 262 7 = some (.getfield 303, 3, 12, some .int) := fe_of pg_262 rfl
set_option maxRecDepth 100000 in
theorem f_262_10 : fe 262 10 = some (.ishl, 1, 12, some .int) := fe_of pg_262 rfl
set_option maxRecDepth 100000 in
theorem f_262_11 : fe 262 11 = some (.if_icmp .ge 42, 3, 12, some .int) := fe_of pg_262 rfl
set_option maxRecDepth 100000 in
theorem f_262_14 : fe 262 14 = some (.aload_n 0, 1, 12, some .int) := fe_of pg_262 rfl
set_option maxRecDepth 100000 in
theorem f_262_15 : fe 262 15 = some (.getfield 53, 3, 12, some .int) := fe_of pg_262 rfl
set_option maxRecDepth 100000 in
theorem f_262_18 : fe 262 18 = some (.iload_n 2, 1, 12, some .int) := fe_of pg_262 rfl
set_option maxRecDepth 100000 in
theorem f_262_19 : fe 262 19 = some (.baload, 1, 12, some .int) := fe_of pg_262 rfl
set_option maxRecDepth 100000 in
theorem f_262_20 : fe 262 20 = some (.ifCond .eq 25, 3, 12, some .int) := fe_of pg_262 rfl
set_option maxRecDepth 100000 in
theorem f_262_23 : fe 262 23 = some (.iload_n 1, 1, 12, some .int) := fe_of pg_262 rfl
set_option maxRecDepth 100000 in
theorem f_262_24 : fe 262 24 = some (.iconst (-1), 1, 12, some .int) := fe_of pg_262 rfl
set_option maxRecDepth 100000 in
theorem f_262_25 : fe 262 25 = some (.if_icmp .eq 16, 3, 12, some .int) := fe_of pg_262 rfl
set_option maxRecDepth 100000 in
theorem f_262_28 : fe 262 28 = some (.aload_n 0, 1, 12, some .int) := fe_of pg_262 rfl
set_option maxRecDepth 100000 in
theorem f_262_29 : fe 262 29 = some (.iload_n 2, 1, 12, some .int) := fe_of pg_262 rfl
set_option maxRecDepth 100000 in
theorem f_262_30 : fe 262 30 = some (.invokevirtual 415, 3, 12, some .int) := fe_of pg_262 rfl
set_option maxRecDepth 100000 in
theorem f_262_33 : fe 262 33 = some (.aload_n 0, 1, 12, some .int) := fe_of pg_262 rfl
set_option maxRecDepth 100000 in
theorem f_262_34 : fe 262 34 = some (.iload_n 1, 1, 12, some .int) := fe_of pg_262 rfl
set_option maxRecDepth 100000 in
theorem f_262_35 : fe 262 35 = some (.invokevirtual 415, 3, 12, some .int) := fe_of pg_262 rfl
set_option maxRecDepth 100000 in
theorem f_262_38 : fe 262 38 = some (.if_icmp .ge 7, 3, 12, some .int) := fe_of pg_262 rfl
set_option maxRecDepth 100000 in
theorem f_262_41 : fe 262 41 = some (.iload_n 2, 1, 12, some .int) := fe_of pg_262 rfl
set_option maxRecDepth 100000 in
theorem f_262_42 : fe 262 42 = some (.goto 4, 3, 12, some .int) := fe_of pg_262 rfl
set_option maxRecDepth 100000 in
theorem f_262_45 : fe 262 45 = some (.iload_n 1, 1, 12, some .int) := fe_of pg_262 rfl
set_option maxRecDepth 100000 in
theorem f_262_46 : fe 262 46 = some (.istore_n 1, 1, 12, some .int) := fe_of pg_262 rfl
set_option maxRecDepth 100000 in
theorem f_262_47 : fe 262 47 = some (.iinc 2 1, 3, 12, some .int) := fe_of pg_262 rfl
set_option maxRecDepth 100000 in
theorem f_262_50 : fe 262 50 = some (.goto (-46), 3, 12, some .int) := fe_of pg_262 rfl
set_option maxRecDepth 100000 in
theorem f_262_53 : fe 262 53 = some (.iload_n 1, 1, 12, some .int) := fe_of pg_262 rfl
set_option maxRecDepth 100000 in
theorem f_262_54 : fe 262 54 = some (.ireturn, 1, 12, some .int) := fe_of pg_262 rfl
set_option maxRecDepth 100000 in
theorem f_263_0 : fe 263 0 = some (.aload_n 0, 1, 12, some .int) := fe_of pg_263 rfl
set_option maxRecDepth 100000 in
theorem f_263_1 : fe 263 1 = some (.getfield 57, 3, 12, some .int) := fe_of pg_263 rfl
set_option maxRecDepth 100000 in
theorem f_263_4 : fe 263 4 = some (.iconst 0, 1, 12, some .int) := fe_of pg_263 rfl
set_option maxRecDepth 100000 in
theorem f_263_5 : fe 263 5 = some (.iconst 0, 1, 12, some .int) := fe_of pg_263 rfl
set_option maxRecDepth 100000 in
theorem f_263_6 : fe 263 6 = some (.iastore, 1, 12, some .int) := fe_of pg_263 rfl
set_option maxRecDepth 100000 in
theorem f_263_7 : fe 263 7 = some (.iconst 1, 1, 12, some .int) := fe_of pg_263 rfl
set_option maxRecDepth 100000 in
theorem f_263_8 : fe 263 8 = some (.istore_n 1, 1, 12, some .int) := fe_of pg_263 rfl
set_option maxRecDepth 100000 in
theorem f_263_9 : fe 263 9 = some (.iload_n 1, 1, 12, some .int) := fe_of pg_263 rfl
set_option maxRecDepth 100000 in
theorem f_263_10 : fe 263 10 = some (.iconst 1, 1, 12, some .int) := fe_of pg_263 rfl
set_option maxRecDepth 100000 in
theorem f_263_11 : fe 263 11 = some (.aload_n 0, 1, 12, some .int) := fe_of pg_263 rfl
set_option maxRecDepth 100000 in
theorem f_263_12 : fe 263 12 = some (.getfield 303, 3, 12, some .int) := fe_of pg_263 rfl
set_option maxRecDepth 100000 in
theorem f_263_15 : fe 263 15 = some (.ishl, 1, 12, some .int) := fe_of pg_263 rfl
set_option maxRecDepth 100000 in
theorem f_263_16 : fe 263 16 = some (.if_icmp .ge 63, 3, 12, some .int) := fe_of pg_263 rfl
set_option maxRecDepth 100000 in
theorem f_263_19 : fe 263 19 = some (.iconst 0, 1, 12, some .int) := fe_of pg_263 rfl
set_option maxRecDepth 100000 in
theorem f_263_20 : fe 263 20 = some (.istore_n 2, 1, 12, some .int) := fe_of pg_263 rfl
set_option maxRecDepth 100000 in
theorem f_263_21 : fe 263 21 = some (.iload_n 1, 1, 12, some .int) := fe_of pg_263 rfl
set_option maxRecDepth 100000 in
theorem f_263_22 : fe 263 22 = some (.istore_n 3, 1, 12, some .int) := fe_of pg_263 rfl
set_option maxRecDepth 100000 in
theorem f_263_23 : fe 263 23 = some (.iload_n 3, 1, 12, some .int) := fe_of pg_263 rfl
set_option maxRecDepth 100000 in
theorem f_263_24 : fe 263 24 = some (.ifCond .le 42, 3, 12, some .int) := fe_of pg_263 rfl
set_option maxRecDepth 100000 in
theorem f_263_27 : fe 263 27 = some (.iload_n 2, 1, 12, some .int) := fe_of pg_263 rfl
set_option maxRecDepth 100000 in
theorem f_263_28 : fe 263 28 = some (.aload_n 0, 1, 12, some .int) := fe_of pg_263 rfl
set_option maxRecDepth 100000 in
theorem f_263_29 : fe 263 29 = some (.getfield 57, 3, 12, some .int) := fe_of pg_263 rfl
set_option maxRecDepth 100000 in
theorem f_263_32 : fe 263 32 = some (.iload_n 1, 1, 12, some .int) := fe_of pg_263 rfl
set_option maxRecDepth 100000 in
theorem f_263_33 : fe 263 33 = some (.iload_n 3, 1, 12, some .int) := fe_of pg_263 rfl
set_option maxRecDepth 100000 in
theorem f_263_34 : fe 263 34 = some (.iconst (-1), 1, 12, some .int) := fe_of pg_263 rfl
set_option maxRecDepth 100000 in
theorem f_263_35 : fe 263 35 = some (.ixor, 1, 12, some .int) := fe_of pg_263 rfl
set_option maxRecDepth 100000 in
theorem f_263_36 : fe 263 36 = some (.iand, 1, 12, some .int) := fe_of pg_263 rfl
set_option maxRecDepth 100000 in
theorem f_263_37 : fe 263 37 = some (.iaload, 1, 12, some .int) := fe_of pg_263 rfl
set_option maxRecDepth 100000 in
theorem f_263_38 : fe 263 38 = some (.aload_n 0, 1, 12, some .int) := fe_of pg_263 rfl
set_option maxRecDepth 100000 in
theorem f_263_39 : fe 263 39 = some (.getfield 53, 3, 12, some .int) := fe_of pg_263 rfl
set_option maxRecDepth 100000 in
theorem f_263_42 : fe 263 42 = some (.iload_n 3, 1, 12, some .int) := fe_of pg_263 rfl
set_option maxRecDepth 100000 in
theorem f_263_43 : fe 263 43 = some (.baload, 1, 12, some .int) := fe_of pg_263 rfl
set_option maxRecDepth 100000 in
theorem f_263_44 : fe 263 44 = some (.ifCond .eq 7, 3, 12, some .int) := fe_of pg_263 rfl
set_option maxRecDepth 100000 in
theorem f_263_47 : fe 263 47 = some (.iconst 1, 1, 12, some .int) := fe_of pg_263 rfl
set_option maxRecDepth 100000 in
theorem f_263_48 : fe 263 48 = some (.goto 4, 3, 12, some .int) := fe_of pg_263 rfl
set_option maxRecDepth 100000 in
theorem f_263_51 : fe 263 51 = some (.iconst 0, 1, 12, some .int) := fe_of pg_263 rfl
set_option maxRecDepth 100000 in
theorem f_263_52 : fe 263 52 = some (.iadd, 1, 12, some .int) := fe_of pg_263 rfl
set_option maxRecDepth 100000 in
theorem f_263_53 : fe 263 53 = some (.invokestatic 349, 3, 12, some .int) := fe_of pg_263 rfl
set_option maxRecDepth 100000 in
theorem f_263_56 : fe 263 56 = some (.istore_n 2, 1, 12, some .int) := fe_of pg_263 rfl
set_option maxRecDepth 100000 in
theorem f_263_57 : fe 263 57 = some (.iload_n 3, 1, 12, some .int) := fe_of pg_263 rfl
set_option maxRecDepth 100000 in
theorem f_263_58 : fe 263 58 = some (.iconst 1, 1, 12, some .int) := fe_of pg_263 rfl
set_option maxRecDepth 100000 in
theorem f_263_59 : fe 263 59 = some (.isub, 1, 12, some .int) := fe_of pg_263 rfl
set_option maxRecDepth 100000 in
theorem f_263_60 : fe 263 60 = some (.iload_n 1, 1, 12, some .int) := fe_of pg_263 rfl
set_option maxRecDepth 100000 in
theorem f_263_61 : fe 263 61 = some (.iand, 1, 12, some .int) := fe_of pg_263 rfl
set_option maxRecDepth 100000 in
theorem f_263_62 : fe 263 62 = some (.istore_n 3, 1, 12, some .int) := fe_of pg_263 rfl
set_option maxRecDepth 100000 in
theorem f_263_63 : fe 263 63 = some (.goto (-40), 3, 12, some .int) := fe_of pg_263 rfl
set_option maxRecDepth 100000 in
theorem f_263_66 : fe 263 66 = some (.aload_n 0, 1, 12, some .int) := fe_of pg_263 rfl
set_option maxRecDepth 100000 in
theorem f_263_67 : fe 263 67 = some (.getfield 57, 3, 12, some .int) := fe_of pg_263 rfl
set_option maxRecDepth 100000 in
theorem f_263_70 : fe 263 70 = some (.iload_n 1, 1, 12, some .int) := fe_of pg_263 rfl
set_option maxRecDepth 100000 in
theorem f_263_71 : fe 263 71 = some (.iload_n 2, 1, 12, some .int) := fe_of pg_263 rfl
set_option maxRecDepth 100000 in
theorem f_263_72 : fe 263 72 = some (.iastore, 1, 12, some .int) := fe_of pg_263 rfl
set_option maxRecDepth 100000 in
theorem f_263_73 : fe 263 73 = some (.iinc 1 1, 3, 12, some .int) := fe_of pg_263 rfl
set_option maxRecDepth 100000 in
theorem f_263_76 : fe 263 76 = some (.goto (-67), 3, 12, some .int) := fe_of pg_263 rfl
set_option maxRecDepth 100000 in
theorem f_263_79 : fe 263 79 = some (.aload_n 0, 1, 12, some .int) := fe_of pg_263 rfl
set_option maxRecDepth 100000 in
theorem f_263_80 : fe 263 80 = some (.getfield 57, 3, 12, some .int) := fe_of pg_263 rfl
set_option maxRecDepth 100000 in
theorem f_263_83 : fe 263 83 = some (.iconst 1, 1, 12, some .int) := fe_of pg_263 rfl
set_option maxRecDepth 100000 in
theorem f_263_84 : fe 263 84 = some (.aload_n 0, 1, 12, some .int) := fe_of pg_263 rfl
set_option maxRecDepth 100000 in
theorem f_263_85 : fe 263 85 = some (.getfield 303, 3, 12, some .int) := fe_of pg_263 rfl
set_option maxRecDepth 100000 in
theorem f_263_88 : fe 263 88 = some (.ishl, 1, 12, some .int) := fe_of pg_263 rfl
set_option maxRecDepth 100000 in
theorem f_263_89 : fe 263 89 = some (.iconst 1, 1, 12, some .int) := fe_of pg_263 rfl
set_option maxRecDepth 100000 in
theorem f_263_90 : fe 263 90 = some (.isub, 1, 12, some .int) := fe_of pg_263 rfl
set_option maxRecDepth 100000 in
theorem f_263_91 : fe 263 91 = some (.iaload, 1, 12, some .int) := fe_of pg_263 rfl
set_option maxRecDepth 100000 in
theorem f_263_92 : fe 263 92 = some (.ireturn, 1, 12, some .int) := fe_of pg_263 rfl
set_option maxRecDepth 100000 in
theorem f_264_0 : fe 264 0 = some (.iconst 0, 1, 12, some .int) := fe_of pg_264 rfl
set_option maxRecDepth 100000 in
theorem f_264_1 : fe 264 1 = some (.istore_n 1, 1, 12, some .int) := fe_of pg_264 rfl
set_option maxRecDepth 100000 in
theorem f_264_2 : fe 264 2 = some (.iconst 0, 1, 12, some .int) := fe_of pg_264 rfl
set_option maxRecDepth 100000 in
theorem f_264_3 : fe 264 3 = some (.istore_n 2, 1, 12, some .int) := fe_of pg_264 rfl
set_option maxRecDepth 100000 in
theorem f_264_4 : fe 264 4 = some (.iload_n 2, 1, 12, some .int) := fe_of pg_264 rfl
set_option maxRecDepth 100000 in
theorem f_264_5 : fe 264 5 = some (.aload_n 0, 1, 12, some .int) := fe_of pg_264 rfl
set_option maxRecDepth 100000 in
theorem f_264_6 : fe 264 6 = some (.getfield 303, 3, 12, some .int) := fe_of pg_264 rfl
set_option maxRecDepth 100000 in
theorem f_264_9 : fe 264 9 = some (.if_icmp .ge 74, 3, 12, some .int) := fe_of pg_264 rfl
set_option maxRecDepth 100000 in
theorem f_264_12 : fe 264 12 = some (.iconst 0, 1, 12, some .int) := fe_of pg_264 rfl
set_option maxRecDepth 100000 in
theorem f_264_13 : fe 264 13 = some (.istore_n 3, 1, 12, some .int) := fe_of pg_264 rfl
set_option maxRecDepth 100000 in
theorem f_264_14 : fe 264 14 = some (.iconst 0, 1, 12, some .int) := fe_of pg_264 rfl
set_option maxRecDepth 100000 in
theorem f_264_15 : fe 264 15 = some (.istore 4, 2, 12, some .int) := fe_of pg_264 rfl
set_option maxRecDepth 100000 in
theorem f_264_17 : fe 264 17 = some (.iload 4, 2, 12, some .int) := fe_of pg_264 rfl
set_option maxRecDepth 100000 in
theorem f_264_19 : fe 264 19 = some (.iconst 1, 1, 12, some .int) := fe_of pg_264 rfl
set_option maxRecDepth 100000 in
theorem f_264_20 : fe 264 20 = some (.aload_n 0, 1, 12, some .int) := fe_of pg_264 rfl
set_option maxRecDepth 100000 in
theorem f_264_21 : fe 264 21 = some (.getfield 303, 3, 12, some .int) := fe_of pg_264 rfl
set_option maxRecDepth 100000 in
theorem f_264_24 : fe 264 24 = some (.ishl, 1, 12, some .int) := fe_of pg_264 rfl
set_option maxRecDepth 100000 in
theorem f_264_25 : fe 264 25 = some (.if_icmp .ge 38, 3, 12, some .int) := fe_of pg_264 rfl
set_option maxRecDepth 100000 in
theorem f_264_28 : fe 264 28 = some (.iload_n 3, 1, 12, some .int) := fe_of pg_264 rfl
set_option maxRecDepth 100000 in
theorem f_264_29 : fe 264 29 = some (.ifCond .ne 22, 3, 12, some .int) := fe_of pg_264 rfl
set_option maxRecDepth 100000 in
theorem f_264_32 : fe 264 32 = some (.aload_n 0, 1, 12, some .int) := fe_of pg_264 rfl
set_option maxRecDepth 100000 in
theorem f_264_33 : fe 264 33 = some (.getfield 53, 3, 12, some .int) := fe_of pg_264 rfl
set_option maxRecDepth 100000 in
theorem f_264_36 : fe 264 36 = some (.iload 4, 2, 12, some .int) := fe_of pg_264 rfl
set_option maxRecDepth 100000 in
theorem f_264_38 : fe 264 38 = some (.baload, 1, 12, some .int) := fe_of pg_264 rfl
set_option maxRecDepth 100000 in
theorem f_264_39 : fe 264 39 = some (.ifCond .eq 16, 3, 12, some .int) := fe_of pg_264 rfl
set_option maxRecDepth 100000 in
theorem f_264_42 : fe 264 42 = some (.iload 4, 2, 12, some .int) := fe_of pg_264 rfl
set_option maxRecDepth 100000 in
theorem f_264_44 : fe 264 44 = some (.iload_n 2, 1, 12, some .int) := fe_of pg_264 rfl
set_option maxRecDepth 100000 in
theorem f_264_45 : fe 264 45 = some (.invokestatic 113, 3, 12, some .int) := fe_of pg_264 rfl
set_option maxRecDepth 100000 in
theorem f_264_48 : fe 264 48 = some (.ifCond .ne 7, 3, 12, some .int) := fe_of pg_264 rfl
set_option maxRecDepth 100000 in
theorem f_264_51 : fe 264 51 = some (.iconst 1, 1, 12, some .int) := fe_of pg_264 rfl
set_option maxRecDepth 100000 in
theorem f_264_52 : fe 264 52 = some (.goto 4, 3, 12, some .int) := fe_of pg_264 rfl
set_option maxRecDepth 100000 in
theorem f_264_55 : fe 264 55 = some (.iconst 0, 1, 12, some .int) := fe_of pg_264 rfl
set_option maxRecDepth 100000 in
theorem f_264_56 : fe 264 56 = some (.istore_n 3, 1, 12, some .int) := fe_of pg_264 rfl
set_option maxRecDepth 100000 in
theorem f_264_57 : fe 264 57 = some (.iinc 4 1, 3, 12, some .int) := fe_of pg_264 rfl
set_option maxRecDepth 100000 in
theorem f_264_60 : fe 264 60 = some (.goto (-43), 3, 12, some .int) := fe_of pg_264 rfl
set_option maxRecDepth 100000 in
theorem f_264_63 : fe 264 63 = some (.iload_n 1, 1, 12, some .int) := fe_of pg_264 rfl
set_option maxRecDepth 100000 in
theorem f_264_64 : fe 264 64 = some (.iload_n 3, 1, 12, some .int) := fe_of pg_264 rfl
set_option maxRecDepth 100000 in
theorem f_264_65 : fe 264 65 = some (.ifCond .eq 7, 3, 12, some .int) := fe_of pg_264 rfl
set_option maxRecDepth 100000 in
theorem f_264_68 : fe 264 68 = some (.iconst 0, 1, 12, some .int) := fe_of pg_264 rfl
set_option maxRecDepth 100000 in
theorem f_264_69 : fe 264 69 = some (.goto 6, 3, 12, some .int) := fe_of pg_264 rfl
set_option maxRecDepth 100000 in
theorem f_264_72 : fe 264 72 = some (.iconst 1, 1, 12, some .int) := fe_of pg_264 rfl
set_option maxRecDepth 100000 in
theorem f_264_73 : fe 264 73 = some (.iload_n 2, 1, 12, some .int) := fe_of pg_264 rfl
set_option maxRecDepth 100000 in
theorem f_264_74 : fe 264 74 = some (.ishl, 1, 12, some .int) := fe_of pg_264 rfl
set_option maxRecDepth 100000 in
theorem f_264_75 : fe 264 75 = some (.ior, 1, 12, some .int) := fe_of pg_264 rfl
set_option maxRecDepth 100000 in
theorem f_264_76 : fe 264 76 = some (.istore_n 1, 1, 12, some .int) := fe_of pg_264 rfl
set_option maxRecDepth 100000 in
theorem f_264_77 : fe 264 77 = some (.iinc 2 1, 3, 12, some .int) := fe_of pg_264 rfl
set_option maxRecDepth 100000 in
theorem f_264_80 : fe 264 80 = some (.goto (-76), 3, 12, some .int) := fe_of pg_264 rfl
set_option maxRecDepth 100000 in
theorem f_264_83 : fe 264 83 = some (.iload_n 1, 1, 12, some .int) := fe_of pg_264 rfl
set_option maxRecDepth 100000 in
theorem f_264_84 : fe 264 84 = some (.ireturn, 1, 12, some .int) := fe_of pg_264 rfl
set_option maxRecDepth 100000 in
theorem f_265_0 : fe 265 0 = some (.aload_n 0, 1, 12, some .int) := fe_of pg_265 rfl
set_option maxRecDepth 100000 in
theorem f_265_1 : fe 265 1 = some (.iconst 0, 1, 12, some .int) := fe_of pg_265 rfl
set_option maxRecDepth 100000 in
theorem f_265_2 : fe 265 2 = some (.putfield 109, 3, 12, some .int) := fe_of pg_265 rfl
set_option maxRecDepth 100000 in
theorem f_265_5 : fe 265 5 = some (.aload_n 0, 1, 12, some .int) := fe_of pg_265 rfl
set_option maxRecDepth 100000 in
theorem f_265_6 : fe 265 6 = some (.iload_n 1, 1, 12, some .int) := fe_of pg_265 rfl
set_option maxRecDepth 100000 in
theorem f_265_7 : fe 265 7 = some (.invokevirtual 306, 3, 12, some .int) := fe_of pg_265 rfl
set_option maxRecDepth 100000 in
theorem f_265_10 : fe 265 10 = some (.ifCond .ne 5, 3, 12, some .int) := fe_of pg_265 rfl
set_option maxRecDepth 100000 in
theorem f_265_13 : fe 265 13 = some (.iconst (-1), 1, 12, some .int) := fe_of pg_265 rfl
set_option maxRecDepth 100000 in
theorem f_265_14 : fe 265 14 = some (.ireturn, 1, 12, some .int) := fe_of pg_265 rfl
set_option maxRecDepth 100000 in
theorem f_265_15 : fe 265 15 = some (.aload_n 0, 1, 12, some .int) := fe_of pg_265 rfl
set_option maxRecDepth 100000 in
theorem f_265_16 : fe 265 16 = some (.invokevirtual 418, 3, 12, some .int) := fe_of pg_265 rfl
set_option maxRecDepth 100000 in
theorem f_265_19 : fe 265 19 = some (.iload_n 2, 1, 12, some .int) := fe_of pg_265 rfl
set_option maxRecDepth 100000 in
theorem f_265_20 : fe 265 20 = some (.tableswitch 77 0 4 #[36, 41, 46, 67, 72], 36, 12, some .int) := fe_of pg_265 rfl
set_option maxRecDepth 100000 in
theorem f_265_56 : fe 265 56 = some (.aload_n 0, 1, 12, some .int) := fe_of pg_265 rfl
set_option maxRecDepth 100000 in
theorem f_265_57 : fe 265 57 = some (.invokevirtual 421, 3, 12, some .int) := fe_of pg_265 rfl
set_option maxRecDepth 100000 in
theorem f_265_60 : fe 265 60 = some (.ireturn, 1, 12, some .int) := fe_of pg_265 rfl
set_option maxRecDepth 100000 in
theorem f_265_61 : fe 265 61 = some (.aload_n 0, 1, 12, some .int) := fe_of pg_265 rfl
set_option maxRecDepth 100000 in
theorem f_265_62 : fe 265 62 = some (.invokevirtual 424, 3, 12, some .int) := fe_of pg_265 rfl
set_option maxRecDepth 100000 in
theorem f_265_65 : fe 265 65 = some (.ireturn, 1, 12, some .int) := fe_of pg_265 rfl
set_option maxRecDepth 100000 in
theorem f_265_66 : fe 265 66 = some (.aload_n 0, 1, 12, some .int) := fe_of pg_265 rfl
set_option maxRecDepth 100000 in
theorem f_265_67 : fe 265 67 = some (.invokevirtual 424, 3, 12, some .int) := fe_of pg_265 rfl
set_option maxRecDepth 100000 in
theorem f_265_70 : fe 265 70 = some (.iconst (-1), 1, 12, some .int) := fe_of pg_265 rfl
set_option maxRecDepth 100000 in
theorem f_265_71 : fe 265 71 = some (.if_icmp .ne 7, 3, 12, some .int) := fe_of pg_265 rfl
set_option maxRecDepth 100000 in
theorem f_265_74 : fe 265 74 = some (.iconst (-1), 1, 12, some .int) := fe_of pg_265 rfl
set_option maxRecDepth 100000 in
theorem f_265_75 : fe 265 75 = some (.goto 11, 3, 12, some .int) := fe_of pg_265 rfl
set_option maxRecDepth 100000 in
theorem f_265_78 : fe 265 78 = some (.aload_n 0, 1, 12, some .int) := fe_of pg_265 rfl
set_option maxRecDepth 100000 in
theorem f_265_79 : fe 265 79 = some (.aload_n 0, 1, 12, some .int) := fe_of pg_265 rfl
set_option maxRecDepth 100000 in
theorem f_265_80 : fe 265 80 = some (.invokevirtual 424, 3, 12, some .int) := fe_of pg_265 rfl
set_option maxRecDepth 100000 in
theorem f_265_83 : fe 265 83 = some (.invokevirtual 415, 3, 12, some .int) := fe_of pg_265 rfl
set_option maxRecDepth 100000 in
theorem f_265_86 : fe 265 86 = some (.ireturn, 1, 12, some .int) := fe_of pg_265 rfl
set_option maxRecDepth 100000 in
theorem f_265_87 : fe 265 87 = some (.aload_n 0, 1, 12, some .int) := fe_of pg_265 rfl
set_option maxRecDepth 100000 in
theorem f_265_88 : fe 265 88 = some (.invokevirtual 427, 3, 12, some .int) := fe_of pg_265 rfl
set_option maxRecDepth 100000 in
theorem f_265_91 : fe 265 91 = some (.ireturn, 1, 12, some .int) := fe_of pg_265 rfl
set_option maxRecDepth 100000 in
theorem f_265_92 : fe 265 92 = some (.aload_n 0, 1, 12, some .int) := fe_of pg_265 rfl
set_option maxRecDepth 100000 in
theorem f_265_93 : fe 265 93 = some (.invokevirtual 430, 3, 12, some .int) := fe_of pg_265 rfl
set_option maxRecDepth 100000 in
theorem f_265_96 : fe 265 96 = some (.ireturn, 1, 12, some .int) := fe_of pg_265 rfl
set_option maxRecDepth 100000 in
theorem f_265_97 : fe 265 97 = some (.iconst (-1), 1, 12, some .int) := fe_of pg_265 rfl
set_option maxRecDepth 100000 in
theorem f_265_98 : fe 265 98 = some (.ireturn, 1, 12, some .int) := fe_of pg_265 rfl
set_option maxRecDepth 100000 in
theorem f_266_0 : fe 266 0 = some (.aload_n 0, 1, 12, some .boolean) := fe_of pg_266 rfl
set_option maxRecDepth 100000 in
theorem f_266_1 : fe 266 1 = some (.iload_n 1, 1, 12, some .boolean) := fe_of pg_266 rfl
set_option maxRecDepth 100000 in
theorem f_266_2 : fe 266 2 = some (.invokevirtual 306, 3, 12, some .boolean) := fe_of pg_266 rfl
set_option maxRecDepth 100000 in
theorem f_266_5 : fe 266 5 = some (.ifCond .eq 23, 3, 12, some .boolean) := fe_of pg_266 rfl
set_option maxRecDepth 100000 in
theorem f_266_8 : fe 266 8 = some (.aload_n 0, 1, 12, some .boolean) := fe_of pg_266 rfl
set_option maxRecDepth 100000 in
theorem f_266_9 : fe 266 9 = some (.iload_n 2, 1, 12, some .boolean) := fe_of pg_266 rfl
set_option maxRecDepth 100000 in
theorem f_266_10 : fe 266 10 = some (.invokevirtual 400, 3, 12, some .boolean) := fe_of pg_266 rfl
set_option maxRecDepth 100000 in
theorem f_266_13 : fe 266 13 = some (.ifCond .eq 15, 3, 12, some .boolean) := fe_of pg_266 rfl
set_option maxRecDepth 100000 in
theorem f_266_16 : fe 266 16 = some (.aload_n 0, 1, 12, some .boolean) := fe_of pg_266 rfl
set_option maxRecDepth 100000 in
theorem f_266_17 : fe 266 17 = some (.iload_n 2, 1, 12, some .boolean) := fe_of pg_266 rfl
set_option maxRecDepth 100000 in
theorem f_266_18 : fe 266 18 = some (.invokevirtual 409, 3, 12, some .boolean) := fe_of pg_266 rfl
set_option maxRecDepth 100000 in
theorem f_266_21 : fe 266 21 = some (.ifCond .eq 7, 3, 12, some .boolean) := fe_of pg_266 rfl
set_option maxRecDepth 100000 in
theorem f_266_24 : fe 266 24 = some (.iconst 1, 1, 12, some .boolean) := fe_of pg_266 rfl
set_option maxRecDepth 100000 in
theorem f_266_25 : fe 266 25 = some (.goto 4, 3, 12, some .boolean) := fe_of pg_266 rfl
set_option maxRecDepth 100000 in
theorem f_266_28 : fe 266 28 = some (.iconst 0, 1, 12, some .boolean) := fe_of pg_266 rfl
set_option maxRecDepth 100000 in
theorem f_266_29 : fe 266 29 = some (.ireturn, 1, 12, some .boolean) := fe_of pg_266 rfl
set_option maxRecDepth 100000 in
theorem f_267_0 : fe 267 0 = some (.aload_n 0, 1, 12, some .int) := fe_of pg_267 rfl
set_option maxRecDepth 100000 in
theorem f_267_1 : fe 267 1 = some (.iconst 0, 1, 12, some .int) := fe_of pg_267 rfl
set_option maxRecDepth 100000 in
theorem f_267_2 : fe 267 2 = some (.putfield 109, 3, 12, some .int) := fe_of pg_267 rfl
set_option maxRecDepth 100000 in
theorem f_267_5 : fe 267 5 = some (.aload_n 0, 1, 12, some .int) := fe_of pg_267 rfl
set_option maxRecDepth 100000 in
theorem f_267_6 : fe 267 6 = some (.iload_n 1, 1, 12, some .int) := fe_of pg_267 rfl
set_option maxRecDepth 100000 in
theorem f_267_7 : fe 267 7 = some (.iload_n 2, 1, 12, some .int) := fe_of pg_267 rfl
set_option maxRecDepth 100000 in
theorem f_267_8 : fe 267 8 = some (.invokevirtual 433, 3, 12, some .int) := fe_of pg_267 rfl
set_option maxRecDepth 100000 in
theorem f_267_11 : fe 267 11 = some (.ifCond .ne 5, 3, 12, some .int) := fe_of pg_267 rfl
set_option maxRecDepth 100000 in
theorem f_267_14 : fe 267 14 = some (.iconst (-1), 1, 12, some .int) := fe_of pg_267 rfl
set_option maxRecDepth 100000 in
theorem f_267_15 : fe 267 15 = some (.ireturn, 1, 12, some .int) := fe_of pg_267 rfl
set_option maxRecDepth 100000 in
theorem f_267_16 : fe 267 16 = some (.aload_n 0, 1, 12, some .int) := fe_of pg_267 rfl
set_option maxRecDepth 100000 in
theorem f_267_17 : fe 267 17 = some (.iconst 0, 1, 12, some .int) := fe_of pg_267 rfl
set_option maxRecDepth 100000 in
theorem f_267_18 : fe 267 18 = some (.invokevirtual 403, 3, 12, some .int) := fe_of pg_267 rfl
set_option maxRecDepth 100000 in
theorem f_267_21 : fe 267 21 = some (.iconst 0, 1, 12, some .int) := fe_of pg_267 rfl
set_option maxRecDepth 100000 in
theorem f_267_22 : fe 267 22 = some (.istore_n 3, 1, 12, some .int) := fe_of pg_267 rfl
set_option maxRecDepth 100000 in
theorem f_267_23 : fe 267 23 = some (.iload_n 3, 1, 12, some .int) := fe_of pg_267 rfl
set_option maxRecDepth 100000 in
theorem f_267_24 : fe 267 24 = some (.bipush 100, 2, 12, some .int) := fe_of pg_267 rfl
set_option maxRecDepth 100000 in
theorem f_267_26 : fe 267 26 = some (.if_icmp .ge 22, 3, 12, some .int) := fe_of pg_267 rfl
set_option maxRecDepth 100000 in
theorem f_267_29 : fe 267 29 = some (.aload_n 0, 1, 12, some .int) := fe_of pg_267 rfl
set_option maxRecDepth 100000 in
theorem f_267_30 : fe 267 30 = some (.iload_n 2, 1, 12, some .int) := fe_of pg_267 rfl
set_option maxRecDepth 100000 in
theorem f_267_31 : fe 267 31 = some (.iconst 0, 1, 12, some .int) := fe_of pg_267 rfl
set_option maxRecDepth 100000 in
theorem f_267_32 : fe 267 32 = some (.invokevirtual 406, 3, 12, some .int) := fe_of pg_267 rfl
set_option maxRecDepth 100000 in
theorem f_267_35 : fe 267 35 = some (.aload_n 0, 1, 12, some .int) := fe_of pg_267 rfl
set_option maxRecDepth 100000 in
theorem f_267_36 : fe 267 36 = some (.getfield 297, 3, 12, some .int) := fe_of pg_267 rfl
set_option maxRecDepth 100000 in
theorem f_267_39 : fe 267 39 = some (.if_icmp .ne 9, 3, 12, some .int) := fe_of pg_267 rfl
set_option maxRecDepth 100000 in
theorem f_267_42 : fe 267 42 = some (.iinc 3 1, 3, 12, some .int) := fe_of pg_267 rfl
set_option maxRecDepth 100000 in
theorem f_267_45 : fe 267 45 = some (.goto (-22), 3, 12, some .int) := fe_of pg_267 rfl
set_option maxRecDepth 100000 in
theorem f_267_48 : fe 267 48 = some (.iload_n 3, 1, 12, some .int) := fe_of pg_267 rfl
set_option maxRecDepth 100000 in
theorem f_267_49 : fe 267 49 = some (.ireturn, 1, 12, some .int) := fe_of pg_267 rfl
set_option maxRecDepth 100000 in
theorem f_268_0 : fe 268 0 = some (.aload_n 0, 1, 12, some .boolean) := fe_of pg_268 rfl
set_option maxRecDepth 100000 in
theorem f_268_1 : fe 268 1 = some (.getfield 436, 3, 12, some .boolean) := fe_of pg_268 rfl
set_option maxRecDepth 100000 in
theorem f_268_4 : fe 268 4 = some (.iconst 2, 1, 12, some .boolean) := fe_of pg_268 rfl
set_option maxRecDepth 100000 in
theorem f_268_5 : fe 268 5 = some (.isub, 1, 12, some .boolean) := fe_of pg_268 rfl
set_option maxRecDepth 100000 in
theorem f_268_6 : fe 268 6 = some (.istore_n 1, 1, 12, some .boolean) := fe_of pg_268 rfl
set_option maxRecDepth 100000 in
theorem f_268_7 : fe 268 7 = some (.iload_n 1, 1, 12, some .boolean) := fe_of pg_268 rfl
set_option maxRecDepth 100000 in
theorem f_268_8 : fe 268 8 = some (.ifCond .lt 26, 3, 12, some .boolean) := fe_of pg_268 rfl
set_option maxRecDepth 100000 in
theorem f_268_11 : fe 268 11 = some (.aload_n 0, 1, 12, some .boolean) := fe_of pg_268 rfl
set_option maxRecDepth 100000 in
theorem f_268_12 : fe 268 12 = some (.getfield 60, 3, 12, some .boolean) := fe_of pg_268 rfl
set_option maxRecDepth 100000 in
theorem f_268_15 : fe 268 15 = some (.iload_n 1, 1, 12, some .boolean) := fe_of pg_268 rfl
set_option maxRecDepth 100000 in
theorem f_268_16 : fe 268 16 = some (.iaload, 1, 12, some .boolean) := fe_of pg_268 rfl
set_option maxRecDepth 100000 in
theorem f_268_17 : fe 268 17 = some (.aload_n 0, 1, 12, some .boolean) := fe_of pg_268 rfl
set_option maxRecDepth 100000 in
theorem f_268_18 : fe 268 18 = some (.getfield 60, 3, 12, some .boolean) := fe_of pg_268 rfl
set_option maxRecDepth 100000 in
theorem f_268_21 : fe 268 21 = some (.iload_n 1, 1, 12, some .boolean) := fe_of pg_268 rfl
set_option maxRecDepth 100000 in
theorem f_268_22 : fe 268 22 = some (.iconst 1, 1, 12, some .boolean) := fe_of pg_268 rfl
set_option maxRecDepth 100000 in
theorem f_268_23 : fe 268 23 = some (.iadd, 1, 12, some .boolean) := fe_of pg_268 rfl
set_option maxRecDepth 100000 in
theorem f_268_24 : fe 268 24 = some (.iaload, 1, 12, some .boolean) := fe_of pg_268 rfl
set_option maxRecDepth 100000 in
theorem f_268_25 : fe 268 25 = some (.if_icmp .le 9, 3, 12, some .boolean) := fe_of pg_268 rfl
set_option maxRecDepth 100000 in
theorem f_268_28 : fe 268 28 = some (.iinc 1 (-1), 3, 12, some .boolean) := fe_of pg_268 rfl
set_option maxRecDepth 100000 in
theorem f_268_31 : fe 268 31 = some (.goto (-24), 3, 12, some .boolean) := fe_of pg_268 rfl
set_option maxRecDepth 100000 in
theorem f_268_34 : fe 268 34 = some (.iload_n 1, 1, 12, some .boolean) := fe_of pg_268 rfl
set_option maxRecDepth 100000 in
theorem f_268_35 : fe 268 35 = some (.ifCond .ge 5, 3, 12, some .boolean) := fe_of pg_268 rfl
set_option maxRecDepth 100000 in
theorem f_268_38 : fe 268 38 = some (.iconst 0, 1, 12, some .boolean) := fe_of pg_268 rfl
set_option maxRecDepth 100000 in
theorem f_268_39 : fe 268 39 = some (.ireturn, 1, 12, some .boolean) := fe_of pg_268 rfl
set_option maxRecDepth 100000 in
theorem f_268_40 : fe 268 40 = some (.aload_n 0, 1, 12, some .boolean) := fe_of pg_268 rfl
set_option maxRecDepth 100000 in
theorem f_268_41 : fe 268 41 = some (.getfield 436, 3, 12, some .boolean) := fe_of pg_268 rfl
set_option maxRecDepth 100000 in
theorem f_268_44 : fe 268 44 = some (.iconst 1, 1, 12, some .boolean) := fe_of pg_268 rfl
set_option maxRecDepth 100000 in
theorem f_268_45 : fe 268 45 = some (.isub, 1, 12, some .boolean) := fe_of pg_268 rfl
set_option maxRecDepth 100000 in
theorem f_268_46 : fe 268 46 = some (.istore_n 2, 1, 12, some .boolean) := fe_of pg_268 rfl
set_option maxRecDepth 100000 in
theorem f_268_47 : fe 268 47 = some (.aload_n 0, 1, 12, some .boolean) := fe_of pg_268 rfl
set_option maxRecDepth 100000 in
theorem f_268_48 : fe 268 48 = some (.getfield 60, 3, 12, some .boolean) := fe_of pg_268 rfl
set_option maxRecDepth 100000 in
theorem f_268_51 : fe 268 51 = some (.iload_n 2, 1, 12, some .boolean) := fe_of pg_268 rfl
set_option maxRecDepth 100000 in
theorem f_268_52 : fe 268 52 = some (.iaload, 1, 12, some .boolean) := fe_of pg_268 rfl
set_option maxRecDepth 100000 in
theorem f_268_53 : fe 268 53 = some (.aload_n 0, 1, 12, some .boolean) := fe_of pg_268 rfl
set_option maxRecDepth 100000 in
theorem f_268_54 : fe 268 54 = some (.getfield 60, 3, 12, some .boolean) := fe_of pg_268 rfl
set_option maxRecDepth 100000 in
theorem f_268_57 : fe 268 57 = some (.iload_n 1, 1, 12, some .boolean) := fe_of pg_268 rfl
set_option maxRecDepth 100000 in
theorem f_268_58 : fe 268 58 = some (.iaload, 1, 12, some .boolean) := fe_of pg_268 rfl
set_option maxRecDepth 100000 in
theorem f_268_59 : fe 268 59 = some (.if_icmp .ge 9, 3, 12, some .boolean) := fe_of pg_268 rfl
set_option maxRecDepth 100000 in
theorem f_268_62 : fe 268 62 = some (.iinc 2 (-1), 3, 12, some .boolean) := fe_of pg_268 rfl
set_option maxRecDepth 100000 in
theorem f_268_65 : fe 268 65 = some (.goto (-18), 3, 12, some .boolean) := fe_of pg_268 rfl
set_option maxRecDepth 100000 in
theorem f_268_68 : fe 268 68 = some (.aload_n 0, 1, 12, some .boolean) := fe_of pg_268 rfl
set_option maxRecDepth 100000 in
theorem f_268_69 : fe 268 69 = some (.iload_n 1, 1, 12, some .boolean) := fe_of pg_268 rfl
set_option maxRecDepth 100000 in
theorem f_268_70 : fe 268 70 = some (.iload_n 2, 1, 12, some .boolean) := fe_of pg_268 rfl
set_option maxRecDepth 100000 in
theorem f_268_71 : fe 268 71 = some (.invokevirtual 439, 3, 12, some .boolean) := fe_of pg_268 rfl
set_option maxRecDepth 100000 in
theorem f_268_74 : fe 268 74 = some (.iload_n 1, 1, 12, some .boolean) := fe_of pg_268 rfl
set_option maxRecDepth 100000 in
theorem f_268_75 : fe 268 75 = some (.iconst 1, 1, 12, some .boolean) := fe_of pg_268 rfl
set_option maxRecDepth 100000 in
theorem f_268_76 : fe 268 76 = some (.iadd, 1, 12, some .boolean) := fe_of pg_268 rfl
set_option maxRecDepth 100000 in
theorem f_268_77 : fe 268 77 = some (.istore_n 3, 1, 12, some .boolean) := fe_of pg_268 rfl
set_option maxRecDepth 100000 in
theorem f_268_78 : fe 268 78 = some (.aload_n 0, 1, 12, some .boolean) := fe_of pg_268 rfl
set_option maxRecDepth 100000 in
theorem f_268_79 : fe 268 79 = some (.getfield 436, 3, 12, some .boolean) := fe_of pg_268 rfl
set_option maxRecDepth 100000 in
theorem f_268_82 : fe 268 82 = some (.iconst 1, 1, 12, some .boolean) := fe_of pg_268 rfl
set_option maxRecDepth 100000 in
theorem f_268_83 : fe 268 83 = some (.isub, 1, 12, some .boolean) := fe_of pg_268 rfl
set_option maxRecDepth 100000 in
theorem f_268_84 : fe 268 84 = some (.istore 4, 2, 12, some .boolean) := fe_of pg_268 rfl
set_option maxRecDepth 100000 in
theorem f_268_86 : fe 268 86 = some (.iload_n 3, 1, 12, some .boolean) := fe_of pg_268 rfl
set_option maxRecDepth 100000 in
theorem f_268_87 : fe 268 87 = some (.iload 4, 2, 12, some .boolean) := fe_of pg_268 rfl
set_option maxRecDepth 100000 in
theorem f_268_89 : fe 268 89 = some (.if_icmp .ge 19, 3, 12, some .boolean) := fe_of pg_268 rfl
set_option maxRecDepth 100000 in
theorem f_268_92 : fe 268 92 = some (.aload_n 0, 1, 12, some .boolean) := fe_of pg_268 rfl
set_option maxRecDepth 100000 in
theorem f_268_93 : fe 268 93 = some (.iload_n 3, 1, 12, some .boolean) := fe_of pg_268 rfl
set_option maxRecDepth 100000 in
theorem f_268_94 : fe 268 94 = some (.iload 4, 2, 12, some .boolean) := fe_of pg_268 rfl
set_option maxRecDepth 100000 in
theorem f_268_96 : fe 268 96 = some (.invokevirtual 439, 3, 12, some .boolean) := fe_of pg_268 rfl
set_option maxRecDepth 100000 in
theorem f_268_99 : fe 268 99 = some (.iinc 3 1, 3, 12, some .boolean) := fe_of pg_268 rfl
set_option maxRecDepth 100000 in
theorem f_268_102 : fe 268 102 = some (.iinc 4 (-1), 3, 12, some .boolean) := fe_of pg_268 rfl
set_option maxRecDepth 100000 in
theorem f_268_105 : fe 268 105 = some (.goto (-19), 3, 12, some .boolean) := fe_of pg_268 rfl
set_option maxRecDepth 100000 in
theorem f_268_108 : fe 268 108 = some (.iconst 1, 1, 12, some .boolean) := fe_of pg_268 rfl
set_option maxRecDepth 100000 in
theorem f_268_109 : fe 268 109 = some (.ireturn, 1, 12, some .boolean) := fe_of pg_268 rfl
set_option maxRecDepth 100000 in
theorem f_269_0 : fe 269 0 = some (.aload_n 0, 1, 12, none) := fe_of pg_269 rfl
set_option maxRecDepth 100000 in
theorem f_269_1 : fe 269 1 = some (.getfield 60, 3, 12, none) := fe_of pg_269 rfl
set_option maxRecDepth 100000 in
theorem f_269_4 : fe 269 4 = some (.iload_n 1, 1, 12, none) := fe_of pg_269 rfl
set_option maxRecDepth 100000 in
theorem f_269_5 : fe 269 5 = some (.iaload, 1, 12, none) := fe_of pg_269 rfl
set_option maxRecDepth 100000 in
theorem f_269_6 : fe 269 6 = some (.istore_n 3, 1, 12, none) := fe_of pg_269 rfl
set_option maxRecDepth 100000 in
theorem f_269_7 : fe 269 7 = some (.aload_n 0, 1, 12, none) := fe_of pg_269 rfl
set_option maxRecDepth 100000 in
theorem f_269_8 : fe 269 8 = some (.getfield 60, 3, 12, none) := fe_of pg_269 rfl
set_option maxRecDepth 100000 in
theorem f_269_11 : fe 269 11 = some (.iload_n 1, 1, 12, none) := fe_of pg_269 rfl
set_option maxRecDepth 100000 in
theorem f_269_12 : fe 269 12 = some (.aload_n 0, 1, 12, none) := fe_of pg_269 rfl
set_option maxRecDepth 100000 in
theorem f_269_13 : fe 269 13 = some (.getfield 60, 3, 12, none) := fe_of pg_269 rfl
set_option maxRecDepth 100000 in
theorem f_269_16 : fe 269 16 = some (.iload_n 2, 1, 12, none) := fe_of pg_269 rfl
set_option maxRecDepth 100000 in
theorem f_269_17 : fe 269 17 = some (.iaload, 1, 12, none) := fe_of pg_269 rfl
set_option maxRecDepth 100000 in
theorem f_269_18 : fe 269 18 = some (.iastore, 1, 12, none) := fe_of pg_269 rfl
set_option maxRecDepth 100000 in
theorem f_269_19 : fe 269 19 = some (.aload_n 0, 1, 12, none) := fe_of pg_269 rfl
set_option maxRecDepth 100000 in
theorem f_269_20 : fe 269 20 = some (.getfield 60, 3, 12, none) := fe_of pg_269 rfl
set_option maxRecDepth 100000 in
theorem f_269_23 : fe 269 23 = some (.iload_n 2, 1, 12, none) := fe_of pg_269 rfl
set_option maxRecDepth 100000 in
theorem f_269_24 : fe 269 24 = some (.iload_n 3, 1, 12, none) := fe_of pg_269 rfl
set_option maxRecDepth 100000 in
theorem f_269_25 : fe 269 25 = some (.iastore, 1, 12, none) := fe_of pg_269 rfl
set_option maxRecDepth 100000 in
theorem f_269_26 : fe 269 26 = some (.return_, 1, 12, none) := fe_of pg_269 rfl
set_option maxRecDepth 100000 in
theorem f_270_0 : fe 270 0 = some (.aload_n 0, 1, 12, some .int) := fe_of pg_270 rfl
set_option maxRecDepth 100000 in
theorem f_270_1 : fe 270 1 = some (.invokevirtual 376, 3, 12, some .int) := fe_of pg_270 rfl
set_option maxRecDepth 100000 in
theorem f_270_4 : fe 270 4 = some (.iconst 0, 1, 12, some .int) := fe_of pg_270 rfl
set_option maxRecDepth 100000 in
theorem f_270_5 : fe 270 5 = some (.istore_n 2, 1, 12, some .int) := fe_of pg_270 rfl
set_option maxRecDepth 100000 in
theorem f_270_6 : fe 270 6 = some (.iload_n 2, 1, 12, some .int) := fe_of pg_270 rfl
set_option maxRecDepth 100000 in
theorem f_270_7 : fe 270 7 = some (.aload_n 0, 1, 12, some .int) := fe_of pg_270 rfl
set_option maxRecDepth 100000 in
theorem f_270_8 : fe 270 8 = some (.getfield 436, 3, 12, some .int) := fe_of pg_270 rfl
set_option maxRecDepth 100000 in
theorem f_270_11 : fe 270 11 = some (.if_icmp .ge 20, 3, 12, some .int) := fe_of pg_270 rfl
set_option maxRecDepth 100000 in
theorem f_270_14 : fe 270 14 = some (.aload_n 0, 1, 12, some .int) := fe_of pg_270 rfl
set_option maxRecDepth 100000 in
theorem f_270_15 : fe 270 15 = some (.aload_n 0, 1, 12, some .int) := fe_of pg_270 rfl
set_option maxRecDepth 100000 in
theorem f_270_16 : fe 270 16 = some (.getfield 60, 3, 12, some .int) := fe_of pg_270 rfl
set_option maxRecDepth 100000 in
theorem f_270_19 : fe 270 19 = some (.iload_n 2, 1, 12, some .int) := fe_of pg_270 rfl
set_option maxRecDepth 100000 in
theorem f_270_20 : fe 270 20 = some (.iaload, 1, 12, some .int) := fe_of pg_270 rfl
set_option maxRecDepth 100000 in
theorem f_270_21 : fe 270 21 = some (.iload_n 2, 1, 12, some .int) := fe_of pg_270 rfl
set_option maxRecDepth 100000 in
theorem f_270_22 : fe 270 22 = some (.invokevirtual 343, 3, 12, some .int) := fe_of pg_270 rfl
set_option maxRecDepth 100000 in
theorem f_270_25 : fe 270 25 = some (.iinc 2 1, 3, 12, some .int) := fe_of pg_270 rfl
set_option maxRecDepth 100000 in
theorem f_270_28 : fe 270 28 = some (.goto (-22), 3, 12, some .int) := fe_of pg_270 rfl
set_option maxRecDepth 100000 in
theorem f_270_31 : fe 270 31 = some (.iconst 0, 1, 12, some .int) := fe_of pg_270 rfl
set_option maxRecDepth 100000 in
theorem f_270_32 : fe 270 32 = some (.istore_n 2, 1, 12, some .int) := fe_of pg_270 rfl
set_option maxRecDepth 100000 in
theorem f_270_33 : fe 270 33 = some (.iload_n 2, 1, 12, some .int) := fe_of pg_270 rfl
set_option maxRecDepth 100000 in
theorem f_270_34 : fe 270 34 = some (.iload_n 1, 1, 12, some .int) := fe_of pg_270 rfl
set_option maxRecDepth 100000 in
theorem f_270_35 : fe 270 35 = some (.if_icmp .ge 13, 3, 12, some .int) := fe_of pg_270 rfl
set_option maxRecDepth 100000 in
theorem f_270_38 : fe 270 38 = some (.aload_n 0, 1, 12, some .int) := fe_of pg_270 rfl
set_option maxRecDepth 100000 in
theorem f_270_39 : fe 270 39 = some (.invokevirtual 370, 3, 12, some .int) := fe_of pg_270 rfl
set_option maxRecDepth 100000 in
theorem f_270_42 : fe 270 42 = some (.iinc 2 1, 3, 12, some .int) := fe_of pg_270 rfl
set_option maxRecDepth 100000 in
theorem f_270_45 : fe 270 45 = some (.goto (-12), 3, 12, some .int) := fe_of pg_270 rfl
set_option maxRecDepth 100000 in
theorem f_270_48 : fe 270 48 = some (.iconst 0, 1, 12, some .int) := fe_of pg_270 rfl
set_option maxRecDepth 100000 in
theorem f_270_49 : fe 270 49 = some (.istore_n 2, 1, 12, some .int) := fe_of pg_270 rfl
set_option maxRecDepth 100000 in
theorem f_270_50 : fe 270 50 = some (.iconst 0, 1, 12, some .int) := fe_of pg_270 rfl
set_option maxRecDepth 100000 in
theorem f_270_51 : fe 270 51 = some (.istore_n 3, 1, 12, some .int) := fe_of pg_270 rfl
set_option maxRecDepth 100000 in
theorem f_270_52 : fe 270 52 = some (.iload_n 3, 1, 12, some .int) := fe_of pg_270 rfl
set_option maxRecDepth 100000 in
theorem f_270_53 : fe 270 53 = some (.aload_n 0, 1, 12, some .int) := fe_of pg_270 rfl
set_option maxRecDepth 100000 in
theorem f_270_54 : fe 270 54 = some (.getfield 436, 3, 12, some .int) := fe_of pg_270 rfl
set_option maxRecDepth 100000 in
theorem f_270_57 : fe 270 57 = some (.if_icmp .ge 25, 3, 12, some .int) := fe_of pg_270 rfl
set_option maxRecDepth 100000 in
theorem f_270_60 : fe 270 60 = some (.iload_n 2, 1, 12, some .int) := fe_of pg_270 rfl
set_option maxRecDepth 100000 in
theorem f_270_61 : fe 270 61 = some (.aload_n 0, 1, 12, some .int) := fe_of pg_270 rfl
set_option maxRecDepth 100000 in
theorem f_270_62 : fe 270 62 = some (.getfield 44, 3, 12, some .int) := fe_of pg_270 rfl
set_option maxRecDepth 100000 in
theorem f_270_65 : fe 270 65 = some (.aload_n 0, 1, 12, some .int) := fe_of pg_270 rfl
set_option maxRecDepth 100000 in
theorem f_270_66 : fe 270 66 = some (.getfield 60, 3, 12, some .int) := fe_of pg_270 rfl
set_option maxRecDepth 100000 in
theorem f_270_69 : fe 270 69 = some (.iload_n 3, 1, 12, some .int) := fe_of pg_270 rfl
set_option maxRecDepth 100000 in
theorem f_270_70 : fe 270 70 = some (.iaload, 1, 12, some .int) := fe_of pg_270 rfl
set_option maxRecDepth 100000 in
theorem f_270_71 : fe 270 71 = some (.iaload, 1, 12, some .int) := fe_of pg_270 rfl
set_option maxRecDepth 100000 in
theorem f_270_72 : fe 270 72 = some (.invokestatic 349, 3, 12, some .int) := fe_of pg_270 rfl
set_option maxRecDepth 100000 in
theorem f_270_75 : fe 270 75 = some (.istore_n 2, 1, 12, some .int) := fe_of pg_270 rfl
set_option maxRecDepth 100000 in
theorem f_270_76 : fe 270 76 = some (.iinc 3 1, 3, 12, some .int) := fe_of pg_270 rfl
set_option maxRecDepth 100000 in
theorem f_270_79 : fe 270 79 = some (.goto (-27), 3, 12, some .int) := fe_of pg_270 rfl
set_option maxRecDepth 100000 in
theorem f_270_82 : fe 270 82 = some (.iload_n 2, 1, 12, some .int) := fe_of pg_270 rfl
set_option maxRecDepth 100000 in
theorem f_270_83 : fe 270 83 = some (.ireturn, 1, 12, some .int) := fe_of pg_270 rfl
set_option maxRecDepth 100000 in
theorem f_271_0 : fe 271 0 = some (.aload_n 0, 1, 12, some .int) := fe_of pg_271 rfl
set_option maxRecDepth 100000 in
theorem f_271_1 : fe 271 1 = some (.iconst 0, 1, 12, some .int) := fe_of pg_271 rfl
set_option maxRecDepth 100000 in
theorem f_271_2 : fe 271 2 = some (.putfield 109, 3, 12, some .int) := fe_of pg_271 rfl
set_option maxRecDepth 100000 in
theorem f_271_5 : fe 271 5 = some (.aload_n 0, 1, 12, some .int) := fe_of pg_271 rfl
set_option maxRecDepth 100000 in
theorem f_271_6 : fe 271 6 = some (.iload_n 1, 1, 12, some .int) := fe_of pg_271 rfl
set_option maxRecDepth 100000 in
theorem f_271_7 : fe 271 7 = some (.iload_n 2, 1, 12, some .int) := fe_of pg_271 rfl
set_option maxRecDepth 100000 in
theorem f_271_8 : fe 271 8 = some (.invokevirtual 433, 3, 12, some .int) := fe_of pg_271 rfl
set_option maxRecDepth 100000 in
theorem f_271_11 : fe 271 11 = some (.ifCond .eq 44, 3, 12, some .int) := fe_of pg_271 rfl
set_option maxRecDepth 100000 in
theorem f_271_14 : fe 271 14 = some (.iload_n 2, 1, 12, some .int) := fe_of pg_271 rfl
set_option maxRecDepth 100000 in
theorem f_271_15 : fe 271 15 = some (.ifCond .eq 40, 3, 12, some .int) := fe_of pg_271 rfl
set_option maxRecDepth 100000 in
theorem f_271_18 : fe 271 18 = some (.iload_n 3, 1, 12, some .int) := fe_of pg_271 rfl
set_option maxRecDepth 100000 in
theorem f_271_19 : fe 271 19 = some (.iconst 0, 1, 12, some .int) := fe_of pg_271 rfl
set_option maxRecDepth 100000 in
theorem f_271_20 : fe 271 20 = some (.bipush 9, 2, 12, some .int) := fe_of pg_271 rfl
set_option maxRecDepth 100000 in
theorem f_271_22 : fe 271 22 = some (.invokestatic 121, 3, 12, some .int) := fe_of pg_271 rfl
set_option maxRecDepth 100000 in
theorem f_271_25 : fe 271 25 = some (.ifCond .eq 30, 3, 12, some .int) := fe_of pg_271 rfl
set_option maxRecDepth 100000 in
theorem f_271_28 : fe 271 28 = some (.iload 4, 2, 12, some .int) := fe_of pg_271 rfl
set_option maxRecDepth 100000 in
theorem f_271_30 : fe 271 30 = some (.iconst 0, 1, 12, some .int) := fe_of pg_271 rfl
set_option maxRecDepth 100000 in
theorem f_271_31 : fe 271 31 = some (.iconst 1, 1, 12, some .int) := fe_of pg_271 rfl
set_option maxRecDepth 100000 in
theorem f_271_32 : fe 271 32 = some (.invokestatic 121, 3, 12, some .int) := fe_of pg_271 rfl
set_option maxRecDepth 100000 in
theorem f_271_35 : fe 271 35 = some (.ifCond .ne 22, 3, 12, some .int) := fe_of pg_271 rfl
set_option maxRecDepth 100000 in
theorem f_271_38 : fe 271 38 = some (.iload 4, 2, 12, some .int) := fe_of pg_271 rfl
set_option maxRecDepth 100000 in
theorem f_271_40 : fe 271 40 = some (.bipush 10, 2, 12, some .int) := fe_of pg_271 rfl
set_option maxRecDepth 100000 in
theorem f_271_42 : fe 271 42 = some (.bipush 9, 2, 12, some .int) := fe_of pg_271 rfl
set_option maxRecDepth 100000 in
theorem f_271_44 : fe 271 44 = some (.iload_n 2, 1, 12, some .int) := fe_of pg_271 rfl
set_option maxRecDepth 100000 in
theorem f_271_45 : fe 271 45 = some (.invokestatic 391, 3, 12, some .int) := fe_of pg_271 rfl
set_option maxRecDepth 100000 in
theorem f_271_48 : fe 271 48 = some (.iadd, 1, 12, some .int) := fe_of pg_271 rfl
set_option maxRecDepth 100000 in
theorem f_271_49 : fe 271 49 = some (.invokestatic 121, 3, 12, some .int) := fe_of pg_271 rfl
set_option maxRecDepth 100000 in
theorem f_271_52 : fe 271 52 = some (.ifCond .ne 5, 3, 12, some .int) := fe_of pg_271 rfl
set_option maxRecDepth 100000 in
theorem f_271_55 : fe 271 55 = some (.iconst (-1), 1, 12, some .int) := fe_of pg_271 rfl
set_option maxRecDepth 100000 in
theorem f_271_56 : fe 271 56 = some (.ireturn, 1, 12, some .int) := fe_of pg_271 rfl
set_option maxRecDepth 100000 in
theorem f_271_57 : fe 271 57 = some (.aload_n 0, 1, 12, some .int) := fe_of pg_271 rfl
set_option maxRecDepth 100000 in
theorem f_271_58 : fe 271 58 = some (.iconst 0, 1, 12, some .int) := fe_of pg_271 rfl
set_option maxRecDepth 100000 in
theorem f_271_59 : fe 271 59 = some (.putfield 436, 3, 12, some .int) := fe_of pg_271 rfl
set_option maxRecDepth 100000 in
theorem f_271_62 : fe 271 62 = some (.iconst 0, 1, 12, some .int) := fe_of pg_271 rfl
set_option maxRecDepth 100000 in
theorem f_271_63 : fe 271 63 = some (.istore 5, 2, 12, some .int) := fe_of pg_271 rfl
set_option maxRecDepth 100000 in
theorem f_271_65 : fe 271 65 = some (.iload 5, 2, 12, some .int) := fe_of pg_271 rfl
set_option maxRecDepth 100000 in
theorem f_271_67 : fe 271 67 = some (.aload_n 0, 1, 12, some .int) := fe_of pg_271 rfl
set_option maxRecDepth 100000 in
theorem f_271_68 : fe 271 68 = some (.getfield 303, 3, 12, some .int) := fe_of pg_271 rfl
set_option maxRecDepth 100000 in
theorem f_271_71 : fe 271 71 = some (.if_icmp .ge 39, 3, 12, some .int) := fe_of pg_271 rfl
set_option maxRecDepth 100000 in
theorem f_271_74 : fe 271 74 = some (.iload_n 2, 1, 12, some .int) := fe_of pg_271 rfl
set_option maxRecDepth 100000 in
theorem f_271_75 : fe 271 75 = some (.iload 5, 2, 12, some .int) := fe_of pg_271 rfl
set_option maxRecDepth 100000 in
theorem f_271_77 : fe 271 77 = some (.invokestatic 113, 3, 12, some .int) := fe_of pg_271 rfl
set_option maxRecDepth 100000 in
theorem f_271_80 : fe 271 80 = some (.ifCond .eq 24, 3, 12, some .int) := fe_of pg_271 rfl
set_option maxRecDepth 100000 in
theorem f_271_83 : fe 271 83 = some (.aload_n 0, 1, 12, some .int) := fe_of pg_271 rfl
set_option maxRecDepth 100000 in
theorem f_271_84 : fe 271 84 = some (.getfield 60, 3, 12, some .int) := fe_of pg_271 rfl
set_option maxRecDepth 100000 in
theorem f_271_87 : fe 271 87 = some (.aload_n 0, 1, 12, some .int) := fe_of pg_271 rfl
set_option maxRecDepth 100000 in
theorem f_271_88 : fe 271 88 = some (.getfield 436, 3, 12, some .int) := fe_of pg_271 rfl
set_option maxRecDepth 100000 in
theorem f_271_91 : fe 271 91 = some (.iload 5, 2, 12, some .int) := fe_of pg_271 rfl
set_option maxRecDepth 100000 in
theorem f_271_93 : fe 271 93 = some (.iastore, 1, 12, some .int) := fe_of pg_271 rfl
set_option maxRecDepth 100000 in
theorem f_271_94 : fe 271 94 = some (.aload_n 0, 1, 12, some .int) := fe_of pg_271 rfl
set_option maxRecDepth 100000 in
theorem f_271_95 : fe 271 95 = some (.dup, 1, 12, some .int) := fe_of pg_271 rfl
set_option maxRecDepth 100000 in
theorem f_271_96 : fe 271 96 = some (.getfield 436, 3, 12, some .int) := fe_of pg_271 rfl
set_option maxRecDepth 100000 in
theorem f_271_99 : fe 271 99 = some (.iconst 1, 1, 12, some .int) := fe_of pg_271 rfl
set_option maxRecDepth 100000 in
theorem f_271_100 : fe 271 100 = some (.iadd, 1, 12, some .int) := fe_of pg_271 rfl
set_option maxRecDepth 100000 in
theorem f_271_101 : fe 271 101 = some (.putfield 436, 3, 12, some .int) := fe_of pg_271 rfl
set_option maxRecDepth 100000 in
theorem f_271_104 : fe 271 104 = some (.iinc 5 1, 3, 12, some .int) := fe_of pg_271 rfl
set_option maxRecDepth 100000 in
theorem f_271_107 : fe 271 107 = some (.goto (-42), 3, 12, some .int) := fe_of pg_271 rfl
set_option maxRecDepth 100000 in
theorem f_271_110 : fe 271 110 = some (.ldc_w 442, 3, 12, some .int) := fe_of pg_271 rfl
set_option maxRecDepth 100000 in
theorem f_271_113 : fe 271 113 = some (.istore 5, 2, 12, some .int) := fe_of pg_271 rfl
set_option maxRecDepth 100000 in
theorem f_271_115 : fe 271 115 = some (.iconst 0, 1, 12, some .int) := fe_of pg_271 rfl
set_option maxRecDepth 100000 in
theorem f_271_116 : fe 271 116 = some (.istore 6, 2, 12, some .int) := fe_of pg_271 rfl
set_option maxRecDepth 100000 in
theorem f_271_118 : fe 271 118 = some (.iconst 1, 1, 12, some .int) := fe_of pg_271 rfl
set_option maxRecDepth 100000 in
theorem f_271_119 : fe 271 119 = some (.istore 7, 2, 12, some .int) := fe_of pg_271 rfl
set_option maxRecDepth 100000 in
theorem f_271_121 : fe 271 121 = some (.iload 7, 2, 12, some .int) := fe_of pg_271 rfl
set_option maxRecDepth 100000 in
theorem f_271_123 : fe 271 123 = some (.ifCond .eq 96, 3, 12, some .int) := fe_of pg_271 rfl
set_option maxRecDepth 100000 in
theorem f_271_126 : fe 271 126 = some (.aload_n 0, 1, 12, some .int) := fe_of pg_271 rfl
set_option maxRecDepth 100000 in
theorem f_271_127 : fe 271 127 = some (.iload_n 3, 1, 12, some .int) := fe_of pg_271 rfl
set_option maxRecDepth 100000 in
theorem f_271_128 : fe 271 128 = some (.invokevirtual 443, 3, 12, some .int) := fe_of pg_271 rfl
set_option maxRecDepth 100000 in
theorem f_271_131 : fe 271 131 = some (.istore 8, 2, 12, some .int) := fe_of pg_271 rfl
set_option maxRecDepth 100000 in
theorem f_271_133 : fe 271 133 = some (.iconst 0, 1, 12, some .int) := fe_of pg_271 rfl
set_option maxRecDepth 100000 in
theorem f_271_134 : fe 271 134 = some (.istore 9, 2, 12, some .int) := fe_of pg_271 rfl
set_option maxRecDepth 100000 in
theorem f_271_136 : fe 271 136 = some (.iload 9, 2, 12, some .int) := fe_of pg_271 rfl
set_option maxRecDepth 100000 in
theorem f_271_138 : fe 271 138 = some (.aload_n 0, 1, 12, some .int) := fe_of pg_271 rfl
set_option maxRecDepth 100000 in
theorem f_271_139 : fe 271 139 = some (.getfield 436, 3, 12, some .int) := fe_of pg_271 rfl
set_option maxRecDepth 100000 in
theorem f_271_142 : fe 271 142 = some (.if_icmp .ge 30, 3, 12, some .int) := fe_of pg_271 rfl
set_option maxRecDepth 100000 in
theorem f_271_145 : fe 271 145 = some (.iload 8, 2, 12, some .int) := fe_of pg_271 rfl
set_option maxRecDepth 100000 in
theorem f_271_147 : fe 271 147 = some (.iload 5, 2, 12, some .int) := fe_of pg_271 rfl
set_option maxRecDepth 100000 in
theorem f_271_149 : fe 271 149 = some (.if_icmp .ge 23, 3, 12, some .int) := fe_of pg_271 rfl
set_option maxRecDepth 100000 in
theorem f_271_152 : fe 271 152 = some (.aload_n 0, 1, 12, some .int) := fe_of pg_271 rfl
set_option maxRecDepth 100000 in
theorem f_271_153 : fe 271 153 = some (.getfield 63, 3, 12, some .int) := fe_of pg_271 rfl
set_option maxRecDepth 100000 in
theorem f_271_156 : fe 271 156 = some (.iload 9, 2, 12, some .int) := fe_of pg_271 rfl
set_option maxRecDepth 100000 in
theorem f_271_158 : fe 271 158 = some (.aload_n 0, 1, 12, some .int) := fe_of pg_271 rfl
set_option maxRecDepth 100000 in
theorem f_271_159 : fe 271 159 = some (.getfield 60, 3, 12, some .int) := fe_of pg_271 rfl
set_option maxRecDepth 100000 in
theorem f_271_162 : fe 271 162 = some (.iload 9, 2, 12, some .int) := fe_of pg_271 rfl
set_option maxRecDepth 100000 in
theorem f_271_164 : fe 271 164 = some (.iaload, 1, 12, some .int) := fe_of pg_271 rfl
set_option maxRecDepth 100000 in
theorem f_271_165 : fe 271 165 = some (.iastore, 1, 12, some .int) := fe_of pg_271 rfl
set_option maxRecDepth 100000 in
theorem f_271_166 : fe 271 166 = some (.iinc 9 1, 3, 12, some .int) := fe_of pg_271 rfl
set_option maxRecDepth 100000 in
theorem f_271_169 : fe 271 169 = some (.goto (-33), 3, 12, some .int) := fe_of pg_271 rfl
set_option maxRecDepth 100000 in
theorem f_271_172 : fe 271 172 = some (.iload 8, 2, 12, some .int) := fe_of pg_271 rfl
set_option maxRecDepth 100000 in
theorem f_271_174 : fe 271 174 = some (.iload 5, 2, 12, some .int) := fe_of pg_271 rfl
set_option maxRecDepth 100000 in
theorem f_271_176 : fe 271 176 = some (.if_icmp .ge 7, 3, 12, some .int) := fe_of pg_271 rfl
set_option maxRecDepth 100000 in
theorem f_271_179 : fe 271 179 = some (.iconst 1, 1, 12, some .int) := fe_of pg_271 rfl
set_option maxRecDepth 100000 in
theorem f_271_180 : fe 271 180 = some (.goto 19, 3, 12, some .int) := fe_of pg_271 rfl
set_option maxRecDepth 100000 in
theorem f_271_183 : fe 271 183 = some (.iload 8, 2, 12, some .int) := fe_of pg_271 rfl
set_option maxRecDepth 100000 in
theorem f_271_185 : fe 271 185 = some (.iload 5, 2, 12, some .int) := fe_of pg_271 rfl
set_option maxRecDepth 100000 in
theorem f_271_187 : fe 271 187 = some (.if_icmp .ne 10, 3, 12, some .int) := fe_of pg_271 rfl
set_option maxRecDepth 100000 in
theorem f_271_190 : fe 271 190 = some (.iload 6, 2, 12, some .int) := fe_of pg_271 rfl
set_option maxRecDepth 100000 in
theorem f_271_192 : fe 271 192 = some (.iconst 1, 1, 12, some .int) := fe_of pg_271 rfl
set_option maxRecDepth 100000 in
theorem f_271_193 : fe 271 193 = some (.iadd, 1, 12, some .int) := fe_of pg_271 rfl
set_option maxRecDepth 100000 in
theorem f_271_194 : fe 271 194 = some (.goto 5, 3, 12, some .int) := fe_of pg_271 rfl
set_option maxRecDepth 100000 in
theorem f_271_197 : fe 271 197 = some (.iload 6, 2, 12, some .int) := fe_of pg_271 rfl
set_option maxRecDepth 100000 in
theorem f_271_199 : fe 271 199 = some (.istore 6, 2, 12, some .int) := fe_of pg_271 rfl
set_option maxRecDepth 100000 in
theorem f_271_201 : fe 271 201 = some (.iload 5, 2, 12, some .int) := fe_of pg_271 rfl
set_option maxRecDepth 100000 in
theorem f_271_203 : fe 271 203 = some (.iload 8, 2, 12, some .int) := fe_of pg_271 rfl
set_option maxRecDepth 100000 in
theorem f_271_205 : fe 271 205 = some (.invokestatic 346, 3, 12, some .int) := fe_of pg_271 rfl
set_option maxRecDepth 100000 in
theorem f_271_208 : fe 271 208 = some (.istore 5, 2, 12, some .int) := fe_of pg_271 rfl
set_option maxRecDepth 100000 in
theorem f_271_210 : fe 271 210 = some (.aload_n 0, 1, 12, some .int) := fe_of pg_271 rfl
set_option maxRecDepth 100000 in
theorem f_271_211 : fe 271 211 = some (.invokevirtual 446, 3, 12, some .int) := fe_of pg_271 rfl
set_option maxRecDepth 100000 in
theorem f_271_214 : fe 271 214 = some (.istore 7, 2, 12, some .int) := fe_of pg_271 rfl
set_option maxRecDepth 100000 in
theorem f_271_216 : fe 271 216 = some (.goto (-95), 3, 12, some .int) := fe_of pg_271 rfl
set_option maxRecDepth 100000 in
theorem f_271_219 : fe 271 219 = some (.iload 4, 2, 12, some .int) := fe_of pg_271 rfl
set_option maxRecDepth 100000 in
theorem f_271_221 : fe 271 221 = some (.ifCond .ne 8, 3, 12, some .int) := fe_of pg_271 rfl
set_option maxRecDepth 100000 in
theorem f_271_224 : fe 271 224 = some (.iload 5, 2, 12, some .int) := fe_of pg_271 rfl
set_option maxRecDepth 100000 in
theorem f_271_226 : fe 271 226 = some (.goto 24, 3, 12, some .int) := fe_of pg_271 rfl
set_option maxRecDepth 100000 in
theorem f_271_229 : fe 271 229 = some (.iload 4, 2, 12, some .int) := fe_of pg_271 rfl
set_option maxRecDepth 100000 in
theorem f_271_231 : fe 271 231 = some (.iconst 1, 1, 12, some .int) := fe_of pg_271 rfl
set_option maxRecDepth 100000 in
theorem f_271_232 : fe 271 232 = some (.if_icmp .ne 8, 3, 12, some .int) := fe_of pg_271 rfl
set_option maxRecDepth 100000 in
theorem f_271_235 : fe 271 235 = some (.iload 6, 2, 12, some .int) := fe_of pg_271 rfl
set_option maxRecDepth 100000 in
theorem f_271_237 : fe 271 237 = some (.goto 13, 3, 12, some .int) := fe_of pg_271 rfl
set_option maxRecDepth 100000 in
theorem f_271_240 : fe 271 240 = some (.aload_n 0, 1, 12, some .int) := fe_of pg_271 rfl
set_option maxRecDepth 100000 in
theorem f_271_241 : fe 271 241 = some (.getfield 63, 3, 12, some .int) := fe_of pg_271 rfl
set_option maxRecDepth 100000 in
theorem f_271_244 : fe 271 244 = some (.iload 4, 2, 12, some .int) := fe_of pg_271 rfl
set_option maxRecDepth 100000 in
theorem f_271_246 : fe 271 246 = some (.bipush 10, 2, 12, some .int) := fe_of pg_271 rfl
set_option maxRecDepth 100000 in
theorem f_271_248 : fe 271 248 = some (.isub, 1, 12, some .int) := fe_of pg_271 rfl
set_option maxRecDepth 100000 in
theorem f_271_249 : fe 271 249 = some (.iaload, 1, 12, some .int) := fe_of pg_271 rfl
set_option maxRecDepth 100000 in
theorem f_271_250 : fe 271 250 = some (.ireturn, 1, 12, some .int) := fe_of pg_271 rfl
set_option maxRecDepth 100000 in
theorem f_272_0 : fe 272 0 = some (.iconst 0, 1, 12, some .int) := fe_of pg_272 rfl
set_option maxRecDepth 100000 in
theorem f_272_1 : fe 272 1 = some (.istore_n 1, 1, 12, some .int) := fe_of pg_272 rfl
set_option maxRecDepth 100000 in
theorem f_272_2 : fe 272 2 = some (.iload_n 0, 1, 12, some .int) := fe_of pg_272 rfl
set_option maxRecDepth 100000 in
theorem f_272_3 : fe 272 3 = some (.iload_n 1, 1, 12, some .int) := fe_of pg_272 rfl
set_option maxRecDepth 100000 in
theorem f_272_4 : fe 272 4 = some (.invokestatic 113, 3, 12, some .int) := fe_of pg_272 rfl
set_option maxRecDepth 100000 in
theorem f_272_7 : fe 272 7 = some (.ifCond .ne 9, 3, 12, some .int) := fe_of pg_272 rfl
set_option maxRecDepth 100000 in
theorem f_272_10 : fe 272 10 = some (.iinc 1 1, 3, 12, some .int) := fe_of pg_272 rfl
set_option maxRecDepth 100000 in
theorem f_272_13 : fe 272 13 = some (.goto (-11), 3, 12, some .int) := fe_of pg_272 rfl
set_option maxRecDepth 100000 in
theorem f_272_16 : fe 272 16 = some (.iload_n 1, 1, 12, some .int) := fe_of pg_272 rfl
set_option maxRecDepth 100000 in
theorem f_272_17 : fe 272 17 = some (.ireturn, 1, 12, some .int) := fe_of pg_272 rfl
set_option maxRecDepth 100000 in
theorem f_273_0 : fe 273 0 = some (.aload_n 0, 1, 12, none) := fe_of pg_273 rfl
set_option maxRecDepth 100000 in
theorem f_273_1 : fe 273 1 = some (.getfield 66, 3, 12, none) := fe_of pg_273 rfl
set_option maxRecDepth 100000 in
theorem f_273_4 : fe 273 4 = some (.iconst 0, 1, 12, none) := fe_of pg_273 rfl
set_option maxRecDepth 100000 in
theorem f_273_5 : fe 273 5 = some (.iconst 0, 1, 12, none) := fe_of pg_273 rfl
set_option maxRecDepth 100000 in
theorem f_273_6 : fe 273 6 = some (.iastore, 1, 12, none) := fe_of pg_273 rfl
set_option maxRecDepth 100000 in
theorem f_273_7 : fe 273 7 = some (.aload_n 0, 1, 12, none) := fe_of pg_273 rfl
set_option maxRecDepth 100000 in
theorem f_273_8 : fe 273 8 = some (.getfield 69, 3, 12, none) := fe_of pg_273 rfl
set_option maxRecDepth 100000 in
theorem f_273_11 : fe 273 11 = some (.iconst 0, 1, 12, none) := fe_of pg_273 rfl
set_option maxRecDepth 100000 in
theorem f_273_12 : fe 273 12 = some (.iconst 1, 1, 12, none) := fe_of pg_273 rfl
set_option maxRecDepth 100000 in
theorem f_273_13 : fe 273 13 = some (.iastore, 1, 12, none) := fe_of pg_273 rfl
set_option maxRecDepth 100000 in
theorem f_273_14 : fe 273 14 = some (.iconst 1, 1, 12, none) := fe_of pg_273 rfl
set_option maxRecDepth 100000 in
theorem f_273_15 : fe 273 15 = some (.istore_n 2, 1, 12, none) := fe_of pg_273 rfl
set_option maxRecDepth 100000 in
theorem f_273_16 : fe 273 16 = some (.iload_n 2, 1, 12, none) := fe_of pg_273 rfl
set_option maxRecDepth 100000 in
theorem f_273_17 : fe 273 17 = some (.iload_n 1, 1, 12, none) := fe_of pg_273 rfl
set_option maxRecDepth 100000 in
theorem f_273_18 : fe 273 18 = some (.if_icmp .gt 124, 3, 12, none) := fe_of pg_273 rfl
set_option maxRecDepth 100000 in
theorem f_273_21 : fe 273 21 = some (.aload_n 0, 1, 12, none) := fe_of pg_273 rfl
set_option maxRecDepth 100000 in
theorem f_273_22 : fe 273 22 = some (.getfield 66, 3, 12, none) := fe_of pg_273 rfl
set_option maxRecDepth 100000 in
theorem f_273_25 : fe 273 25 = some (.iload_n 2, 1, 12, none) := fe_of pg_273 rfl
set_option maxRecDepth 100000 in
theorem f_273_26 : fe 273 26 = some (.ldc_w 442, 3, 12, none) := fe_of pg_273 rfl
set_option maxRecDepth 100000 in
theorem f_273_29 : fe 273 29 = some (.iastore, 1, 12, none) := fe_of pg_273 rfl
set_option maxRecDepth 100000 in
theorem f_273_30 : fe 273 30 = some (.iload_n 2, 1, 12, none) := fe_of pg_273 rfl
set_option maxRecDepth 100000 in
theorem f_273_31 : fe 273 31 = some (.invokestatic 449, 3, 12, none) := fe_of pg_273 rfl
set_option maxRecDepth 100000 in
theorem f_273_34 : fe 273 34 = some (.istore_n 3, 1, 12, none) := fe_of pg_273 rfl
set_option maxRecDepth 100000 in
theorem f_273_35 : fe 273 35 = some (.iload_n 2, 1, 12, none) := fe_of pg_273 rfl
set_option maxRecDepth 100000 in
theorem f_273_36 : fe 273 36 = some (.iconst 1, 1, 12, none) := fe_of pg_273 rfl
set_option maxRecDepth 100000 in
theorem f_273_37 : fe 273 37 = some (.iload_n 3, 1, 12, none) := fe_of pg_273 rfl
set_option maxRecDepth 100000 in
theorem f_273_38 : fe 273 38 = some (.ishl, 1, 12, none) := fe_of pg_273 rfl
set_option maxRecDepth 100000 in
theorem f_273_39 : fe 273 39 = some (.iconst (-1), 1, 12, none) := fe_of pg_273 rfl
set_option maxRecDepth 100000 in
theorem f_273_40 : fe 273 40 = some (.ixor, 1, 12, none) := fe_of pg_273 rfl
set_option maxRecDepth 100000 in
theorem f_273_41 : fe 273 41 = some (.iand, 1, 12, none) := fe_of pg_273 rfl
set_option maxRecDepth 100000 in
theorem f_273_42 : fe 273 42 = some (.istore 4, 2, 12, none) := fe_of pg_273 rfl
set_option maxRecDepth 100000 in
theorem f_273_44 : fe 273 44 = some (.iload_n 3, 1, 12, none) := fe_of pg_273 rfl
set_option maxRecDepth 100000 in
theorem f_273_45 : fe 273 45 = some (.iconst 1, 1, 12, none) := fe_of pg_273 rfl
set_option maxRecDepth 100000 in
theorem f_273_46 : fe 273 46 = some (.iadd, 1, 12, none) := fe_of pg_273 rfl
set_option maxRecDepth 100000 in
theorem f_273_47 : fe 273 47 = some (.istore 5, 2, 12, none) := fe_of pg_273 rfl
set_option maxRecDepth 100000 in
theorem f_273_49 : fe 273 49 = some (.iload 5, 2, 12, none) := fe_of pg_273 rfl
set_option maxRecDepth 100000 in
theorem f_273_51 : fe 273 51 = some (.aload_n 0, 1, 12, none) := fe_of pg_273 rfl
set_option maxRecDepth 100000 in
theorem f_273_52 : fe 273 52 = some (.getfield 303, 3, 12, none) := fe_of pg_273 rfl
set_option maxRecDepth 100000 in
theorem f_273_55 : fe 273 55 = some (.if_icmp .ge 81, 3, 12, none) := fe_of pg_273 rfl
set_option maxRecDepth 100000 in
theorem f_273_58 : fe 273 58 = some (.iload 4, 2, 12, none) := fe_of pg_273 rfl
set_option maxRecDepth 100000 in
theorem f_273_60 : fe 273 60 = some (.iload 5, 2, 12, none) := fe_of pg_273 rfl
set_option maxRecDepth 100000 in
theorem f_273_62 : fe 273 62 = some (.invokestatic 113, 3, 12, none) := fe_of pg_273 rfl
set_option maxRecDepth 100000 in
theorem f_273_65 : fe 273 65 = some (.ifCond .eq 65, 3, 12, none) := fe_of pg_273 rfl
set_option maxRecDepth 100000 in
theorem f_273_68 : fe 273 68 = some (.iload 4, 2, 12, none) := fe_of pg_273 rfl
set_option maxRecDepth 100000 in
theorem f_273_70 : fe 273 70 = some (.iconst 1, 1, 12, none) := fe_of pg_273 rfl
set_option maxRecDepth 100000 in
theorem f_273_71 : fe 273 71 = some (.iload 5, 2, 12, none) := fe_of pg_273 rfl
set_option maxRecDepth 100000 in
theorem f_273_73 : fe 273 73 = some (.ishl, 1, 12, none) := fe_of pg_273 rfl
set_option maxRecDepth 100000 in
theorem f_273_74 : fe 273 74 = some (.iconst (-1), 1, 12, none) := fe_of pg_273 rfl
set_option maxRecDepth 100000 in
theorem f_273_75 : fe 273 75 = some (.ixor, 1, 12, none) := fe_of pg_273 rfl
set_option maxRecDepth 100000 in
theorem f_273_76 : fe 273 76 = some (.iand, 1, 12, none) := fe_of pg_273 rfl
set_option maxRecDepth 100000 in
theorem f_273_77 : fe 273 77 = some (.istore 6, 2, 12, none) := fe_of pg_273 rfl
set_option maxRecDepth 100000 in
theorem f_273_79 : fe 273 79 = some (.aload_n 0, 1, 12, none) := fe_of pg_273 rfl
set_option maxRecDepth 100000 in
theorem f_273_80 : fe 273 80 = some (.bipush 19, 2, 12, none) := fe_of pg_273 rfl
set_option maxRecDepth 100000 in
theorem f_273_82 : fe 273 82 = some (.iload_n 3, 1, 12, none) := fe_of pg_273 rfl
set_option maxRecDepth 100000 in
theorem f_273_83 : fe 273 83 = some (.iadd, 1, 12, none) := fe_of pg_273 rfl
set_option maxRecDepth 100000 in
theorem f_273_84 : fe 273 84 = some (.invokevirtual 293, 3, 12, none) := fe_of pg_273 rfl
set_option maxRecDepth 100000 in
theorem f_273_87 : fe 273 87 = some (.aload_n 0, 1, 12, none) := fe_of pg_273 rfl
set_option maxRecDepth 100000 in
theorem f_273_88 : fe 273 88 = some (.bipush 19, 2, 12, none) := fe_of pg_273 rfl
set_option maxRecDepth 100000 in
theorem f_273_90 : fe 273 90 = some (.iload 5, 2, 12, none) := fe_of pg_273 rfl
set_option maxRecDepth 100000 in
theorem f_273_92 : fe 273 92 = some (.iadd, 1, 12, none) := fe_of pg_273 rfl
set_option maxRecDepth 100000 in
theorem f_273_93 : fe 273 93 = some (.invokevirtual 293, 3, 12, none) := fe_of pg_273 rfl
set_option maxRecDepth 100000 in
theorem f_273_96 : fe 273 96 = some (.iadd, 1, 12, none) := fe_of pg_273 rfl
set_option maxRecDepth 100000 in
theorem f_273_97 : fe 273 97 = some (.iconst 1, 1, 12, none) := fe_of pg_273 rfl
set_option maxRecDepth 100000 in
theorem f_273_98 : fe 273 98 = some (.iadd, 1, 12, none) := fe_of pg_273 rfl
set_option maxRecDepth 100000 in
theorem f_273_99 : fe 273 99 = some (.iconst 2, 1, 12, none) := fe_of pg_273 rfl
set_option maxRecDepth 100000 in
theorem f_273_100 : fe 273 100 = some (.idiv, 1, 12, none) := fe_of pg_273 rfl
set_option maxRecDepth 100000 in
theorem f_273_101 : fe 273 101 = some (.istore 7, 2, 12, none) := fe_of pg_273 rfl
set_option maxRecDepth 100000 in
theorem f_273_103 : fe 273 103 = some (.aload_n 0, 1, 12, none) := fe_of pg_273 rfl
set_option maxRecDepth 100000 in
theorem f_273_104 : fe 273 104 = some (.getfield 66, 3, 12, none) := fe_of pg_273 rfl
set_option maxRecDepth 100000 in
theorem f_273_107 : fe 273 107 = some (.iload_n 2, 1, 12, none) := fe_of pg_273 rfl
set_option maxRecDepth 100000 in
theorem f_273_108 : fe 273 108 = some (.aload_n 0, 1, 12, none) := fe_of pg_273 rfl
set_option maxRecDepth 100000 in
theorem f_273_109 : fe 273 109 = some (.getfield 66, 3, 12, none) := fe_of pg_273 rfl
set_option maxRecDepth 100000 in
theorem f_273_112 : fe 273 112 = some (.iload_n 2, 1, 12, none) := fe_of pg_273 rfl
set_option maxRecDepth 100000 in
theorem f_273_113 : fe 273 113 = some (.iaload, 1, 12, none) := fe_of pg_273 rfl
set_option maxRecDepth 100000 in
theorem f_273_114 : fe 273 114 = some (.iload 7, 2, 12, none) := fe_of pg_273 rfl
set_option maxRecDepth 100000 in
theorem f_273_116 : fe 273 116 = some (.aload_n 0, 1, 12, none) := fe_of pg_273 rfl
set_option maxRecDepth 100000 in
theorem f_273_117 : fe 273 117 = some (.getfield 66, 3, 12, none) := fe_of pg_273 rfl
set_option maxRecDepth 100000 in
theorem f_273_120 : fe 273 120 = some (.iload 6, 2, 12, none) := fe_of pg_273 rfl
set_option maxRecDepth 100000 in
theorem f_273_122 : fe 273 122 = some (.iaload, 1, 12, none) := fe_of pg_273 rfl
set_option maxRecDepth 100000 in
theorem f_273_123 : fe 273 123 = some (.invokestatic 349, 3, 12, none) := fe_of pg_273 rfl
set_option maxRecDepth 100000 in
theorem f_273_126 : fe 273 126 = some (.invokestatic 346, 3, 12, none) := fe_of pg_273 rfl
set_option maxRecDepth 100000 in
theorem f_273_129 : fe 273 129 = some (.iastore, 1, 12, none) := fe_of pg_273 rfl
set_option maxRecDepth 100000 in
theorem f_273_130 : fe 273 130 = some (.iinc 5 1, 3, 12, none) := fe_of pg_273 rfl
set_option maxRecDepth 100000 in
theorem f_273_133 : fe 273 133 = some (.goto (-84), 3, 12, none) := fe_of pg_273 rfl
set_option maxRecDepth 100000 in
theorem f_273_136 : fe 273 136 = some (.iinc 2 1, 3, 12, none) := fe_of pg_273 rfl
set_option maxRecDepth 100000 in
theorem f_273_139 : fe 273 139 = some (.goto (-123), 3, 12, none) := fe_of pg_273 rfl
set_option maxRecDepth 100000 in
theorem f_273_142 : fe 273 142 = some (.return_, 1, 12, none) := fe_of pg_273 rfl
set_option maxRecDepth 100000 in
theorem f_274_0 : fe 274 0 = some (.iconst 1, 1, 12, some .int) := fe_of pg_274 rfl
set_option maxRecDepth 100000 in
theorem f_274_1 : fe 274 1 = some (.istore_n 3, 1, 12, some .int) := fe_of pg_274 rfl
set_option maxRecDepth 100000 in
theorem f_274_2 : fe 274 2 = some (.iload_n 3, 1, 12, some .int) := fe_of pg_274 rfl
set_option maxRecDepth 100000 in
theorem f_274_3 : fe 274 3 = some (.iload_n 1, 1, 12, some .int) := fe_of pg_274 rfl
set_option maxRecDepth 100000 in
theorem f_274_4 : fe 274 4 = some (.if_icmp .gt 129, 3, 12, some .int) := fe_of pg_274 rfl
set_option maxRecDepth 100000 in
theorem f_274_7 : fe 274 7 = some (.aload_n 0, 1, 12, some .int) := fe_of pg_274 rfl
set_option maxRecDepth 100000 in
theorem f_274_8 : fe 274 8 = some (.getfield 69, 3, 12, some .int) := fe_of pg_274 rfl
set_option maxRecDepth 100000 in
theorem f_274_11 : fe 274 11 = some (.iload_n 3, 1, 12, some .int) := fe_of pg_274 rfl
set_option maxRecDepth 100000 in
theorem f_274_12 : fe 274 12 = some (.iconst 0, 1, 12, some .int) := fe_of pg_274 rfl
set_option maxRecDepth 100000 in
theorem f_274_13 : fe 274 13 = some (.iastore, 1, 12, some .int) := fe_of pg_274 rfl
set_option maxRecDepth 100000 in
theorem f_274_14 : fe 274 14 = some (.iload_n 3, 1, 12, some .int) := fe_of pg_274 rfl
set_option maxRecDepth 100000 in
theorem f_274_15 : fe 274 15 = some (.invokestatic 449, 3, 12, some .int) := fe_of pg_274 rfl
set_option maxRecDepth 100000 in
theorem f_274_18 : fe 274 18 = some (.istore 4, 2, 12, some .int) := fe_of pg_274 rfl
set_option maxRecDepth 100000 in
theorem f_274_20 : fe 274 20 = some (.iload_n 3, 1, 12, some .int) := fe_of pg_274 rfl
set_option maxRecDepth 100000 in
theorem f_274_21 : fe 274 21 = some (.iconst 1, 1, 12, some .int) := fe_of pg_274 rfl
set_option maxRecDepth 100000 in
theorem f_274_22 : fe 274 22 = some (.iload 4, 2, 12, some .int) := fe_of pg_274 rfl
set_option maxRecDepth 100000 in
theorem f_274_24 : fe 274 24 = some (.ishl, 1, 12, some .int) := fe_of pg_274 rfl
set_option maxRecDepth 100000 in
theorem f_274_25 : fe 274 25 = some (.iconst (-1), 1, 12, some .int) := fe_of pg_274 rfl
set_option maxRecDepth 100000 in
theorem f_274_26 : fe 274 26 = some (.ixor, 1, 12, some .int) := fe_of pg_274 rfl
set_option maxRecDepth 100000 in
theorem f_274_27 : fe 274 27 = some (.iand, 1, 12, some .int) := fe_of pg_274 rfl
set_option maxRecDepth 100000 in
theorem f_274_28 : fe 274 28 = some (.istore 5, 2, 12, some .int) := fe_of pg_274 rfl
set_option maxRecDepth 100000 in
theorem f_274_30 : fe 274 30 = some (.iload 4, 2, 12, some .int) := fe_of pg_274 rfl
set_option maxRecDepth 100000 in
theorem f_274_32 : fe 274 32 = some (.iconst 1, 1, 12, some .int) := fe_of pg_274 rfl
set_option maxRecDepth 100000 in
theorem f_274_33 : fe 274 33 = some (.iadd, 1, 12, some .int) := fe_of pg_274 rfl
set_option maxRecDepth 100000 in
theorem f_274_34 : fe 274 34 = some (.istore 6, 2, 12, some .int) := fe_of pg_274 rfl
set_option maxRecDepth 100000 in
theorem f_274_36 : fe 274 36 = some (.iload 6, 2, 12, some .int) := fe_of pg_274 rfl
set_option maxRecDepth 100000 in
theorem f_274_38 : fe 274 38 = some (.aload_n 0, 1, 12, some .int) := fe_of pg_274 rfl
set_option maxRecDepth 100000 in
theorem f_274_39 : fe 274 39 = some (.getfield 303, 3, 12, some .int) := fe_of pg_274 rfl
set_option maxRecDepth 100000 in
theorem f_274_42 : fe 274 42 = some (.if_icmp .ge 85, 3, 12, some .int) := fe_of pg_274 rfl
set_option maxRecDepth 100000 in
theorem f_274_45 : fe 274 45 = some (.iload 5, 2, 12, some .int) := fe_of pg_274 rfl
set_option maxRecDepth 100000 in
theorem f_274_47 : fe 274 47 = some (.iload 6, 2, 12, some .int) := fe_of pg_274 rfl
set_option maxRecDepth 100000 in
theorem f_274_49 : fe 274 49 = some (.invokestatic 113, 3, 12, some .int) := fe_of pg_274 rfl
set_option maxRecDepth 100000 in
theorem f_274_52 : fe 274 52 = some (.ifCond .eq 34, 3, 12, some .int) := fe_of pg_274 rfl
set_option maxRecDepth 100000 in
theorem f_274_55 : fe 274 55 = some (.aload_n 0, 1, 12, some .int) := fe_of pg_274 rfl
set_option maxRecDepth 100000 in
theorem f_274_56 : fe 274 56 = some (.bipush 19, 2, 12, some .int) := fe_of pg_274 rfl
set_option maxRecDepth 100000 in
theorem f_274_58 : fe 274 58 = some (.iload 4, 2, 12, some .int) := fe_of pg_274 rfl
set_option maxRecDepth 100000 in
theorem f_274_60 : fe 274 60 = some (.iadd, 1, 12, some .int) := fe_of pg_274 rfl
set_option maxRecDepth 100000 in
theorem f_274_61 : fe 274 61 = some (.invokevirtual 293, 3, 12, some .int) := fe_of pg_274 rfl
set_option maxRecDepth 100000 in
theorem f_274_64 : fe 274 64 = some (.aload_n 0, 1, 12, some .int) := fe_of pg_274 rfl
set_option maxRecDepth 100000 in
theorem f_274_65 : fe 274 65 = some (.bipush 19, 2, 12, some .int) := fe_of pg_274 rfl
set_option maxRecDepth 100000 in
theorem f_274_67 : fe 274 67 = some (.iload 6, 2, 12, some .int) := fe_of pg_274 rfl
set_option maxRecDepth 100000 in
theorem f_274_69 : fe 274 69 = some (.iadd, 1, 12, some .int) := fe_of pg_274 rfl
set_option maxRecDepth 100000 in
theorem f_274_70 : fe 274 70 = some (.invokevirtual 293, 3, 12, some .int) := fe_of pg_274 rfl
set_option maxRecDepth 100000 in
theorem f_274_73 : fe 274 73 = some (.iadd, 1, 12, some .int) := fe_of pg_274 rfl
set_option maxRecDepth 100000 in
theorem f_274_74 : fe 274 74 = some (.iconst 1, 1, 12, some .int) := fe_of pg_274 rfl
set_option maxRecDepth 100000 in
theorem f_274_75 : fe 274 75 = some (.iadd, 1, 12, some .int) := fe_of pg_274 rfl
set_option maxRecDepth 100000 in
theorem f_274_76 : fe 274 76 = some (.iconst 2, 1, 12, some .int) := fe_of pg_274 rfl
set_option maxRecDepth 100000 in
theorem f_274_77 : fe 274 77 = some (.idiv, 1, 12, some .int) := fe_of pg_274 rfl
set_option maxRecDepth 100000 in
theorem f_274_78 : fe 274 78 = some (.iload_n 2, 1, 12, some .int) := fe_of pg_274 rfl
set_option maxRecDepth 100000 in
theorem f_274_79 : fe 274 79 = some (.if_icmp .gt 7, 3, 12, some .int) := fe_of pg_274 rfl
set_option maxRecDepth 100000 in
theorem f_274_82 : fe 274 82 = some (.iconst 1, 1, 12, some .int) := fe_of pg_274 rfl
set_option maxRecDepth 100000 in
theorem f_274_83 : fe 274 83 = some (.goto 4, 3, 12, some .int) := fe_of pg_274 rfl
set_option maxRecDepth 100000 in
theorem f_274_86 : fe 274 86 = some (.iconst 0, 1, 12, some .int) := fe_of pg_274 rfl
set_option maxRecDepth 100000 in
theorem f_274_87 : fe 274 87 = some (.istore 7, 2, 12, some .int) := fe_of pg_274 rfl
set_option maxRecDepth 100000 in
theorem f_274_89 : fe 274 89 = some (.aload_n 0, 1, 12, some .int) := fe_of pg_274 rfl
set_option maxRecDepth 100000 in
theorem f_274_90 : fe 274 90 = some (.getfield 69, 3, 12, some .int) := fe_of pg_274 rfl
set_option maxRecDepth 100000 in
theorem f_274_93 : fe 274 93 = some (.iload_n 3, 1, 12, some .int) := fe_of pg_274 rfl
set_option maxRecDepth 100000 in
theorem f_274_94 : fe 274 94 = some (.dup2, 1, 12, some .int) := fe_of pg_274 rfl
set_option maxRecDepth 100000 in
theorem f_274_95 : fe 274 95 = some (.iaload, 1, 12, some .int) := fe_of pg_274 rfl
set_option maxRecDepth 100000 in
theorem f_274_96 : fe 274 96 = some (.iload 7, 2, 12, some .int) := fe_of pg_274 rfl
set_option maxRecDepth 100000 in
theorem f_274_98 : fe 274 98 = some (.ifCond .eq 20, 3, 12, some .int) := fe_of pg_274 rfl
set_option maxRecDepth 100000 in
theorem f_274_101 : fe 274 101 = some (.aload_n 0, 1, 12, some .int) := fe_of pg_274 rfl
set_option maxRecDepth 100000 in
theorem f_274_102 : fe 274 102 = some (.getfield 69, 3, 12, some .int) := fe_of pg_274 rfl
set_option maxRecDepth 100000 in
theorem f_274_105 : fe 274 105 = some (.iload 5, 2, 12, some .int) := fe_of pg_274 rfl
set_option maxRecDepth 100000 in
theorem f_274_107 : fe 274 107 = some (.iconst 1, 1, 12, some .int) := fe_of pg_274 rfl
set_option maxRecDepth 100000 in
theorem f_274_108 : fe 274 108 = some (.iload 6, 2, 12, some .int) := fe_of pg_274 rfl
set_option maxRecDepth 100000 in
theorem f_274_110 : fe 274 110 = some (.ishl, 1, 12, some .int) := fe_of pg_274 rfl
set_option maxRecDepth 100000 in
theorem f_274_111 : fe 274 111 = some (.iconst (-1), 1, 12, some .int) := fe_of pg_274 rfl
set_option maxRecDepth 100000 in
theorem f_274_112 : fe 274 112 = some (.ixor, 1, 12, some .int) := fe_of pg_274 rfl
set_option maxRecDepth 100000 in
theorem f_274_113 : fe 274 113 = some (.iand, 1, 12, some .int) := fe_of pg_274 rfl
set_option maxRecDepth 100000 in
theorem f_274_114 : fe 274 114 = some (.iaload, 1, 12, some .int) := fe_of pg_274 rfl
set_option maxRecDepth 100000 in
theorem f_274_115 : fe 274 115 = some (.goto 4, 3, 12, some .int) := fe_of pg_274 rfl
set_option maxRecDepth 100000 in
theorem f_274_118 : fe 274 118 = some (.iconst 0, 1, 12, some .int) := fe_of pg_274 rfl
set_option maxRecDepth 100000 in
theorem f_274_119 : fe 274 119 = some (.iadd, 1, 12, some .int) := fe_of pg_274 rfl
set_option maxRecDepth 100000 in
theorem f_274_120 : fe 274 120 = some (.iastore, 1, 12, some .int) := fe_of pg_274 rfl
set_option maxRecDepth 100000 in
theorem f_274_121 : fe 274 121 = some (.iinc 6 1, 3, 12, some .int) := fe_of pg_274 rfl
set_option maxRecDepth 100000 in
theorem f_274_124 : fe 274 124 = some (.goto (-88), 3, 12, some .int) := fe_of pg_274 rfl
set_option maxRecDepth 100000 in
theorem f_274_127 : fe 274 127 = some (.iinc 3 1, 3, 12, some .int) := fe_of pg_274 rfl
set_option maxRecDepth 100000 in
theorem f_274_130 : fe 274 130 = some (.goto (-128), 3, 12, some .int) := fe_of pg_274 rfl
set_option maxRecDepth 100000 in
theorem f_274_133 : fe 274 133 = some (.aload_n 0, 1, 12, some .int) := fe_of pg_274 rfl
set_option maxRecDepth 100000 in
theorem f_274_134 : fe 274 134 = some (.getfield 69, 3, 12, some .int) := fe_of pg_274 rfl
set_option maxRecDepth 100000 in
theorem f_274_137 : fe 274 137 = some (.iload_n 1, 1, 12, some .int) := fe_of pg_274 rfl
set_option maxRecDepth 100000 in
theorem f_274_138 : fe 274 138 = some (.iaload, 1, 12, some .int) := fe_of pg_274 rfl
set_option maxRecDepth 100000 in
theorem f_274_139 : fe 274 139 = some (.ireturn, 1, 12, some .int) := fe_of pg_274 rfl
set_option maxRecDepth 100000 in
theorem f_275_0 : fe 275 0 = some (.aload_n 0, 1, 12, some .int) := fe_of pg_275 rfl
set_option maxRecDepth 100000 in
theorem f_275_1 : fe 275 1 = some (.iconst 0, 1, 12, some .int) := fe_of pg_275 rfl
set_option maxRecDepth 100000 in
theorem f_275_2 : fe 275 2 = some (.putfield 109, 3, 12, some .int) := fe_of pg_275 rfl
set_option maxRecDepth 100000 in
theorem f_275_5 : fe 275 5 = some (.aload_n 0, 1, 12, some .int) := fe_of pg_275 rfl
set_option maxRecDepth 100000 in
theorem f_275_6 : fe 275 6 = some (.iload_n 1, 1, 12, some .int) := fe_of pg_275 rfl
set_option maxRecDepth 100000 in
theorem f_275_7 : fe 275 7 = some (.invokevirtual 306, 3, 12, some .int) := fe_of pg_275 rfl
set_option maxRecDepth 100000 in
theorem f_275_10 : fe 275 10 = some (.ifCond .eq 25, 3, 12, some .int) := fe_of pg_275 rfl
set_option maxRecDepth 100000 in
theorem f_275_13 : fe 275 13 = some (.aload_n 0, 1, 12, some .int) := fe_of pg_275 rfl
set_option maxRecDepth 100000 in
theorem f_275_14 : fe 275 14 = some (.iload_n 2, 1, 12, some .int) := fe_of pg_275 rfl
set_option maxRecDepth 100000 in
theorem f_275_15 : fe 275 15 = some (.invokevirtual 400, 3, 12, some .int) := fe_of pg_275 rfl
set_option maxRecDepth 100000 in
theorem f_275_18 : fe 275 18 = some (.ifCond .eq 17, 3, 12, some .int) := fe_of pg_275 rfl
set_option maxRecDepth 100000 in
theorem f_275_21 : fe 275 21 = some (.iload_n 2, 1, 12, some .int) := fe_of pg_275 rfl
set_option maxRecDepth 100000 in
theorem f_275_22 : fe 275 22 = some (.ifCond .eq 13, 3, 12, some .int) := fe_of pg_275 rfl
set_option maxRecDepth 100000 in
theorem f_275_25 : fe 275 25 = some (.iload_n 2, 1, 12, some .int) := fe_of pg_275 rfl
set_option maxRecDepth 100000 in
theorem f_275_26 : fe 275 26 = some (.invokestatic 391, 3, 12, some .int) := fe_of pg_275 rfl
set_option maxRecDepth 100000 in
theorem f_275_29 : fe 275 29 = some (.iconst 2, 1, 12, some .int) := fe_of pg_275 rfl
set_option maxRecDepth 100000 in
theorem f_275_30 : fe 275 30 = some (.irem, 1, 12, some .int) := fe_of pg_275 rfl
set_option maxRecDepth 100000 in
theorem f_275_31 : fe 275 31 = some (.iconst 1, 1, 12, some .int) := fe_of pg_275 rfl
set_option maxRecDepth 100000 in
theorem f_275_32 : fe 275 32 = some (.if_icmp .ne 5, 3, 12, some .int) := fe_of pg_275 rfl
set_option maxRecDepth 100000 in
theorem f_275_35 : fe 275 35 = some (.iconst (-1), 1, 12, some .int) := fe_of pg_275 rfl
set_option maxRecDepth 100000 in
theorem f_275_36 : fe 275 36 = some (.ireturn, 1, 12, some .int) := fe_of pg_275 rfl
set_option maxRecDepth 100000 in
theorem f_275_37 : fe 275 37 = some (.aload_n 0, 1, 12, some .int) := fe_of pg_275 rfl
set_option maxRecDepth 100000 in
theorem f_275_38 : fe 275 38 = some (.iload_n 2, 1, 12, some .int) := fe_of pg_275 rfl
set_option maxRecDepth 100000 in
theorem f_275_39 : fe 275 39 = some (.invokevirtual 452, 3, 12, some .int) := fe_of pg_275 rfl
set_option maxRecDepth 100000 in
theorem f_275_42 : fe 275 42 = some (.iload_n 3, 1, 12, some .int) := fe_of pg_275 rfl
set_option maxRecDepth 100000 in
theorem f_275_43 : fe 275 43 = some (.ifCond .eq 17, 3, 12, some .int) := fe_of pg_275 rfl
set_option maxRecDepth 100000 in
theorem f_275_46 : fe 275 46 = some (.aload_n 0, 1, 12, some .int) := fe_of pg_275 rfl
set_option maxRecDepth 100000 in
theorem f_275_47 : fe 275 47 = some (.iload_n 2, 1, 12, some .int) := fe_of pg_275 rfl
set_option maxRecDepth 100000 in
theorem f_275_48 : fe 275 48 = some (.aload_n 0, 1, 12, some .int) := fe_of pg_275 rfl
set_option maxRecDepth 100000 in
theorem f_275_49 : fe 275 49 = some (.getfield 66, 3, 12, some .int) := fe_of pg_275 rfl
set_option maxRecDepth 100000 in
theorem f_275_52 : fe 275 52 = some (.iload_n 2, 1, 12, some .int) := fe_of pg_275 rfl
set_option maxRecDepth 100000 in
theorem f_275_53 : fe 275 53 = some (.iaload, 1, 12, some .int) := fe_of pg_275 rfl
set_option maxRecDepth 100000 in
theorem f_275_54 : fe 275 54 = some (.invokevirtual 455, 3, 12, some .int) := fe_of pg_275 rfl
set_option maxRecDepth 100000 in
theorem f_275_57 : fe 275 57 = some (.goto 9, 3, 12, some .int) := fe_of pg_275 rfl
set_option maxRecDepth 100000 in
theorem f_275_60 : fe 275 60 = some (.aload_n 0, 1, 12, some .int) := fe_of pg_275 rfl
set_option maxRecDepth 100000 in
theorem f_275_61 : fe 275 61 = some (.getfield 66, 3, 12, some .int) := fe_of pg_275 rfl
set_option maxRecDepth 100000 in
theorem f_275_64 : fe 275 64 = some (.iload_n 2, 1, 12, some .int) := fe_of pg_275 rfl
set_option maxRecDepth 100000 in
theorem f_275_65 : fe 275 65 = some (.iaload, 1, 12, some .int) := fe_of pg_275 rfl
set_option maxRecDepth 100000 in
theorem f_275_66 : fe 275 66 = some (.ireturn, 1, 12, some .int) := fe_of pg_275 rfl
set_option maxRecDepth 100000 in
theorem f_276_0 : fe 276 0 = some (.aload_n 0, 1, 12, some .int) := fe_of pg_276 rfl
set_option maxRecDepth 100000 in
theorem f_276_1 : fe 276 1 = some (.getfield 32, 3, 12, some .int) := fe_of pg_276 rfl
set_option maxRecDepth 100000 in
theorem f_276_4 : fe 276 4 = some (.bipush 25, 2, 12, some .int) := fe_of pg_276 rfl
set_option maxRecDepth 100000 in
theorem f_276_6 : fe 276 6 = some (.aload_n 0, 1, 12, some .int) := fe_of pg_276 rfl
set_option maxRecDepth 100000 in
theorem f_276_7 : fe 276 7 = some (.getfield 458, 3, 12, some .int) := fe_of pg_276 rfl
set_option maxRecDepth 100000 in
theorem f_276_10 : fe 276 10 = some (.imul, 1, 12, some .int) := fe_of pg_276 rfl
set_option maxRecDepth 100000 in
theorem f_276_11 : fe 276 11 = some (.iaload, 1, 12, some .int) := fe_of pg_276 rfl
set_option maxRecDepth 100000 in
theorem f_276_12 : fe 276 12 = some (.ireturn, 1, 12, some .int) := fe_of pg_276 rfl
