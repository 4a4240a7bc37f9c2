set_option maxRecDepth 100000 in
theorem f_277_0 : fe 277 0 = some (.aload_n 0, 1, 12, some .int) := fe_of pg_277 rfl
set_option maxRecDepth 100000 in
theorem f_277_1 : fe 277 1 = some (.getfield 32, 3, 12, some .int) := fe_of pg_277 rfl
set_option maxRecDepth 100000 in
theorem f_277_4 : fe 277 4 = some (.bipush 25, 2, 12, some .int) := fe_of pg_277 rfl
set_option maxRecDepth 100000 in
theorem f_277_6 : fe 277 6 = some (.aload_n 0, 1, 12, some .int) := fe_of pg_277 rfl
set_option maxRecDepth 100000 in
theorem f_277_7 : fe 277 7 = some (.getfield 458, 3, 12, some .int) := fe_of pg_277 rfl
set_option maxRecDepth 100000 in
theorem f_277_10 : fe 277 10 = some (.imul, 1, 12, some .int) := fe_of pg_277 rfl
set_option maxRecDepth 100000 in
theorem f_277_11 : fe 277 11 = some (.iconst 1, 1, 12, some .int) := fe_of pg_277 rfl
set_option maxRecDepth 100000 in
theorem f_277_12 : fe 277 12 = some (.iadd, 1, 12, some .int) := fe_of pg_277 rfl
set_option maxRecDepth 100000 in
theorem f_277_13 : fe 277 13 = some (.iload_n 1, 1, 12, some .int) := fe_of pg_277 rfl
set_option maxRecDepth 100000 in
theorem f_277_14 : fe 277 14 = some (.iadd, 1, 12, some .int) := fe_of pg_277 rfl
set_option maxRecDepth 100000 in
theorem f_277_15 : fe 277 15 = some (.iaload, 1, 12, some .int) := fe_of pg_277 rfl
set_option maxRecDepth 100000 in
theorem f_277_16 : fe 277 16 = some (.ireturn, 1, 12, some .int) := fe_of pg_277 rfl
set_option maxRecDepth 100000 in
theorem f_278_0 : fe 278 0 = some (.aload_n 0, 1, 12, some .boolean) := fe_of pg_278 rfl
set_option maxRecDepth 100000 in
theorem f_278_1 : fe 278 1 = some (.iload_n 1, 1, 12, some .boolean) := fe_of pg_278 rfl
set_option maxRecDepth 100000 in
theorem f_278_2 : fe 278 2 = some (.putfield 458, 3, 12, some .boolean) := fe_of pg_278 rfl
set_option maxRecDepth 100000 in
theorem f_278_5 : fe 278 5 = some (.aload_n 0, 1, 12, some .boolean) := fe_of pg_278 rfl
set_option maxRecDepth 100000 in
theorem f_278_6 : fe 278 6 = some (.iconst 2, 1, 12, some .boolean) := fe_of pg_278 rfl
set_option maxRecDepth 100000 in
theorem f_278_7 : fe 278 7 = some (.iload_n 1, 1, 12, some .boolean) := fe_of pg_278 rfl
set_option maxRecDepth 100000 in
theorem f_278_8 : fe 278 8 = some (.invokevirtual 281, 3, 12, some .boolean) := fe_of pg_278 rfl
set_option maxRecDepth 100000 in
theorem f_278_11 : fe 278 11 = some (.ireturn, 1, 12, some .boolean) := fe_of pg_278 rfl
set_option maxRecDepth 100000 in
theorem f_279_0 : fe 279 0 = some (.iconst 0, 1, 12, some .int) := fe_of pg_279 rfl
set_option maxRecDepth 100000 in
theorem f_279_1 : fe 279 1 = some (.istore_n 3, 1, 12, some .int) := fe_of pg_279 rfl
set_option maxRecDepth 100000 in
theorem f_279_2 : fe 279 2 = some (.iload_n 1, 1, 12, some .int) := fe_of pg_279 rfl
set_option maxRecDepth 100000 in
theorem f_279_3 : fe 279 3 = some (.istore 4, 2, 12, some .int) := fe_of pg_279 rfl
set_option maxRecDepth 100000 in
theorem f_279_5 : fe 279 5 = some (.iload 4, 2, 12, some .int) := fe_of pg_279 rfl
set_option maxRecDepth 100000 in
theorem f_279_7 : fe 279 7 = some (.iload_n 2, 1, 12, some .int) := fe_of pg_279 rfl
set_option maxRecDepth 100000 in
theorem f_279_8 : fe 279 8 = some (.if_icmp .gt 18, 3, 12, some .int) := fe_of pg_279 rfl
set_option maxRecDepth 100000 in
theorem f_279_11 : fe 279 11 = some (.iload_n 3, 1, 12, some .int) := fe_of pg_279 rfl
set_option maxRecDepth 100000 in
theorem f_279_12 : fe 279 12 = some (.aload_n 0, 1, 12, some .int) := fe_of pg_279 rfl
set_option maxRecDepth 100000 in
theorem f_279_13 : fe 279 13 = some (.iload 4, 2, 12, some .int) := fe_of pg_279 rfl
set_option maxRecDepth 100000 in
theorem f_279_15 : fe 279 15 = some (.invokevirtual 461, 3, 12, some .int) := fe_of pg_279 rfl
set_option maxRecDepth 100000 in
theorem f_279_18 : fe 279 18 = some (.iadd, 1, 12, some .int) := fe_of pg_279 rfl
set_option maxRecDepth 100000 in
theorem f_279_19 : fe 279 19 = some (.istore_n 3, 1, 12, some .int) := fe_of pg_279 rfl
set_option maxRecDepth 100000 in
theorem f_279_20 : fe 279 20 = some (.iinc 4 1, 3, 12, some .int) := fe_of pg_279 rfl
set_option maxRecDepth 100000 in
theorem f_279_23 : fe 279 23 = some (.goto (-18), 3, 12, some .int) := fe_of pg_279 rfl
set_option maxRecDepth 100000 in
theorem f_279_26 : fe 279 26 = some (.iload_n 3, 1, 12, some .int) := fe_of pg_279 rfl
set_option maxRecDepth 100000 in
theorem f_279_27 : fe 279 27 = some (.ireturn, 1, 12, some .int) := fe_of pg_279 rfl
set_option maxRecDepth 100000 in
theorem f_280_0 : fe 280 0 = some (.iconst 0, 1, 12, some .int) := fe_of pg_280 rfl
set_option maxRecDepth 100000 in
theorem f_280_1 : fe 280 1 = some (.istore_n 1, 1, 12, some .int) := fe_of pg_280 rfl
set_option maxRecDepth 100000 in
theorem f_280_2 : fe 280 2 = some (.iconst 1, 1, 12, some .int) := fe_of pg_280 rfl
set_option maxRecDepth 100000 in
theorem f_280_3 : fe 280 3 = some (.istore_n 2, 1, 12, some .int) := fe_of pg_280 rfl
set_option maxRecDepth 100000 in
theorem f_280_4 : fe 280 4 = some (.iload_n 2, 1, 12, some .int) := fe_of pg_280 rfl
set_option maxRecDepth 100000 in
theorem f_280_5 : fe 280 5 = some (.bipush 24, 2, 12, some .int) := fe_of pg_280 rfl
set_option maxRecDepth 100000 in
theorem f_280_7 : fe 280 7 = some (.if_icmp .ge 28, 3, 12, some .int) := fe_of pg_280 rfl
set_option maxRecDepth 100000 in
theorem f_280_10 : fe 280 10 = some (.aload_n 0, 1, 12, some .int) := fe_of pg_280 rfl
set_option maxRecDepth 100000 in
theorem f_280_11 : fe 280 11 = some (.iload_n 2, 1, 12, some .int) := fe_of pg_280 rfl
set_option maxRecDepth 100000 in
theorem f_280_12 : fe 280 12 = some (.invokevirtual 461, 3, 12, some .int) := fe_of pg_280 rfl
set_option maxRecDepth 100000 in
theorem f_280_15 : fe 280 15 = some (.aload_n 0, 1, 12, some .int) := fe_of pg_280 rfl
set_option maxRecDepth 100000 in
theorem f_280_16 : fe 280 16 = some (.iload_n 1, 1, 12, some .int) := fe_of pg_280 rfl
set_option maxRecDepth 100000 in
theorem f_280_17 : fe 280 17 = some (.invokevirtual 461, 3, 12, some .int) := fe_of pg_280 rfl
set_option maxRecDepth 100000 in
theorem f_280_20 : fe 280 20 = some (.if_icmp .le 7, 3, 12, some .int) := fe_of pg_280 rfl
set_option maxRecDepth 100000 in
theorem f_280_23 : fe 280 23 = some (.iload_n 2, 1, 12, some .int) := fe_of pg_280 rfl
set_option maxRecDepth 100000 in
theorem f_280_24 : fe 280 24 = some (.goto 4, 3, 12, some .int) := fe_of pg_280 rfl
set_option maxRecDepth 100000 in
theorem f_280_27 : fe 280 27 = some (.iload_n 1, 1, 12, some .int) := fe_of pg_280 rfl
set_option maxRecDepth 100000 in
theorem f_280_28 : fe 280 28 = some (.istore_n 1, 1, 12, some .int) := fe_of pg_280 rfl
set_option maxRecDepth 100000 in
theorem f_280_29 : fe 280 29 = some (.iinc 2 1, 3, 12, some .int) := fe_of pg_280 rfl
set_option maxRecDepth 100000 in
theorem f_280_32 : fe 280 32 = some (.goto (-28), 3, 12, some .int) := fe_of pg_280 rfl
set_option maxRecDepth 100000 in
theorem f_280_35 : fe 280 35 = some (.iload_n 1, 1, 12, some .int) := fe_of pg_280 rfl
set_option maxRecDepth 100000 in
theorem f_280_36 : fe 280 36 = some (.ireturn, 1, 12, some .int) := fe_of pg_280 rfl
set_option maxRecDepth 100000 in
theorem f_281_0 : fe 281 0 = some (.iconst 0, 1, 12, some .int) := fe_of pg_281 rfl
set_option maxRecDepth 100000 in
theorem f_281_1 : fe 281 1 = some (.istore_n 1, 1, 12, some .int) := fe_of pg_281 rfl
set_option maxRecDepth 100000 in
theorem f_281_2 : fe 281 2 = some (.iconst 0, 1, 12, some .int) := fe_of pg_281 rfl
set_option maxRecDepth 100000 in
theorem f_281_3 : fe 281 3 = some (.istore_n 2, 1, 12, some .int) := fe_of pg_281 rfl
set_option maxRecDepth 100000 in
theorem f_281_4 : fe 281 4 = some (.iconst 0, 1, 12, some .int) := fe_of pg_281 rfl
set_option maxRecDepth 100000 in
theorem f_281_5 : fe 281 5 = some (.istore_n 3, 1, 12, some .int) := fe_of pg_281 rfl
set_option maxRecDepth 100000 in
theorem f_281_6 : fe 281 6 = some (.iload_n 3, 1, 12, some .int) := fe_of pg_281 rfl
set_option maxRecDepth 100000 in
theorem f_281_7 : fe 281 7 = some (.bipush 24, 2, 12, some .int) := fe_of pg_281 rfl
set_option maxRecDepth 100000 in
theorem f_281_9 : fe 281 9 = some (.if_icmp .ge 31, 3, 12, some .int) := fe_of pg_281 rfl
set_option maxRecDepth 100000 in
theorem f_281_12 : fe 281 12 = some (.aload_n 0, 1, 12, some .int) := fe_of pg_281 rfl
set_option maxRecDepth 100000 in
theorem f_281_13 : fe 281 13 = some (.iload_n 3, 1, 12, some .int) := fe_of pg_281 rfl
set_option maxRecDepth 100000 in
theorem f_281_14 : fe 281 14 = some (.invokevirtual 461, 3, 12, some .int) := fe_of pg_281 rfl
set_option maxRecDepth 100000 in
theorem f_281_17 : fe 281 17 = some (.ifCond .ne 9, 3, 12, some .int) := fe_of pg_281 rfl
set_option maxRecDepth 100000 in
theorem f_281_20 : fe 281 20 = some (.iload_n 2, 1, 12, some .int) := fe_of pg_281 rfl
set_option maxRecDepth 100000 in
theorem f_281_21 : fe 281 21 = some (.iconst 1, 1, 12, some .int) := fe_of pg_281 rfl
set_option maxRecDepth 100000 in
theorem f_281_22 : fe 281 22 = some (.iadd, 1, 12, some .int) := fe_of pg_281 rfl
set_option maxRecDepth 100000 in
theorem f_281_23 : fe 281 23 = some (.goto 4, 3, 12, some .int) := fe_of pg_281 rfl
set_option maxRecDepth 100000 in
theorem f_281_26 : fe 281 26 = some (.iconst 0, 1, 12, some .int) := fe_of pg_281 rfl
set_option maxRecDepth 100000 in
theorem f_281_27 : fe 281 27 = some (.istore_n 2, 1, 12, some .int) := fe_of pg_281 rfl
set_option maxRecDepth 100000 in
theorem f_281_28 : fe 281 28 = some (.iload_n 1, 1, 12, some .int) := fe_of pg_281 rfl
set_option maxRecDepth 100000 in
theorem f_281_29 : fe 281 29 = some (.iload_n 2, 1, 12, some .int) := fe_of pg_281 rfl
set_option maxRecDepth 100000 in
theorem f_281_30 : fe 281 30 = some (.invokestatic 349, 3, 12, some .int) := fe_of pg_281 rfl
set_option maxRecDepth 100000 in
theorem f_281_33 : fe 281 33 = some (.istore_n 1, 1, 12, some .int) := fe_of pg_281 rfl
set_option maxRecDepth 100000 in
theorem f_281_34 : fe 281 34 = some (.iinc 3 1, 3, 12, some .int) := fe_of pg_281 rfl
set_option maxRecDepth 100000 in
theorem f_281_37 : fe 281 37 = some (.goto (-31), 3, 12, some .int) := fe_of pg_281 rfl
set_option maxRecDepth 100000 in
theorem f_281_40 : fe 281 40 = some (.iload_n 1, 1, 12, some .int) := fe_of pg_281 rfl
set_option maxRecDepth 100000 in
theorem f_281_41 : fe 281 41 = some (.ireturn, 1, 12, some .int) := fe_of pg_281 rfl
set_option maxRecDepth 100000 in
theorem f_282_0 : fe 282 0 = some (.iconst 0, 1, 12, some .int) := fe_of pg_282 rfl
set_option maxRecDepth 100000 in
theorem f_282_1 : fe 282 1 = some (.istore_n 1, 1, 12, some .int) := fe_of pg_282 rfl
set_option maxRecDepth 100000 in
theorem f_282_2 : fe 282 2 = some (.iconst 2, 1, 12, some .int) := fe_of pg_282 rfl
set_option maxRecDepth 100000 in
theorem f_282_3 : fe 282 3 = some (.aload_n 0, 1, 12, some .int) := fe_of pg_282 rfl
set_option maxRecDepth 100000 in
theorem f_282_4 : fe 282 4 = some (.iconst 0, 1, 12, some .int) := fe_of pg_282 rfl
set_option maxRecDepth 100000 in
theorem f_282_5 : fe 282 5 = some (.iload_n 1, 1, 12, some .int) := fe_of pg_282 rfl
set_option maxRecDepth 100000 in
theorem f_282_6 : fe 282 6 = some (.invokevirtual 464, 3, 12, some .int) := fe_of pg_282 rfl
set_option maxRecDepth 100000 in
theorem f_282_9 : fe 282 9 = some (.imul, 1, 12, some .int) := fe_of pg_282 rfl
set_option maxRecDepth 100000 in
theorem f_282_10 : fe 282 10 = some (.aload_n 0, 1, 12, some .int) := fe_of pg_282 rfl
set_option maxRecDepth 100000 in
theorem f_282_11 : fe 282 11 = some (.iconst 0, 1, 12, some .int) := fe_of pg_282 rfl
set_option maxRecDepth 100000 in
theorem f_282_12 : fe 282 12 = some (.bipush 23, 2, 12, some .int) := fe_of pg_282 rfl
set_option maxRecDepth 100000 in
theorem f_282_14 : fe 282 14 = some (.invokevirtual 464, 3, 12, some .int) := fe_of pg_282 rfl
set_option maxRecDepth 100000 in
theorem f_282_17 : fe 282 17 = some (.if_icmp .ge 9, 3, 12, some .int) := fe_of pg_282 rfl
set_option maxRecDepth 100000 in
theorem f_282_20 : fe 282 20 = some (.iinc 1 1, 3, 12, some .int) := fe_of pg_282 rfl
set_option maxRecDepth 100000 in
theorem f_282_23 : fe 282 23 = some (.goto (-21), 3, 12, some .int) := fe_of pg_282 rfl
set_option maxRecDepth 100000 in
theorem f_282_26 : fe 282 26 = some (.iload_n 1, 1, 12, some .int) := fe_of pg_282 rfl
set_option maxRecDepth 100000 in
theorem f_282_27 : fe 282 27 = some (.ireturn, 1, 12, some .int) := fe_of pg_282 rfl
set_option maxRecDepth 100000 in
theorem f_283_0 : fe 283 0 = some (.iconst 1, 1, 12, some .int) := fe_of pg_283 rfl
set_option maxRecDepth 100000 in
theorem f_283_1 : fe 283 1 = some (.istore_n 1, 1, 12, some .int) := fe_of pg_283 rfl
set_option maxRecDepth 100000 in
theorem f_283_2 : fe 283 2 = some (.iload_n 1, 1, 12, some .int) := fe_of pg_283 rfl
set_option maxRecDepth 100000 in
theorem f_283_3 : fe 283 3 = some (.bipush 24, 2, 12, some .int) := fe_of pg_283 rfl
set_option maxRecDepth 100000 in
theorem f_283_5 : fe 283 5 = some (.if_icmp .gt 60, 3, 12, some .int) := fe_of pg_283 rfl
set_option maxRecDepth 100000 in
theorem f_283_8 : fe 283 8 = some (.iconst 1, 1, 12, some .int) := fe_of pg_283 rfl
set_option maxRecDepth 100000 in
theorem f_283_9 : fe 283 9 = some (.istore_n 2, 1, 12, some .int) := fe_of pg_283 rfl
set_option maxRecDepth 100000 in
theorem f_283_10 : fe 283 10 = some (.iconst 0, 1, 12, some .int) := fe_of pg_283 rfl
set_option maxRecDepth 100000 in
theorem f_283_11 : fe 283 11 = some (.istore_n 3, 1, 12, some .int) := fe_of pg_283 rfl
set_option maxRecDepth 100000 in
theorem f_283_12 : fe 283 12 = some (.iload_n 3, 1, 12, some .int) := fe_of pg_283 rfl
set_option maxRecDepth 100000 in
theorem f_283_13 : fe 283 13 = some (.iload_n 1, 1, 12, some .int) := fe_of pg_283 rfl
set_option maxRecDepth 100000 in
theorem f_283_14 : fe 283 14 = some (.iadd, 1, 12, some .int) := fe_of pg_283 rfl
set_option maxRecDepth 100000 in
theorem f_283_15 : fe 283 15 = some (.bipush 24, 2, 12, some .int) := fe_of pg_283 rfl
set_option maxRecDepth 100000 in
theorem f_283_17 : fe 283 17 = some (.if_icmp .gt 36, 3, 12, some .int) := fe_of pg_283 rfl
set_option maxRecDepth 100000 in
theorem f_283_20 : fe 283 20 = some (.iload_n 2, 1, 12, some .int) := fe_of pg_283 rfl
set_option maxRecDepth 100000 in
theorem f_283_21 : fe 283 21 = some (.ifCond .eq 24, 3, 12, some .int) := fe_of pg_283 rfl
set_option maxRecDepth 100000 in
theorem f_283_24 : fe 283 24 = some (.aload_n 0, 1, 12, some .int) := fe_of pg_283 rfl
set_option maxRecDepth 100000 in
theorem f_283_25 : fe 283 25 = some (.iload_n 3, 1, 12, some .int) := fe_of pg_283 rfl
set_option maxRecDepth 100000 in
theorem f_283_26 : fe 283 26 = some (.iload_n 3, 1, 12, some .int) := fe_of pg_283 rfl
set_option maxRecDepth 100000 in
theorem f_283_27 : fe 283 27 = some (.iload_n 1, 1, 12, some .int) := fe_of pg_283 rfl
set_option maxRecDepth 100000 in
theorem f_283_28 : fe 283 28 = some (.iadd, 1, 12, some .int) := fe_of pg_283 rfl
set_option maxRecDepth 100000 in
theorem f_283_29 : fe 283 29 = some (.iconst 1, 1, 12, some .int) := fe_of pg_283 rfl
set_option maxRecDepth 100000 in
theorem f_283_30 : fe 283 30 = some (.isub, 1, 12, some .int) := fe_of pg_283 rfl
set_option maxRecDepth 100000 in
theorem f_283_31 : fe 283 31 = some (.invokevirtual 464, 3, 12, some .int) := fe_of pg_283 rfl
set_option maxRecDepth 100000 in
theorem f_283_34 : fe 283 34 = some (.aload_n 0, 1, 12, some .int) := fe_of pg_283 rfl
set_option maxRecDepth 100000 in
theorem f_283_35 : fe 283 35 = some (.invokevirtual 467, 3, 12, some .int) := fe_of pg_283 rfl
set_option maxRecDepth 100000 in
theorem f_283_38 : fe 283 38 = some (.if_icmp .lt 7, 3, 12, some .int) := fe_of pg_283 rfl
set_option maxRecDepth 100000 in
theorem f_283_41 : fe 283 41 = some (.iconst 1, 1, 12, some .int) := fe_of pg_283 rfl
set_option maxRecDepth 100000 in
theorem f_283_42 : fe 283 42 = some (.goto 4, 3, 12, some .int) := fe_of pg_283 rfl
set_option maxRecDepth 100000 in
theorem f_283_45 : fe 283 45 = some (.iconst 0, 1, 12, some .int) := fe_of pg_283 rfl
set_option maxRecDepth 100000 in
theorem f_283_46 : fe 283 46 = some (.istore_n 2, 1, 12, some .int) := fe_of pg_283 rfl
set_option maxRecDepth 100000 in
theorem f_283_47 : fe 283 47 = some (.iinc 3 1, 3, 12, some .int) := fe_of pg_283 rfl
set_option maxRecDepth 100000 in
theorem f_283_50 : fe 283 50 = some (.goto (-38), 3, 12, some .int) := fe_of pg_283 rfl
set_option maxRecDepth 100000 in
theorem f_283_53 : fe 283 53 = some (.iload_n 2, 1, 12, some .int) := fe_of pg_283 rfl
set_option maxRecDepth 100000 in
theorem f_283_54 : fe 283 54 = some (.ifCond .eq 5, 3, 12, some .int) := fe_of pg_283 rfl
set_option maxRecDepth 100000 in
theorem f_283_57 : fe 283 57 = some (.iload_n 1, 1, 12, some .int) := fe_of pg_283 rfl
set_option maxRecDepth 100000 in
theorem f_283_58 : fe 283 58 = some (.ireturn, 1, 12, some .int) := fe_of pg_283 rfl
set_option maxRecDepth 100000 in
theorem f_283_59 : fe 283 59 = some (.iinc 1 1, 3, 12, some .int) := fe_of pg_283 rfl
set_option maxRecDepth 100000 in
theorem f_283_62 : fe 283 62 = some (.goto (-60), 3, 12, some .int) := fe_of pg_283 rfl
set_option maxRecDepth 100000 in
theorem f_283_65 : fe 283 65 = some (.iconst (-1), 1, 12, some .int) := fe_of pg_283 rfl
set_option maxRecDepth 100000 in
theorem f_283_66 : fe 283 66 = some (.ireturn, 1, 12, some .int) := fe_of pg_283 rfl
set_option maxRecDepth 100000 in
theorem f_284_0 : fe 284 0 = some (.aload_n 0, 1, 12, some .int) := fe_of pg_284 rfl
set_option maxRecDepth 100000 in
theorem f_284_1 : fe 284 1 = some (.iconst 0, 1, 12, some .int) := fe_of pg_284 rfl
set_option maxRecDepth 100000 in
theorem f_284_2 : fe 284 2 = some (.putfield 109, 3, 12, some .int) := fe_of pg_284 rfl
set_option maxRecDepth 100000 in
theorem f_284_5 : fe 284 5 = some (.aload_n 0, 1, 12, some .int) := fe_of pg_284 rfl
set_option maxRecDepth 100000 in
theorem f_284_6 : fe 284 6 = some (.iload_n 1, 1, 12, some .int) := fe_of pg_284 rfl
set_option maxRecDepth 100000 in
theorem f_284_7 : fe 284 7 = some (.invokevirtual 470, 3, 12, some .int) := fe_of pg_284 rfl
set_option maxRecDepth 100000 in
theorem f_284_10 : fe 284 10 = some (.ifCond .ne 5, 3, 12, some .int) := fe_of pg_284 rfl
set_option maxRecDepth 100000 in
theorem f_284_13 : fe 284 13 = some (.iconst (-1), 1, 12, some .int) := fe_of pg_284 rfl
set_option maxRecDepth 100000 in
theorem f_284_14 : fe 284 14 = some (.ireturn, 1, 12, some .int) := fe_of pg_284 rfl
set_option maxRecDepth 100000 in
theorem f_284_15 : fe 284 15 = some (.iload_n 2, 1, 12, some .int) := fe_of pg_284 rfl
set_option maxRecDepth 100000 in
theorem f_284_16 : fe 284 16 = some (.bipush 10, 2, 12, some .int) := fe_of pg_284 rfl
set_option maxRecDepth 100000 in
theorem f_284_18 : fe 284 18 = some (.bipush 33, 2, 12, some .int) := fe_of pg_284 rfl
set_option maxRecDepth 100000 in
theorem f_284_20 : fe 284 20 = some (.invokestatic 121, 3, 12, some .int) := fe_of pg_284 rfl
set_option maxRecDepth 100000 in
theorem f_284_23 : fe 284 23 = some (.ifCond .eq 12, 3, 12, some .int) := fe_of pg_284 rfl
set_option maxRecDepth 100000 in
theorem f_284_26 : fe 284 26 = some (.aload_n 0, 1, 12, some .int) := fe_of pg_284 rfl
set_option maxRecDepth 100000 in
theorem f_284_27 : fe 284 27 = some (.iload_n 2, 1, 12, some .int) := fe_of pg_284 rfl
set_option maxRecDepth 100000 in
theorem f_284_28 : fe 284 28 = some (.bipush 10, 2, 12, some .int) := fe_of pg_284 rfl
set_option maxRecDepth 100000 in
theorem f_284_30 : fe 284 30 = some (.isub, 1, 12, some .int) := fe_of pg_284 rfl
set_option maxRecDepth 100000 in
theorem f_284_31 : fe 284 31 = some (.invokevirtual 461, 3, 12, some .int) := fe_of pg_284 rfl
set_option maxRecDepth 100000 in
theorem f_284_34 : fe 284 34 = some (.ireturn, 1, 12, some .int) := fe_of pg_284 rfl
set_option maxRecDepth 100000 in
theorem f_284_35 : fe 284 35 = some (.iload_n 2, 1, 12, some .int) := fe_of pg_284 rfl
set_option maxRecDepth 100000 in
theorem f_284_36 : fe 284 36 = some (.tableswitch 73 0 5 #[40, 45, 50, 55, 60, 68], 40, 12, some .int) := fe_of pg_284 rfl
set_option maxRecDepth 100000 in
theorem f_284_76 : fe 284 76 = some (.aload_n 0, 1, 12, some .int) := fe_of pg_284 rfl
set_option maxRecDepth 100000 in
theorem f_284_77 : fe 284 77 = some (.invokevirtual 467, 3, 12, some .int) := fe_of pg_284 rfl
set_option maxRecDepth 100000 in
theorem f_284_80 : fe 284 80 = some (.ireturn, 1, 12, some .int) := fe_of pg_284 rfl
set_option maxRecDepth 100000 in
theorem f_284_81 : fe 284 81 = some (.aload_n 0, 1, 12, some .int) := fe_of pg_284 rfl
set_option maxRecDepth 100000 in
theorem f_284_82 : fe 284 82 = some (.invokevirtual 473, 3, 12, some .int) := fe_of pg_284 rfl
set_option maxRecDepth 100000 in
theorem f_284_85 : fe 284 85 = some (.ireturn, 1, 12, some .int) := fe_of pg_284 rfl
set_option maxRecDepth 100000 in
theorem f_284_86 : fe 284 86 = some (.aload_n 0, 1, 12, some .int) := fe_of pg_284 rfl
set_option maxRecDepth 100000 in
theorem f_284_87 : fe 284 87 = some (.invokevirtual 476, 3, 12, some .int) := fe_of pg_284 rfl
set_option maxRecDepth 100000 in
theorem f_284_90 : fe 284 90 = some (.ireturn, 1, 12, some .int) := fe_of pg_284 rfl
set_option maxRecDepth 100000 in
theorem f_284_91 : fe 284 91 = some (.aload_n 0, 1, 12, some .int) := fe_of pg_284 rfl
set_option maxRecDepth 100000 in
theorem f_284_92 : fe 284 92 = some (.invokevirtual 479, 3, 12, some .int) := fe_of pg_284 rfl
set_option maxRecDepth 100000 in
theorem f_284_95 : fe 284 95 = some (.ireturn, 1, 12, some .int) := fe_of pg_284 rfl
set_option maxRecDepth 100000 in
theorem f_284_96 : fe 284 96 = some (.aload_n 0, 1, 12, some .int) := fe_of pg_284 rfl
set_option maxRecDepth 100000 in
theorem f_284_97 : fe 284 97 = some (.iconst 0, 1, 12, some .int) := fe_of pg_284 rfl
set_option maxRecDepth 100000 in
theorem f_284_98 : fe 284 98 = some (.bipush 23, 2, 12, some .int) := fe_of pg_284 rfl
set_option maxRecDepth 100000 in
theorem f_284_100 : fe 284 100 = some (.invokevirtual 464, 3, 12, some .int) := fe_of pg_284 rfl
set_option maxRecDepth 100000 in
theorem f_284_103 : fe 284 103 = some (.ireturn, 1, 12, some .int) := fe_of pg_284 rfl
set_option maxRecDepth 100000 in
theorem f_284_104 : fe 284 104 = some (.aload_n 0, 1, 12, some .int) := fe_of pg_284 rfl
set_option maxRecDepth 100000 in
theorem f_284_105 : fe 284 105 = some (.invokevirtual 482, 3, 12, some .int) := fe_of pg_284 rfl
set_option maxRecDepth 100000 in
theorem f_284_108 : fe 284 108 = some (.ireturn, 1, 12, some .int) := fe_of pg_284 rfl
set_option maxRecDepth 100000 in
theorem f_284_109 : fe 284 109 = some (.iconst (-1), 1, 12, some .int) := fe_of pg_284 rfl
set_option maxRecDepth 100000 in
theorem f_284_110 : fe 284 110 = some (.ireturn, 1, 12, some .int) := fe_of pg_284 rfl
set_option maxRecDepth 100000 in
theorem f_285_0 : fe 285 0 = some (.iconst 0, 1, 12, some .int) := fe_of pg_285 rfl
set_option maxRecDepth 100000 in
theorem f_285_1 : fe 285 1 = some (.istore_n 3, 1, 12, some .int) := fe_of pg_285 rfl
set_option maxRecDepth 100000 in
theorem f_285_2 : fe 285 2 = some (.iload_n 1, 1, 12, some .int) := fe_of pg_285 rfl
set_option maxRecDepth 100000 in
theorem f_285_3 : fe 285 3 = some (.istore 4, 2, 12, some .int) := fe_of pg_285 rfl
set_option maxRecDepth 100000 in
theorem f_285_5 : fe 285 5 = some (.iload 4, 2, 12, some .int) := fe_of pg_285 rfl
set_option maxRecDepth 100000 in
theorem f_285_7 : fe 285 7 = some (.iload_n 2, 1, 12, some .int) := fe_of pg_285 rfl
set_option maxRecDepth 100000 in
theorem f_285_8 : fe 285 8 = some (.if_icmp .ge 30, 3, 12, some .int) := fe_of pg_285 rfl
set_option maxRecDepth 100000 in
theorem f_285_11 : fe 285 11 = some (.iload 4, 2, 12, some .int) := fe_of pg_285 rfl
set_option maxRecDepth 100000 in
theorem f_285_13 : fe 285 13 = some (.bipush 24, 2, 12, some .int) := fe_of pg_285 rfl
set_option maxRecDepth 100000 in
theorem f_285_15 : fe 285 15 = some (.if_icmp .ge 23, 3, 12, some .int) := fe_of pg_285 rfl
set_option maxRecDepth 100000 in
theorem f_285_18 : fe 285 18 = some (.iload_n 3, 1, 12, some .int) := fe_of pg_285 rfl
set_option maxRecDepth 100000 in
theorem f_285_19 : fe 285 19 = some (.aload_n 0, 1, 12, some .int) := fe_of pg_285 rfl
set_option maxRecDepth 100000 in
theorem f_285_20 : fe 285 20 = some (.iload 4, 2, 12, some .int) := fe_of pg_285 rfl
set_option maxRecDepth 100000 in
theorem f_285_22 : fe 285 22 = some (.invokevirtual 461, 3, 12, some .int) := fe_of pg_285 rfl
set_option maxRecDepth 100000 in
theorem f_285_25 : fe 285 25 = some (.iload_n 2, 1, 12, some .int) := fe_of pg_285 rfl
set_option maxRecDepth 100000 in
theorem f_285_26 : fe 285 26 = some (.iload 4, 2, 12, some .int) := fe_of pg_285 rfl
set_option maxRecDepth 100000 in
theorem f_285_28 : fe 285 28 = some (.isub, 1, 12, some .int) := fe_of pg_285 rfl
set_option maxRecDepth 100000 in
theorem f_285_29 : fe 285 29 = some (.imul, 1, 12, some .int) := fe_of pg_285 rfl
set_option maxRecDepth 100000 in
theorem f_285_30 : fe 285 30 = some (.iadd, 1, 12, some .int) := fe_of pg_285 rfl
set_option maxRecDepth 100000 in
theorem f_285_31 : fe 285 31 = some (.istore_n 3, 1, 12, some .int) := fe_of pg_285 rfl
set_option maxRecDepth 100000 in
theorem f_285_32 : fe 285 32 = some (.iinc 4 1, 3, 12, some .int) := fe_of pg_285 rfl
set_option maxRecDepth 100000 in
theorem f_285_35 : fe 285 35 = some (.goto (-30), 3, 12, some .int) := fe_of pg_285 rfl
set_option maxRecDepth 100000 in
theorem f_285_38 : fe 285 38 = some (.iload_n 3, 1, 12, some .int) := fe_of pg_285 rfl
set_option maxRecDepth 100000 in
theorem f_285_39 : fe 285 39 = some (.ireturn, 1, 12, some .int) := fe_of pg_285 rfl
set_option maxRecDepth 100000 in
theorem f_286_0 : fe 286 0 = some (.bipush 24, 2, 12, none) := fe_of pg_286 rfl
set_option maxRecDepth 100000 in
theorem f_286_2 : fe 286 2 = some (.istore_n 1, 1, 12, none) := fe_of pg_286 rfl
set_option maxRecDepth 100000 in
theorem f_286_3 : fe 286 3 = some (.iload_n 1, 1, 12, none) := fe_of pg_286 rfl
set_option maxRecDepth 100000 in
theorem f_286_4 : fe 286 4 = some (.ifCond .lt 130, 3, 12, none) := fe_of pg_286 rfl
set_option maxRecDepth 100000 in
theorem f_286_7 : fe 286 7 = some (.aload_n 0, 1, 12, none) := fe_of pg_286 rfl
set_option maxRecDepth 100000 in
theorem f_286_8 : fe 286 8 = some (.getfield 72, 3, 12, none) := fe_of pg_286 rfl
set_option maxRecDepth 100000 in
theorem f_286_11 : fe 286 11 = some (.iload_n 1, 1, 12, none) := fe_of pg_286 rfl
set_option maxRecDepth 100000 in
theorem f_286_12 : fe 286 12 = some (.iconst 0, 1, 12, none) := fe_of pg_286 rfl
set_option maxRecDepth 100000 in
theorem f_286_13 : fe 286 13 = some (.iastore, 1, 12, none) := fe_of pg_286 rfl
set_option maxRecDepth 100000 in
theorem f_286_14 : fe 286 14 = some (.aload_n 0, 1, 12, none) := fe_of pg_286 rfl
set_option maxRecDepth 100000 in
theorem f_286_15 : fe 286 15 = some (.getfield 75, 3, 12, none) := fe_of pg_286 rfl
set_option maxRecDepth 100000 in
theorem f_286_18 : fe 286 18 = some (.iload_n 1, 1, 12, none) := fe_of pg_286 rfl
set_option maxRecDepth 100000 in
theorem f_286_19 : fe 286 19 = some (.aload_n 0, 1, 12, none) := fe_of pg_286 rfl
set_option maxRecDepth 100000 in
theorem f_286_20 : fe 286 20 = some (.iload_n 1, 1, 12, none) := fe_of pg_286 rfl
set_option maxRecDepth 100000 in
theorem f_286_21 : fe 286 21 = some (.bipush 24, 2, 12, none) := fe_of pg_286 rfl
set_option maxRecDepth 100000 in
theorem f_286_23 : fe 286 23 = some (.invokevirtual 485, 3, 12, none) := fe_of pg_286 rfl
set_option maxRecDepth 100000 in
theorem f_286_26 : fe 286 26 = some (.iastore, 1, 12, none) := fe_of pg_286 rfl
set_option maxRecDepth 100000 in
theorem f_286_27 : fe 286 27 = some (.iload_n 1, 1, 12, none) := fe_of pg_286 rfl
set_option maxRecDepth 100000 in
theorem f_286_28 : fe 286 28 = some (.istore_n 2, 1, 12, none) := fe_of pg_286 rfl
set_option maxRecDepth 100000 in
theorem f_286_29 : fe 286 29 = some (.iload_n 2, 1, 12, none) := fe_of pg_286 rfl
set_option maxRecDepth 100000 in
theorem f_286_30 : fe 286 30 = some (.bipush 24, 2, 12, none) := fe_of pg_286 rfl
set_option maxRecDepth 100000 in
theorem f_286_32 : fe 286 32 = some (.if_icmp .ge 96, 3, 12, none) := fe_of pg_286 rfl
set_option maxRecDepth 100000 in
theorem f_286_35 : fe 286 35 = some (.aload_n 0, 1, 12, none) := fe_of pg_286 rfl
set_option maxRecDepth 100000 in
theorem f_286_36 : fe 286 36 = some (.iload_n 1, 1, 12, none) := fe_of pg_286 rfl
set_option maxRecDepth 100000 in
theorem f_286_37 : fe 286 37 = some (.iload_n 2, 1, 12, none) := fe_of pg_286 rfl
set_option maxRecDepth 100000 in
theorem f_286_38 : fe 286 38 = some (.invokevirtual 464, 3, 12, none) := fe_of pg_286 rfl
set_option maxRecDepth 100000 in
theorem f_286_41 : fe 286 41 = some (.aload_n 0, 1, 12, none) := fe_of pg_286 rfl
set_option maxRecDepth 100000 in
theorem f_286_42 : fe 286 42 = some (.invokevirtual 467, 3, 12, none) := fe_of pg_286 rfl
set_option maxRecDepth 100000 in
theorem f_286_45 : fe 286 45 = some (.if_icmp .lt 77, 3, 12, none) := fe_of pg_286 rfl
set_option maxRecDepth 100000 in
theorem f_286_48 : fe 286 48 = some (.iconst 1, 1, 12, none) := fe_of pg_286 rfl
set_option maxRecDepth 100000 in
theorem f_286_49 : fe 286 49 = some (.aload_n 0, 1, 12, none) := fe_of pg_286 rfl
set_option maxRecDepth 100000 in
theorem f_286_50 : fe 286 50 = some (.getfield 72, 3, 12, none) := fe_of pg_286 rfl
set_option maxRecDepth 100000 in
theorem f_286_53 : fe 286 53 = some (.iload_n 2, 1, 12, none) := fe_of pg_286 rfl
set_option maxRecDepth 100000 in
theorem f_286_54 : fe 286 54 = some (.iconst 1, 1, 12, none) := fe_of pg_286 rfl
set_option maxRecDepth 100000 in
theorem f_286_55 : fe 286 55 = some (.iadd, 1, 12, none) := fe_of pg_286 rfl
set_option maxRecDepth 100000 in
theorem f_286_56 : fe 286 56 = some (.iaload, 1, 12, none) := fe_of pg_286 rfl
set_option maxRecDepth 100000 in
theorem f_286_57 : fe 286 57 = some (.iadd, 1, 12, none) := fe_of pg_286 rfl
set_option maxRecDepth 100000 in
theorem f_286_58 : fe 286 58 = some (.istore_n 3, 1, 12, none) := fe_of pg_286 rfl
set_option maxRecDepth 100000 in
theorem f_286_59 : fe 286 59 = some (.aload_n 0, 1, 12, none) := fe_of pg_286 rfl
set_option maxRecDepth 100000 in
theorem f_286_60 : fe 286 60 = some (.iload_n 1, 1, 12, none) := fe_of pg_286 rfl
set_option maxRecDepth 100000 in
theorem f_286_61 : fe 286 61 = some (.iload_n 2, 1, 12, none) := fe_of pg_286 rfl
set_option maxRecDepth 100000 in
theorem f_286_62 : fe 286 62 = some (.invokevirtual 485, 3, 12, none) := fe_of pg_286 rfl
set_option maxRecDepth 100000 in
theorem f_286_65 : fe 286 65 = some (.aload_n 0, 1, 12, none) := fe_of pg_286 rfl
set_option maxRecDepth 100000 in
theorem f_286_66 : fe 286 66 = some (.getfield 75, 3, 12, none) := fe_of pg_286 rfl
set_option maxRecDepth 100000 in
theorem f_286_69 : fe 286 69 = some (.iload_n 2, 1, 12, none) := fe_of pg_286 rfl
set_option maxRecDepth 100000 in
theorem f_286_70 : fe 286 70 = some (.iconst 1, 1, 12, none) := fe_of pg_286 rfl
set_option maxRecDepth 100000 in
theorem f_286_71 : fe 286 71 = some (.iadd, 1, 12, none) := fe_of pg_286 rfl
set_option maxRecDepth 100000 in
theorem f_286_72 : fe 286 72 = some (.iaload, 1, 12, none) := fe_of pg_286 rfl
set_option maxRecDepth 100000 in
theorem f_286_73 : fe 286 73 = some (.iadd, 1, 12, none) := fe_of pg_286 rfl
set_option maxRecDepth 100000 in
theorem f_286_74 : fe 286 74 = some (.istore 4, 2, 12, none) := fe_of pg_286 rfl
set_option maxRecDepth 100000 in
theorem f_286_76 : fe 286 76 = some (.iload_n 3, 1, 12, none) := fe_of pg_286 rfl
set_option maxRecDepth 100000 in
theorem f_286_77 : fe 286 77 = some (.aload_n 0, 1, 12, none) := fe_of pg_286 rfl
set_option maxRecDepth 100000 in
theorem f_286_78 : fe 286 78 = some (.getfield 72, 3, 12, none) := fe_of pg_286 rfl
set_option maxRecDepth 100000 in
theorem f_286_81 : fe 286 81 = some (.iload_n 1, 1, 12, none) := fe_of pg_286 rfl
set_option maxRecDepth 100000 in
theorem f_286_82 : fe 286 82 = some (.iaload, 1, 12, none) := fe_of pg_286 rfl
set_option maxRecDepth 100000 in
theorem f_286_83 : fe 286 83 = some (.if_icmp .gt 24, 3, 12, none) := fe_of pg_286 rfl
set_option maxRecDepth 100000 in
theorem f_286_86 : fe 286 86 = some (.iload_n 3, 1, 12, none) := fe_of pg_286 rfl
set_option maxRecDepth 100000 in
theorem f_286_87 : fe 286 87 = some (.aload_n 0, 1, 12, none) := fe_of pg_286 rfl
set_option maxRecDepth 100000 in
theorem f_286_88 : fe 286 88 = some (.getfield 72, 3, 12, none) := fe_of pg_286 rfl
set_option maxRecDepth 100000 in
theorem f_286_91 : fe 286 91 = some (.iload_n 1, 1, 12, none) := fe_of pg_286 rfl
set_option maxRecDepth 100000 in
theorem f_286_92 : fe 286 92 = some (.iaload, 1, 12, none) := fe_of pg_286 rfl
set_option maxRecDepth 100000 in
theorem f_286_93 : fe 286 93 = some (.if_icmp .ne 29, 3, 12, none) := fe_of pg_286 rfl
set_option maxRecDepth 100000 in
theorem f_286_96 : fe 286 96 = some (.iload 4, 2, 12, none) := fe_of pg_286 rfl
set_option maxRecDepth 100000 in
theorem f_286_98 : fe 286 98 = some (.aload_n 0, 1, 12, none) := fe_of pg_286 rfl
set_option maxRecDepth 100000 in
theorem f_286_99 : fe 286 99 = some (.getfield 75, 3, 12, none) := fe_of pg_286 rfl
set_option maxRecDepth 100000 in
theorem f_286_102 : fe 286 102 = some (.iload_n 1, 1, 12, none) := fe_of pg_286 rfl
set_option maxRecDepth 100000 in
theorem f_286_103 : fe 286 103 = some (.iaload, 1, 12, none) := fe_of pg_286 rfl
set_option maxRecDepth 100000 in
theorem f_286_104 : fe 286 104 = some (.if_icmp .ge 18, 3, 12, none) := fe_of pg_286 rfl
set_option maxRecDepth 100000 in
theorem f_286_107 : fe 286 107 = some (.aload_n 0, 1, 12, none) := fe_of pg_286 rfl
set_option maxRecDepth 100000 in
theorem f_286_108 : fe 286 108 = some (.getfield 72, 3, 12, none) := fe_of pg_286 rfl
set_option maxRecDepth 100000 in
theorem f_286_111 : fe 286 111 = some (.iload_n 1, 1, 12, none) := fe_of pg_286 rfl
set_option maxRecDepth 100000 in
theorem f_286_112 : fe 286 112 = some (.iload_n 3, 1, 12, none) := fe_of pg_286 rfl
set_option maxRecDepth 100000 in
theorem f_286_113 : fe 286 113 = some (.iastore, 1, 12, none) := fe_of pg_286 rfl
set_option maxRecDepth 100000 in
theorem f_286_114 : fe 286 114 = some (.aload_n 0, 1, 12, none) := fe_of pg_286 rfl
set_option maxRecDepth 100000 in
theorem f_286_115 : fe 286 115 = some (.getfield 75, 3, 12, none) := fe_of pg_286 rfl
set_option maxRecDepth 100000 in
theorem f_286_118 : fe 286 118 = some (.iload_n 1, 1, 12, none) := fe_of pg_286 rfl
set_option maxRecDepth 100000 in
theorem f_286_119 : fe 286 119 = some (.iload 4, 2, 12, none) := fe_of pg_286 rfl
set_option maxRecDepth 100000 in
theorem f_286_121 : fe 286 121 = some (.iastore, 1, 12, none) := fe_of pg_286 rfl
set_option maxRecDepth 100000 in
theorem f_286_122 : fe 286 122 = some (.iinc 2 1, 3, 12, none) := fe_of pg_286 rfl
set_option maxRecDepth 100000 in
theorem f_286_125 : fe 286 125 = some (.goto (-96), 3, 12, none) := fe_of pg_286 rfl
set_option maxRecDepth 100000 in
theorem f_286_128 : fe 286 128 = some (.iinc 1 (-1), 3, 12, none) := fe_of pg_286 rfl
set_option maxRecDepth 100000 in
theorem f_286_131 : fe 286 131 = some (.goto (-128), 3, 12, none) := fe_of pg_286 rfl
set_option maxRecDepth 100000 in
theorem f_286_134 : fe 286 134 = some (.return_, 1, 12, none) := fe_of pg_286 rfl
set_option maxRecDepth 100000 in
theorem f_287_0 : fe 287 0 = some (.iconst 0, 1, 12, some .int) := fe_of pg_287 rfl
set_option maxRecDepth 100000 in
theorem f_287_1 : fe 287 1 = some (.istore_n 2, 1, 12, some .int) := fe_of pg_287 rfl
set_option maxRecDepth 100000 in
theorem f_287_2 : fe 287 2 = some (.iconst (-1), 1, 12, some .int) := fe_of pg_287 rfl
set_option maxRecDepth 100000 in
theorem f_287_3 : fe 287 3 = some (.istore_n 3, 1, 12, some .int) := fe_of pg_287 rfl
set_option maxRecDepth 100000 in
theorem f_287_4 : fe 287 4 = some (.iconst 0, 1, 12, some .int) := fe_of pg_287 rfl
set_option maxRecDepth 100000 in
theorem f_287_5 : fe 287 5 = some (.istore 4, 2, 12, some .int) := fe_of pg_287 rfl
set_option maxRecDepth 100000 in
theorem f_287_7 : fe 287 7 = some (.iload 4, 2, 12, some .int) := fe_of pg_287 rfl
set_option maxRecDepth 100000 in
theorem f_287_9 : fe 287 9 = some (.iload_n 1, 1, 12, some .int) := fe_of pg_287 rfl
set_option maxRecDepth 100000 in
theorem f_287_10 : fe 287 10 = some (.if_icmp .gt 86, 3, 12, some .int) := fe_of pg_287 rfl
set_option maxRecDepth 100000 in
theorem f_287_13 : fe 287 13 = some (.iload_n 2, 1, 12, some .int) := fe_of pg_287 rfl
set_option maxRecDepth 100000 in
theorem f_287_14 : fe 287 14 = some (.istore 5, 2, 12, some .int) := fe_of pg_287 rfl
set_option maxRecDepth 100000 in
theorem f_287_16 : fe 287 16 = some (.aload_n 0, 1, 12, some .int) := fe_of pg_287 rfl
set_option maxRecDepth 100000 in
theorem f_287_17 : fe 287 17 = some (.iload_n 2, 1, 12, some .int) := fe_of pg_287 rfl
set_option maxRecDepth 100000 in
theorem f_287_18 : fe 287 18 = some (.iload 5, 2, 12, some .int) := fe_of pg_287 rfl
set_option maxRecDepth 100000 in
theorem f_287_20 : fe 287 20 = some (.invokevirtual 464, 3, 12, some .int) := fe_of pg_287 rfl
set_option maxRecDepth 100000 in
theorem f_287_23 : fe 287 23 = some (.aload_n 0, 1, 12, some .int) := fe_of pg_287 rfl
set_option maxRecDepth 100000 in
theorem f_287_24 : fe 287 24 = some (.invokevirtual 467, 3, 12, some .int) := fe_of pg_287 rfl
set_option maxRecDepth 100000 in
theorem f_287_27 : fe 287 27 = some (.if_icmp .lt 49, 3, 12, some .int) := fe_of pg_287 rfl
set_option maxRecDepth 100000 in
theorem f_287_30 : fe 287 30 = some (.iconst 1, 1, 12, some .int) := fe_of pg_287 rfl
set_option maxRecDepth 100000 in
theorem f_287_31 : fe 287 31 = some (.aload_n 0, 1, 12, some .int) := fe_of pg_287 rfl
set_option maxRecDepth 100000 in
theorem f_287_32 : fe 287 32 = some (.getfield 72, 3, 12, some .int) := fe_of pg_287 rfl
set_option maxRecDepth 100000 in
theorem f_287_35 : fe 287 35 = some (.iload 5, 2, 12, some .int) := fe_of pg_287 rfl
set_option maxRecDepth 100000 in
theorem f_287_37 : fe 287 37 = some (.iconst 1, 1, 12, some .int) := fe_of pg_287 rfl
set_option maxRecDepth 100000 in
theorem f_287_38 : fe 287 38 = some (.iadd, 1, 12, some .int) := fe_of pg_287 rfl
set_option maxRecDepth 100000 in
theorem f_287_39 : fe 287 39 = some (.iaload, 1, 12, some .int) := fe_of pg_287 rfl
set_option maxRecDepth 100000 in
theorem f_287_40 : fe 287 40 = some (.iadd, 1, 12, some .int) := fe_of pg_287 rfl
set_option maxRecDepth 100000 in
theorem f_287_41 : fe 287 41 = some (.aload_n 0, 1, 12, some .int) := fe_of pg_287 rfl
set_option maxRecDepth 100000 in
theorem f_287_42 : fe 287 42 = some (.getfield 72, 3, 12, some .int) := fe_of pg_287 rfl
set_option maxRecDepth 100000 in
theorem f_287_45 : fe 287 45 = some (.iload_n 2, 1, 12, some .int) := fe_of pg_287 rfl
set_option maxRecDepth 100000 in
theorem f_287_46 : fe 287 46 = some (.iaload, 1, 12, some .int) := fe_of pg_287 rfl
set_option maxRecDepth 100000 in
theorem f_287_47 : fe 287 47 = some (.if_icmp .ne 29, 3, 12, some .int) := fe_of pg_287 rfl
set_option maxRecDepth 100000 in
theorem f_287_50 : fe 287 50 = some (.aload_n 0, 1, 12, some .int) := fe_of pg_287 rfl
set_option maxRecDepth 100000 in
theorem f_287_51 : fe 287 51 = some (.iload_n 2, 1, 12, some .int) := fe_of pg_287 rfl
set_option maxRecDepth 100000 in
theorem f_287_52 : fe 287 52 = some (.iload 5, 2, 12, some .int) := fe_of pg_287 rfl
set_option maxRecDepth 100000 in
theorem f_287_54 : fe 287 54 = some (.invokevirtual 485, 3, 12, some .int) := fe_of pg_287 rfl
set_option maxRecDepth 100000 in
theorem f_287_57 : fe 287 57 = some (.aload_n 0, 1, 12, some .int) := fe_of pg_287 rfl
set_option maxRecDepth 100000 in
theorem f_287_58 : fe 287 58 = some (.getfield 75, 3, 12, some .int) := fe_of pg_287 rfl
set_option maxRecDepth 100000 in
theorem f_287_61 : fe 287 61 = some (.iload 5, 2, 12, some .int) := fe_of pg_287 rfl
set_option maxRecDepth 100000 in
theorem f_287_63 : fe 287 63 = some (.iconst 1, 1, 12, some .int) := fe_of pg_287 rfl
set_option maxRecDepth 100000 in
theorem f_287_64 : fe 287 64 = some (.iadd, 1, 12, some .int) := fe_of pg_287 rfl
set_option maxRecDepth 100000 in
theorem f_287_65 : fe 287 65 = some (.iaload, 1, 12, some .int) := fe_of pg_287 rfl
set_option maxRecDepth 100000 in
theorem f_287_66 : fe 287 66 = some (.iadd, 1, 12, some .int) := fe_of pg_287 rfl
set_option maxRecDepth 100000 in
theorem f_287_67 : fe 287 67 = some (.aload_n 0, 1, 12, some .int) := fe_of pg_287 rfl
set_option maxRecDepth 100000 in
theorem f_287_68 : fe 287 68 = some (.getfield 75, 3, 12, some .int) := fe_of pg_287 rfl
set_option maxRecDepth 100000 in
theorem f_287_71 : fe 287 71 = some (.iload_n 2, 1, 12, some .int) := fe_of pg_287 rfl
set_option maxRecDepth 100000 in
theorem f_287_72 : fe 287 72 = some (.iaload, 1, 12, some .int) := fe_of pg_287 rfl
set_option maxRecDepth 100000 in
theorem f_287_73 : fe 287 73 = some (.if_icmp .eq 9, 3, 12, some .int) := fe_of pg_287 rfl
set_option maxRecDepth 100000 in
theorem f_287_76 : fe 287 76 = some (.iinc 5 1, 3, 12, some .int) := fe_of pg_287 rfl
set_option maxRecDepth 100000 in
theorem f_287_79 : fe 287 79 = some (.goto (-63), 3, 12, some .int) := fe_of pg_287 rfl
set_option maxRecDepth 100000 in
theorem f_287_82 : fe 287 82 = some (.iload 5, 2, 12, some .int) := fe_of pg_287 rfl
set_option maxRecDepth 100000 in
theorem f_287_84 : fe 287 84 = some (.istore_n 3, 1, 12, some .int) := fe_of pg_287 rfl
set_option maxRecDepth 100000 in
theorem f_287_85 : fe 287 85 = some (.iload 5, 2, 12, some .int) := fe_of pg_287 rfl
set_option maxRecDepth 100000 in
theorem f_287_87 : fe 287 87 = some (.iconst 1, 1, 12, some .int) := fe_of pg_287 rfl
set_option maxRecDepth 100000 in
theorem f_287_88 : fe 287 88 = some (.iadd, 1, 12, some .int) := fe_of pg_287 rfl
set_option maxRecDepth 100000 in
theorem f_287_89 : fe 287 89 = some (.istore_n 2, 1, 12, some .int) := fe_of pg_287 rfl
set_option maxRecDepth 100000 in
theorem f_287_90 : fe 287 90 = some (.iinc 4 1, 3, 12, some .int) := fe_of pg_287 rfl
set_option maxRecDepth 100000 in
theorem f_287_93 : fe 287 93 = some (.goto (-86), 3, 12, some .int) := fe_of pg_287 rfl
set_option maxRecDepth 100000 in
theorem f_287_96 : fe 287 96 = some (.iload_n 3, 1, 12, some .int) := fe_of pg_287 rfl
set_option maxRecDepth 100000 in
theorem f_287_97 : fe 287 97 = some (.ireturn, 1, 12, some .int) := fe_of pg_287 rfl
set_option maxRecDepth 100000 in
theorem f_288_0 : fe 288 0 = some (.aload_n 0, 1, 12, some .int) := fe_of pg_288 rfl
set_option maxRecDepth 100000 in
theorem f_288_1 : fe 288 1 = some (.iconst 0, 1, 12, some .int) := fe_of pg_288 rfl
set_option maxRecDepth 100000 in
theorem f_288_2 : fe 288 2 = some (.putfield 109, 3, 12, some .int) := fe_of pg_288 rfl
set_option maxRecDepth 100000 in
theorem f_288_5 : fe 288 5 = some (.aload_n 0, 1, 12, some .int) := fe_of pg_288 rfl
set_option maxRecDepth 100000 in
theorem f_288_6 : fe 288 6 = some (.iload_n 1, 1, 12, some .int) := fe_of pg_288 rfl
set_option maxRecDepth 100000 in
theorem f_288_7 : fe 288 7 = some (.invokevirtual 470, 3, 12, some .int) := fe_of pg_288 rfl
set_option maxRecDepth 100000 in
theorem f_288_10 : fe 288 10 = some (.ifCond .ne 5, 3, 12, some .int) := fe_of pg_288 rfl
set_option maxRecDepth 100000 in
theorem f_288_13 : fe 288 13 = some (.iconst (-1), 1, 12, some .int) := fe_of pg_288 rfl
set_option maxRecDepth 100000 in
theorem f_288_14 : fe 288 14 = some (.ireturn, 1, 12, some .int) := fe_of pg_288 rfl
set_option maxRecDepth 100000 in
theorem f_288_15 : fe 288 15 = some (.aload_n 0, 1, 12, some .int) := fe_of pg_288 rfl
set_option maxRecDepth 100000 in
theorem f_288_16 : fe 288 16 = some (.invokevirtual 488, 3, 12, some .int) := fe_of pg_288 rfl
set_option maxRecDepth 100000 in
theorem f_288_19 : fe 288 19 = some (.iload_n 2, 1, 12, some .int) := fe_of pg_288 rfl
set_option maxRecDepth 100000 in
theorem f_288_20 : fe 288 20 = some (.ifCond .ne 12, 3, 12, some .int) := fe_of pg_288 rfl
set_option maxRecDepth 100000 in
theorem f_288_23 : fe 288 23 = some (.aload_n 0, 1, 12, some .int) := fe_of pg_288 rfl
set_option maxRecDepth 100000 in
theorem f_288_24 : fe 288 24 = some (.getfield 72, 3, 12, some .int) := fe_of pg_288 rfl
set_option maxRecDepth 100000 in
theorem f_288_27 : fe 288 27 = some (.iconst 0, 1, 12, some .int) := fe_of pg_288 rfl
set_option maxRecDepth 100000 in
theorem f_288_28 : fe 288 28 = some (.iaload, 1, 12, some .int) := fe_of pg_288 rfl
set_option maxRecDepth 100000 in
theorem f_288_29 : fe 288 29 = some (.goto 47, 3, 12, some .int) := fe_of pg_288 rfl
set_option maxRecDepth 100000 in
theorem f_288_32 : fe 288 32 = some (.iload_n 2, 1, 12, some .int) := fe_of pg_288 rfl
set_option maxRecDepth 100000 in
theorem f_288_33 : fe 288 33 = some (.iconst 1, 1, 12, some .int) := fe_of pg_288 rfl
set_option maxRecDepth 100000 in
theorem f_288_34 : fe 288 34 = some (.if_icmp .ne 12, 3, 12, some .int) := fe_of pg_288 rfl
set_option maxRecDepth 100000 in
theorem f_288_37 : fe 288 37 = some (.aload_n 0, 1, 12, some .int) := fe_of pg_288 rfl
set_option maxRecDepth 100000 in
theorem f_288_38 : fe 288 38 = some (.getfield 75, 3, 12, some .int) := fe_of pg_288 rfl
set_option maxRecDepth 100000 in
theorem f_288_41 : fe 288 41 = some (.iconst 0, 1, 12, some .int) := fe_of pg_288 rfl
set_option maxRecDepth 100000 in
theorem f_288_42 : fe 288 42 = some (.iaload, 1, 12, some .int) := fe_of pg_288 rfl
set_option maxRecDepth 100000 in
theorem f_288_43 : fe 288 43 = some (.goto 33, 3, 12, some .int) := fe_of pg_288 rfl
set_option maxRecDepth 100000 in
theorem f_288_46 : fe 288 46 = some (.iload_n 2, 1, 12, some .int) := fe_of pg_288 rfl
set_option maxRecDepth 100000 in
theorem f_288_47 : fe 288 47 = some (.bipush 10, 2, 12, some .int) := fe_of pg_288 rfl
set_option maxRecDepth 100000 in
theorem f_288_49 : fe 288 49 = some (.bipush 9, 2, 12, some .int) := fe_of pg_288 rfl
set_option maxRecDepth 100000 in
theorem f_288_51 : fe 288 51 = some (.aload_n 0, 1, 12, some .int) := fe_of pg_288 rfl
set_option maxRecDepth 100000 in
theorem f_288_52 : fe 288 52 = some (.getfield 72, 3, 12, some .int) := fe_of pg_288 rfl
set_option maxRecDepth 100000 in
theorem f_288_55 : fe 288 55 = some (.iconst 0, 1, 12, some .int) := fe_of pg_288 rfl
set_option maxRecDepth 100000 in
theorem f_288_56 : fe 288 56 = some (.iaload, 1, 12, some .int) := fe_of pg_288 rfl
set_option maxRecDepth 100000 in
theorem f_288_57 : fe 288 57 = some (.iadd, 1, 12, some .int) := fe_of pg_288 rfl
set_option maxRecDepth 100000 in
theorem f_288_58 : fe 288 58 = some (.invokestatic 121, 3, 12, some .int) := fe_of pg_288 rfl
set_option maxRecDepth 100000 in
theorem f_288_61 : fe 288 61 = some (.ifCond .eq 14, 3, 12, some .int) := fe_of pg_288 rfl
set_option maxRecDepth 100000 in
theorem f_288_64 : fe 288 64 = some (.aload_n 0, 1, 12, some .int) := fe_of pg_288 rfl
set_option maxRecDepth 100000 in
theorem f_288_65 : fe 288 65 = some (.iload_n 2, 1, 12, some .int) := fe_of pg_288 rfl
set_option maxRecDepth 100000 in
theorem f_288_66 : fe 288 66 = some (.bipush 10, 2, 12, some .int) := fe_of pg_288 rfl
set_option maxRecDepth 100000 in
theorem f_288_68 : fe 288 68 = some (.isub, 1, 12, some .int) := fe_of pg_288 rfl
set_option maxRecDepth 100000 in
theorem f_288_69 : fe 288 69 = some (.invokevirtual 491, 3, 12, some .int) := fe_of pg_288 rfl
set_option maxRecDepth 100000 in
theorem f_288_72 : fe 288 72 = some (.goto 4, 3, 12, some .int) := fe_of pg_288 rfl
set_option maxRecDepth 100000 in
theorem f_288_75 : fe 288 75 = some (.iconst (-1), 1, 12, some .int) := fe_of pg_288 rfl
set_option maxRecDepth 100000 in
theorem f_288_76 : fe 288 76 = some (.ireturn, 1, 12, some .int) := fe_of pg_288 rfl
set_option maxRecDepth 100000 in
theorem f_289_0 : fe 289 0 = some (.aload_n 0, 1, 12, some .int) := fe_of pg_289 rfl
set_option maxRecDepth 100000 in
theorem f_289_1 : fe 289 1 = some (.getfield 35, 3, 12, some .int) := fe_of pg_289 rfl
set_option maxRecDepth 100000 in
theorem f_289_4 : fe 289 4 = some (.bipush 32, 2, 12, some .int) := fe_of pg_289 rfl
set_option maxRecDepth 100000 in
theorem f_289_6 : fe 289 6 = some (.aload_n 0, 1, 12, some .int) := fe_of pg_289 rfl
set_option maxRecDepth 100000 in
theorem f_289_7 : fe 289 7 = some (.getfield 494, 3, 12, some .int) := fe_of pg_289 rfl
set_option maxRecDepth 100000 in
theorem f_289_10 : fe 289 10 = some (.imul, 1, 12, some .int) := fe_of pg_289 rfl
set_option maxRecDepth 100000 in
theorem f_289_11 : fe 289 11 = some (.iaload, 1, 12, some .int) := fe_of pg_289 rfl
set_option maxRecDepth 100000 in
theorem f_289_12 : fe 289 12 = some (.ireturn, 1, 12, some .int) := fe_of pg_289 rfl
set_option maxRecDepth 100000 in
theorem f_290_0 : fe 290 0 = some (.aload_n 0, 1, 12, some .int) := fe_of pg_290 rfl
set_option maxRecDepth 100000 in
theorem f_290_1 : fe 290 1 = some (.getfield 35, 3, 12, some .int) := fe_of pg_290 rfl
set_option maxRecDepth 100000 in
theorem f_290_4 : fe 290 4 = some (.bipush 32, 2, 12, some .int) := fe_of pg_290 rfl
set_option maxRecDepth 100000 in
theorem f_290_6 : fe 290 6 = some (.aload_n 0, 1, 12, some .int) := fe_of pg_290 rfl
set_option maxRecDepth 100000 in
theorem f_290_7 : fe 290 7 = some (.getfield 494, 3, 12, some .int) := fe_of pg_290 rfl
set_option maxRecDepth 100000 in
theorem f_290_10 : fe 290 10 = some (.imul, 1, 12, some .int) := fe_of pg_290 rfl
set_option maxRecDepth 100000 in
theorem f_290_11 : fe 290 11 = some (.iconst 1, 1, 12, some .int) := fe_of pg_290 rfl
set_option maxRecDepth 100000 in
theorem f_290_12 : fe 290 12 = some (.iadd, 1, 12, some .int) := fe_of pg_290 rfl
set_option maxRecDepth 100000 in
theorem f_290_13 : fe 290 13 = some (.iaload, 1, 12, some .int) := fe_of pg_290 rfl
set_option maxRecDepth 100000 in
theorem f_290_14 : fe 290 14 = some (.ireturn, 1, 12, some .int) := fe_of pg_290 rfl
set_option maxRecDepth 100000 in
theorem f_291_0 : fe 291 0 = some (.aload_n 0, 1, 12, some .int) := fe_of pg_291 rfl
set_option maxRecDepth 100000 in
theorem f_291_1 : fe 291 1 = some (.getfield 35, 3, 12, some .int) := fe_of pg_291 rfl
set_option maxRecDepth 100000 in
theorem f_291_4 : fe 291 4 = some (.bipush 32, 2, 12, some .int) := fe_of pg_291 rfl
set_option maxRecDepth 100000 in
theorem f_291_6 : fe 291 6 = some (.aload_n 0, 1, 12, some .int) := fe_of pg_291 rfl
set_option maxRecDepth 100000 in
theorem f_291_7 : fe 291 7 = some (.getfield 494, 3, 12, some .int) := fe_of pg_291 rfl
set_option maxRecDepth 100000 in
theorem f_291_10 : fe 291 10 = some (.imul, 1, 12, some .int) := fe_of pg_291 rfl
set_option maxRecDepth 100000 in
theorem f_291_11 : fe 291 11 = some (.iconst 2, 1, 12, some .int) := fe_of pg_291 rfl
set_option maxRecDepth 100000 in
theorem f_291_12 : fe 291 12 = some (.iadd, 1, 12, some .int) := fe_of pg_291 rfl
set_option maxRecDepth 100000 in
theorem f_291_13 : fe 291 13 = some (.iconst 3, 1, 12, some .int) := fe_of pg_291 rfl
set_option maxRecDepth 100000 in
theorem f_291_14 : fe 291 14 = some (.iload_n 1, 1, 12, some .int) := fe_of pg_291 rfl
set_option maxRecDepth 100000 in
theorem f_291_15 : fe 291 15 = some (.imul, 1, 12, some .int) := fe_of pg_291 rfl
set_option maxRecDepth 100000 in
theorem f_291_16 : fe 291 16 = some (.iadd, 1, 12, some .int) := fe_of pg_291 rfl
set_option maxRecDepth 100000 in
theorem f_291_17 : fe 291 17 = some (.iload_n 2, 1, 12, some .int) := fe_of pg_291 rfl
set_option maxRecDepth 100000 in
theorem f_291_18 : fe 291 18 = some (.iadd, 1, 12, some .int) := fe_of pg_291 rfl
set_option maxRecDepth 100000 in
theorem f_291_19 : fe 291 19 = some (.iaload, 1, 12, some .int) := fe_of pg_291 rfl
set_option maxRecDepth 100000 in
theorem f_291_20 : fe 291 20 = some (.ireturn, 1, 12, some .int) := fe_of pg_291 rfl
set_option maxRecDepth 100000 in
theorem f_292_0 : fe 292 0 = some (.aload_n 0, 1, 12, some .boolean) := fe_of pg_292 rfl
set_option maxRecDepth 100000 in
theorem f_292_1 : fe 292 1 = some (.iload_n 1, 1, 12, some .boolean) := fe_of pg_292 rfl
set_option maxRecDepth 100000 in
theorem f_292_2 : fe 292 2 = some (.putfield 494, 3, 12, some .boolean) := fe_of pg_292 rfl
set_option maxRecDepth 100000 in
theorem f_292_5 : fe 292 5 = some (.aload_n 0, 1, 12, some .boolean) := fe_of pg_292 rfl
set_option maxRecDepth 100000 in
theorem f_292_6 : fe 292 6 = some (.iconst 3, 1, 12, some .boolean) := fe_of pg_292 rfl
set_option maxRecDepth 100000 in
theorem f_292_7 : fe 292 7 = some (.iload_n 1, 1, 12, some .boolean) := fe_of pg_292 rfl
set_option maxRecDepth 100000 in
theorem f_292_8 : fe 292 8 = some (.invokevirtual 281, 3, 12, some .boolean) := fe_of pg_292 rfl
set_option maxRecDepth 100000 in
theorem f_292_11 : fe 292 11 = some (.ireturn, 1, 12, some .boolean) := fe_of pg_292 rfl
set_option maxRecDepth 100000 in
theorem f_293_0 : fe 293 0 = some (.aload_n 0, 1, 12, some .int) := fe_of pg_293 rfl
set_option maxRecDepth 100000 in
theorem f_293_1 : fe 293 1 = some (.iconst 0, 1, 12, some .int) := fe_of pg_293 rfl
set_option maxRecDepth 100000 in
theorem f_293_2 : fe 293 2 = some (.putfield 109, 3, 12, some .int) := fe_of pg_293 rfl
set_option maxRecDepth 100000 in
theorem f_293_5 : fe 293 5 = some (.aload_n 0, 1, 12, some .int) := fe_of pg_293 rfl
set_option maxRecDepth 100000 in
theorem f_293_6 : fe 293 6 = some (.iload_n 1, 1, 12, some .int) := fe_of pg_293 rfl
set_option maxRecDepth 100000 in
theorem f_293_7 : fe 293 7 = some (.invokevirtual 497, 3, 12, some .int) := fe_of pg_293 rfl
set_option maxRecDepth 100000 in
theorem f_293_10 : fe 293 10 = some (.ifCond .ne 6, 3, 12, some .int) := fe_of pg_293 rfl
set_option maxRecDepth 100000 in
theorem f_293_13 : fe 293 13 = some (.bipush (-2), 2, 12, some .int) := fe_of pg_293 rfl
set_option maxRecDepth 100000 in
theorem f_293_15 : fe 293 15 = some (.ireturn, 1, 12, some .int) := fe_of pg_293 rfl
set_option maxRecDepth 100000 in
theorem f_293_16 : fe 293 16 = some (.iload_n 2, 1, 12, some .int) := fe_of pg_293 rfl
set_option maxRecDepth 100000 in
theorem f_293_17 : fe 293 17 = some (.iconst (-1), 1, 12, some .int) := fe_of pg_293 rfl
set_option maxRecDepth 100000 in
theorem f_293_18 : fe 293 18 = some (.if_icmp .ne 29, 3, 12, some .int) := fe_of pg_293 rfl
set_option maxRecDepth 100000 in
theorem f_293_21 : fe 293 21 = some (.iload_n 3, 1, 12, some .int) := fe_of pg_293 rfl
set_option maxRecDepth 100000 in
theorem f_293_22 : fe 293 22 = some (.ifCond .ne 10, 3, 12, some .int) := fe_of pg_293 rfl
set_option maxRecDepth 100000 in
theorem f_293_25 : fe 293 25 = some (.aload_n 0, 1, 12, some .int) := fe_of pg_293 rfl
set_option maxRecDepth 100000 in
theorem f_293_26 : fe 293 26 = some (.invokevirtual 500, 3, 12, some .int) := fe_of pg_293 rfl
set_option maxRecDepth 100000 in
theorem f_293_29 : fe 293 29 = some (.goto 17, 3, 12, some .int) := fe_of pg_293 rfl
set_option maxRecDepth 100000 in
theorem f_293_32 : fe 293 32 = some (.iload_n 3, 1, 12, some .int) := fe_of pg_293 rfl
set_option maxRecDepth 100000 in
theorem f_293_33 : fe 293 33 = some (.iconst 1, 1, 12, some .int) := fe_of pg_293 rfl
set_option maxRecDepth 100000 in
theorem f_293_34 : fe 293 34 = some (.if_icmp .ne 10, 3, 12, some .int) := fe_of pg_293 rfl
set_option maxRecDepth 100000 in
theorem f_293_37 : fe 293 37 = some (.aload_n 0, 1, 12, some .int) := fe_of pg_293 rfl
set_option maxRecDepth 100000 in
theorem f_293_38 : fe 293 38 = some (.invokevirtual 503, 3, 12, some .int) := fe_of pg_293 rfl
set_option maxRecDepth 100000 in
theorem f_293_41 : fe 293 41 = some (.goto 5, 3, 12, some .int) := fe_of pg_293 rfl
set_option maxRecDepth 100000 in
theorem f_293_44 : fe 293 44 = some (.bipush (-2), 2, 12, some .int) := fe_of pg_293 rfl
set_option maxRecDepth 100000 in
theorem f_293_46 : fe 293 46 = some (.ireturn, 1, 12, some .int) := fe_of pg_293 rfl
set_option maxRecDepth 100000 in
theorem f_293_47 : fe 293 47 = some (.iload_n 2, 1, 12, some .int) := fe_of pg_293 rfl
set_option maxRecDepth 100000 in
theorem f_293_48 : fe 293 48 = some (.iconst 0, 1, 12, some .int) := fe_of pg_293 rfl
set_option maxRecDepth 100000 in
theorem f_293_49 : fe 293 49 = some (.aload_n 0, 1, 12, some .int) := fe_of pg_293 rfl
set_option maxRecDepth 100000 in
theorem f_293_50 : fe 293 50 = some (.invokevirtual 503, 3, 12, some .int) := fe_of pg_293 rfl
set_option maxRecDepth 100000 in
theorem f_293_53 : fe 293 53 = some (.iconst 1, 1, 12, some .int) := fe_of pg_293 rfl
set_option maxRecDepth 100000 in
theorem f_293_54 : fe 293 54 = some (.isub, 1, 12, some .int) := fe_of pg_293 rfl
set_option maxRecDepth 100000 in
theorem f_293_55 : fe 293 55 = some (.invokestatic 121, 3, 12, some .int) := fe_of pg_293 rfl
set_option maxRecDepth 100000 in
theorem f_293_58 : fe 293 58 = some (.ifCond .eq 21, 3, 12, some .int) := fe_of pg_293 rfl
set_option maxRecDepth 100000 in
theorem f_293_61 : fe 293 61 = some (.iload_n 3, 1, 12, some .int) := fe_of pg_293 rfl
set_option maxRecDepth 100000 in
theorem f_293_62 : fe 293 62 = some (.iconst 0, 1, 12, some .int) := fe_of pg_293 rfl
set_option maxRecDepth 100000 in
theorem f_293_63 : fe 293 63 = some (.iconst 2, 1, 12, some .int) := fe_of pg_293 rfl
set_option maxRecDepth 100000 in
theorem f_293_64 : fe 293 64 = some (.invokestatic 121, 3, 12, some .int) := fe_of pg_293 rfl
set_option maxRecDepth 100000 in
theorem f_293_67 : fe 293 67 = some (.ifCond .eq 12, 3, 12, some .int) := fe_of pg_293 rfl
set_option maxRecDepth 100000 in
theorem f_293_70 : fe 293 70 = some (.aload_n 0, 1, 12, some .int) := fe_of pg_293 rfl
set_option maxRecDepth 100000 in
theorem f_293_71 : fe 293 71 = some (.iload_n 2, 1, 12, some .int) := fe_of pg_293 rfl
set_option maxRecDepth 100000 in
theorem f_293_72 : fe 293 72 = some (.iload_n 3, 1, 12, some .int) := fe_of pg_293 rfl
set_option maxRecDepth 100000 in
theorem f_293_73 : fe 293 73 = some (.invokevirtual 506, 3, 12, some .int) := fe_of pg_293 rfl
set_option maxRecDepth 100000 in
theorem f_293_76 : fe 293 76 = some (.goto 5, 3, 12, some .int) := fe_of pg_293 rfl
set_option maxRecDepth 100000 in
theorem f_293_79 : fe 293 79 = some (.bipush (-2), 2, 12, some .int) := fe_of pg_293 rfl
set_option maxRecDepth 100000 in
theorem f_293_81 : fe 293 81 = some (.ireturn, 1, 12, some .int) := fe_of pg_293 rfl
set_option maxRecDepth 100000 in
theorem f_294_0 : fe 294 0 = some (.iload_n 1, 1, 12, none) := fe_of pg_294 rfl
set_option maxRecDepth 100000 in
theorem f_294_1 : fe 294 1 = some (.istore_n 2, 1, 12, none) := fe_of pg_294 rfl
set_option maxRecDepth 100000 in
theorem f_294_2 : fe 294 2 = some (.iconst 0, 1, 12, none) := fe_of pg_294 rfl
set_option maxRecDepth 100000 in
theorem f_294_3 : fe 294 3 = some (.istore_n 3, 1, 12, none) := fe_of pg_294 rfl
set_option maxRecDepth 100000 in
theorem f_294_4 : fe 294 4 = some (.iload_n 3, 1, 12, none) := fe_of pg_294 rfl
set_option maxRecDepth 100000 in
theorem f_294_5 : fe 294 5 = some (.iconst 4, 1, 12, none) := fe_of pg_294 rfl
set_option maxRecDepth 100000 in
theorem f_294_6 : fe 294 6 = some (.if_icmp .ge 24, 3, 12, none) := fe_of pg_294 rfl
set_option maxRecDepth 100000 in
theorem f_294_9 : fe 294 9 = some (.aload_n 0, 1, 12, none) := fe_of pg_294 rfl
set_option maxRecDepth 100000 in
theorem f_294_10 : fe 294 10 = some (.getfield 78, 3, 12, none) := fe_of pg_294 rfl
set_option maxRecDepth 100000 in
theorem f_294_13 : fe 294 13 = some (.iload_n 3, 1, 12, none) := fe_of pg_294 rfl
set_option maxRecDepth 100000 in
theorem f_294_14 : fe 294 14 = some (.iload_n 2, 1, 12, none) := fe_of pg_294 rfl
set_option maxRecDepth 100000 in
theorem f_294_15 : fe 294 15 = some (.bipush 10, 2, 12, none) := fe_of pg_294 rfl
set_option maxRecDepth 100000 in
theorem f_294_17 : fe 294 17 = some (.irem, 1, 12, none) := fe_of pg_294 rfl
set_option maxRecDepth 100000 in
theorem f_294_18 : fe 294 18 = some (.iastore, 1, 12, none) := fe_of pg_294 rfl
set_option maxRecDepth 100000 in
theorem f_294_19 : fe 294 19 = some (.iload_n 2, 1, 12, none) := fe_of pg_294 rfl
set_option maxRecDepth 100000 in
theorem f_294_20 : fe 294 20 = some (.bipush 10, 2, 12, none) := fe_of pg_294 rfl
set_option maxRecDepth 100000 in
theorem f_294_22 : fe 294 22 = some (.idiv, 1, 12, none) := fe_of pg_294 rfl
set_option maxRecDepth 100000 in
theorem f_294_23 : fe 294 23 = some (.istore_n 2, 1, 12, none) := fe_of pg_294 rfl
set_option maxRecDepth 100000 in
theorem f_294_24 : fe 294 24 = some (.iinc 3 1, 3, 12, none) := fe_of pg_294 rfl
set_option maxRecDepth 100000 in
theorem f_294_27 : fe 294 27 = some (.goto (-23), 3, 12, none) := fe_of pg_294 rfl
set_option maxRecDepth 100000 in
theorem f_294_30 : fe 294 30 = some (.return_, 1, 12, none) := fe_of pg_294 rfl
set_option maxRecDepth 100000 in
theorem f_295_0 : fe 295 0 = some (.iconst 0, 1, 12, some .int) := fe_of pg_295 rfl
set_option maxRecDepth 100000 in
theorem f_295_1 : fe 295 1 = some (.istore_n 2, 1, 12, some .int) := fe_of pg_295 rfl
set_option maxRecDepth 100000 in
theorem f_295_2 : fe 295 2 = some (.iconst 0, 1, 12, some .int) := fe_of pg_295 rfl
set_option maxRecDepth 100000 in
theorem f_295_3 : fe 295 3 = some (.istore_n 3, 1, 12, some .int) := fe_of pg_295 rfl
set_option maxRecDepth 100000 in
theorem f_295_4 : fe 295 4 = some (.iload_n 3, 1, 12, some .int) := fe_of pg_295 rfl
set_option maxRecDepth 100000 in
theorem f_295_5 : fe 295 5 = some (.iconst 4, 1, 12, some .int) := fe_of pg_295 rfl
set_option maxRecDepth 100000 in
theorem f_295_6 : fe 295 6 = some (.if_icmp .ge 30, 3, 12, some .int) := fe_of pg_295 rfl
set_option maxRecDepth 100000 in
theorem f_295_9 : fe 295 9 = some (.iload_n 2, 1, 12, some .int) := fe_of pg_295 rfl
set_option maxRecDepth 100000 in
theorem f_295_10 : fe 295 10 = some (.iload_n 1, 1, 12, some .int) := fe_of pg_295 rfl
set_option maxRecDepth 100000 in
theorem f_295_11 : fe 295 11 = some (.iload_n 3, 1, 12, some .int) := fe_of pg_295 rfl
set_option maxRecDepth 100000 in
theorem f_295_12 : fe 295 12 = some (.invokestatic 113, 3, 12, some .int) := fe_of pg_295 rfl
set_option maxRecDepth 100000 in
theorem f_295_15 : fe 295 15 = some (.ifCond .eq 12, 3, 12, some .int) := fe_of pg_295 rfl
set_option maxRecDepth 100000 in
theorem f_295_18 : fe 295 18 = some (.aload_n 0, 1, 12, some .int) := fe_of pg_295 rfl
set_option maxRecDepth 100000 in
theorem f_295_19 : fe 295 19 = some (.getfield 78, 3, 12, some .int) := fe_of pg_295 rfl
set_option maxRecDepth 100000 in
theorem f_295_22 : fe 295 22 = some (.iload_n 3, 1, 12, some .int) := fe_of pg_295 rfl
set_option maxRecDepth 100000 in
theorem f_295_23 : fe 295 23 = some (.iaload, 1, 12, some .int) := fe_of pg_295 rfl
set_option maxRecDepth 100000 in
theorem f_295_24 : fe 295 24 = some (.goto 4, 3, 12, some .int) := fe_of pg_295 rfl
set_option maxRecDepth 100000 in
theorem f_295_27 : fe 295 27 = some (.iconst 0, 1, 12, some .int) := fe_of pg_295 rfl
set_option maxRecDepth 100000 in
theorem f_295_28 : fe 295 28 = some (.iadd, 1, 12, some .int) := fe_of pg_295 rfl
set_option maxRecDepth 100000 in
theorem f_295_29 : fe 295 29 = some (.istore_n 2, 1, 12, some .int) := fe_of pg_295 rfl
set_option maxRecDepth 100000 in
theorem f_295_30 : fe 295 30 = some (.iinc 3 1, 3, 12, some .int) := fe_of pg_295 rfl
set_option maxRecDepth 100000 in
theorem f_295_33 : fe 295 33 = some (.goto (-29), 3, 12, some .int) := fe_of pg_295 rfl
set_option maxRecDepth 100000 in
theorem f_295_36 : fe 295 36 = some (.iload_n 2, 1, 12, some .int) := fe_of pg_295 rfl
set_option maxRecDepth 100000 in
theorem f_295_37 : fe 295 37 = some (.ireturn, 1, 12, some .int) := fe_of pg_295 rfl
set_option maxRecDepth 100000 in
theorem f_296_0 : fe 296 0 = some (.iconst 0, 1, 12, some .boolean) := fe_of pg_296 rfl
set_option maxRecDepth 100000 in
theorem f_296_1 : fe 296 1 = some (.istore_n 1, 1, 12, some .boolean) := fe_of pg_296 rfl
set_option maxRecDepth 100000 in
theorem f_296_2 : fe 296 2 = some (.iload_n 1, 1, 12, some .boolean) := fe_of pg_296 rfl
set_option maxRecDepth 100000 in
theorem f_296_3 : fe 296 3 = some (.aload_n 0, 1, 12, some .boolean) := fe_of pg_296 rfl
set_option maxRecDepth 100000 in
theorem f_296_4 : fe 296 4 = some (.invokevirtual 503, 3, 12, some .boolean) := fe_of pg_296 rfl
set_option maxRecDepth 100000 in
theorem f_296_7 : fe 296 7 = some (.if_icmp .ge 53, 3, 12, some .boolean) := fe_of pg_296 rfl
set_option maxRecDepth 100000 in
theorem f_296_10 : fe 296 10 = some (.aload_n 0, 1, 12, some .boolean) := fe_of pg_296 rfl
set_option maxRecDepth 100000 in
theorem f_296_11 : fe 296 11 = some (.aload_n 0, 1, 12, some .boolean) := fe_of pg_296 rfl
set_option maxRecDepth 100000 in
theorem f_296_12 : fe 296 12 = some (.iload_n 1, 1, 12, some .boolean) := fe_of pg_296 rfl
set_option maxRecDepth 100000 in
theorem f_296_13 : fe 296 13 = some (.iconst 1, 1, 12, some .boolean) := fe_of pg_296 rfl
set_option maxRecDepth 100000 in
theorem f_296_14 : fe 296 14 = some (.invokevirtual 506, 3, 12, some .boolean) := fe_of pg_296 rfl
set_option maxRecDepth 100000 in
theorem f_296_17 : fe 296 17 = some (.invokevirtual 509, 3, 12, some .boolean) := fe_of pg_296 rfl
set_option maxRecDepth 100000 in
theorem f_296_20 : fe 296 20 = some (.aload_n 0, 1, 12, some .boolean) := fe_of pg_296 rfl
set_option maxRecDepth 100000 in
theorem f_296_21 : fe 296 21 = some (.iload_n 1, 1, 12, some .boolean) := fe_of pg_296 rfl
set_option maxRecDepth 100000 in
theorem f_296_22 : fe 296 22 = some (.iconst 2, 1, 12, some .boolean) := fe_of pg_296 rfl
set_option maxRecDepth 100000 in
theorem f_296_23 : fe 296 23 = some (.invokevirtual 506, 3, 12, some .boolean) := fe_of pg_296 rfl
set_option maxRecDepth 100000 in
theorem f_296_26 : fe 296 26 = some (.if_icmp .lt 7, 3, 12, some .boolean) := fe_of pg_296 rfl
set_option maxRecDepth 100000 in
theorem f_296_29 : fe 296 29 = some (.iconst 1, 1, 12, some .boolean) := fe_of pg_296 rfl
set_option maxRecDepth 100000 in
theorem f_296_30 : fe 296 30 = some (.goto 4, 3, 12, some .boolean) := fe_of pg_296 rfl
set_option maxRecDepth 100000 in
theorem f_296_33 : fe 296 33 = some (.iconst 0, 1, 12, some .boolean) := fe_of pg_296 rfl
set_option maxRecDepth 100000 in
theorem f_296_34 : fe 296 34 = some (.aload_n 0, 1, 12, some .boolean) := fe_of pg_296 rfl
set_option maxRecDepth 100000 in
theorem f_296_35 : fe 296 35 = some (.iload_n 1, 1, 12, some .boolean) := fe_of pg_296 rfl
set_option maxRecDepth 100000 in
theorem f_296_36 : fe 296 36 = some (.iconst 0, 1, 12, some .boolean) := fe_of pg_296 rfl
set_option maxRecDepth 100000 in
theorem f_296_37 : fe 296 37 = some (.invokevirtual 506, 3, 12, some .boolean) := fe_of pg_296 rfl
set_option maxRecDepth 100000 in
theorem f_296_40 : fe 296 40 = some (.iconst 1, 1, 12, some .boolean) := fe_of pg_296 rfl
set_option maxRecDepth 100000 in
theorem f_296_41 : fe 296 41 = some (.if_icmp .ne 7, 3, 12, some .boolean) := fe_of pg_296 rfl
set_option maxRecDepth 100000 in
theorem f_296_44 : fe 296 44 = some (.iconst 1, 1, 12, some .boolean) := fe_of pg_296 rfl
set_option maxRecDepth 100000 in
theorem f_296_45 : fe 296 45 = some (.goto 4, 3, 12, some .boolean) := fe_of pg_296 rfl
set_option maxRecDepth 100000 in
theorem f_296_48 : fe 296 48 = some (.iconst 0, 1, 12, some .boolean) := fe_of pg_296 rfl
set_option maxRecDepth 100000 in
theorem f_296_49 : fe 296 49 = some (.if_icmp .eq 5, 3, 12, some .boolean) := fe_of pg_296 rfl
set_option maxRecDepth 100000 in
theorem f_296_52 : fe 296 52 = some (.iconst 0, 1, 12, some .boolean) := fe_of pg_296 rfl
set_option maxRecDepth 100000 in
theorem f_296_53 : fe 296 53 = some (.ireturn, 1, 12, some .boolean) := fe_of pg_296 rfl
set_option maxRecDepth 100000 in
theorem f_296_54 : fe 296 54 = some (.iinc 1 1, 3, 12, some .boolean) := fe_of pg_296 rfl
set_option maxRecDepth 100000 in
theorem f_296_57 : fe 296 57 = some (.goto (-55), 3, 12, some .boolean) := fe_of pg_296 rfl
set_option maxRecDepth 100000 in
theorem f_296_60 : fe 296 60 = some (.iconst 1, 1, 12, some .boolean) := fe_of pg_296 rfl
set_option maxRecDepth 100000 in
theorem f_296_61 : fe 296 61 = some (.ireturn, 1, 12, some .boolean) := fe_of pg_296 rfl
set_option maxRecDepth 100000 in
theorem f_297_0 : fe 297 0 = some (.aload_n 0, 1, 12, none) := fe_of pg_297 rfl
set_option maxRecDepth 100000 in
theorem f_297_1 : fe 297 1 = some (.iconst 0, 1, 12, none) := fe_of pg_297 rfl
set_option maxRecDepth 100000 in
theorem f_297_2 : fe 297 2 = some (.putfield 512, 3, 12, none) := fe_of pg_297 rfl
set_option maxRecDepth 100000 in
theorem f_297_5 : fe 297 5 = some (.iconst 0, 1, 12, none) := fe_of pg_297 rfl
set_option maxRecDepth 100000 in
theorem f_297_6 : fe 297 6 = some (.istore_n 1, 1, 12, none) := fe_of pg_297 rfl
set_option maxRecDepth 100000 in
theorem f_297_7 : fe 297 7 = some (.iload_n 1, 1, 12, none) := fe_of pg_297 rfl
set_option maxRecDepth 100000 in
theorem f_297_8 : fe 297 8 = some (.iconst 4, 1, 12, none) := fe_of pg_297 rfl
set_option maxRecDepth 100000 in
theorem f_297_9 : fe 297 9 = some (.if_icmp .ge 25, 3, 12, none) := fe_of pg_297 rfl
set_option maxRecDepth 100000 in
theorem f_297_12 : fe 297 12 = some (.aload_n 0, 1, 12, none) := fe_of pg_297 rfl
set_option maxRecDepth 100000 in
theorem f_297_13 : fe 297 13 = some (.getfield 81, 3, 12, none) := fe_of pg_297 rfl
set_option maxRecDepth 100000 in
theorem f_297_16 : fe 297 16 = some (.iload_n 1, 1, 12, none) := fe_of pg_297 rfl
set_option maxRecDepth 100000 in
theorem f_297_17 : fe 297 17 = some (.ldc_w 442, 3, 12, none) := fe_of pg_297 rfl
set_option maxRecDepth 100000 in
theorem f_297_20 : fe 297 20 = some (.iastore, 1, 12, none) := fe_of pg_297 rfl
set_option maxRecDepth 100000 in
theorem f_297_21 : fe 297 21 = some (.aload_n 0, 1, 12, none) := fe_of pg_297 rfl
set_option maxRecDepth 100000 in
theorem f_297_22 : fe 297 22 = some (.getfield 84, 3, 12, none) := fe_of pg_297 rfl
set_option maxRecDepth 100000 in
theorem f_297_25 : fe 297 25 = some (.iload_n 1, 1, 12, none) := fe_of pg_297 rfl
set_option maxRecDepth 100000 in
theorem f_297_26 : fe 297 26 = some (.iconst (-1), 1, 12, none) := fe_of pg_297 rfl
set_option maxRecDepth 100000 in
theorem f_297_27 : fe 297 27 = some (.iastore, 1, 12, none) := fe_of pg_297 rfl
set_option maxRecDepth 100000 in
theorem f_297_28 : fe 297 28 = some (.iinc 1 1, 3, 12, none) := fe_of pg_297 rfl
set_option maxRecDepth 100000 in
theorem f_297_31 : fe 297 31 = some (.goto (-24), 3, 12, none) := fe_of pg_297 rfl
set_option maxRecDepth 100000 in
theorem f_297_34 : fe 297 34 = some (.iconst 0, 1, 12, none) := fe_of pg_297 rfl
set_option maxRecDepth 100000 in
theorem f_297_35 : fe 297 35 = some (.istore_n 1, 1, 12, none) := fe_of pg_297 rfl
set_option maxRecDepth 100000 in
theorem f_297_36 : fe 297 36 = some (.iload_n 1, 1, 12, none) := fe_of pg_297 rfl
set_option maxRecDepth 100000 in
theorem f_297_37 : fe 297 37 = some (.sipush 640, 3, 12, none) := fe_of pg_297 rfl
set_option maxRecDepth 100000 in
theorem f_297_40 : fe 297 40 = some (.if_icmp .ge 16, 3, 12, none) := fe_of pg_297 rfl
set_option maxRecDepth 100000 in
theorem f_297_43 : fe 297 43 = some (.aload_n 0, 1, 12, none) := fe_of pg_297 rfl
set_option maxRecDepth 100000 in
theorem f_297_44 : fe 297 44 = some (.getfield 87, 3, 12, none) := fe_of pg_297 rfl
set_option maxRecDepth 100000 in
theorem f_297_47 : fe 297 47 = some (.iload_n 1, 1, 12, none) := fe_of pg_297 rfl
set_option maxRecDepth 100000 in
theorem f_297_48 : fe 297 48 = some (.iconst 0, 1, 12, none) := fe_of pg_297 rfl
set_option maxRecDepth 100000 in
theorem f_297_49 : fe 297 49 = some (.iastore, 1, 12, none) := fe_of pg_297 rfl
set_option maxRecDepth 100000 in
theorem f_297_50 : fe 297 50 = some (.iinc 1 1, 3, 12, none) := fe_of pg_297 rfl
set_option maxRecDepth 100000 in
theorem f_297_53 : fe 297 53 = some (.goto (-17), 3, 12, none) := fe_of pg_297 rfl
set_option maxRecDepth 100000 in
theorem f_297_56 : fe 297 56 = some (.iconst 1, 1, 12, none) := fe_of pg_297 rfl
set_option maxRecDepth 100000 in
theorem f_297_57 : fe 297 57 = some (.istore_n 1, 1, 12, none) := fe_of pg_297 rfl
set_option maxRecDepth 100000 in
theorem f_297_58 : fe 297 58 = some (.iconst 0, 1, 12, none) := fe_of pg_297 rfl
set_option maxRecDepth 100000 in
theorem f_297_59 : fe 297 59 = some (.istore_n 2, 1, 12, none) := fe_of pg_297 rfl
set_option maxRecDepth 100000 in
theorem f_297_60 : fe 297 60 = some (.iload_n 2, 1, 12, none) := fe_of pg_297 rfl
set_option maxRecDepth 100000 in
theorem f_297_61 : fe 297 61 = some (.aload_n 0, 1, 12, none) := fe_of pg_297 rfl
set_option maxRecDepth 100000 in
theorem f_297_62 : fe 297 62 = some (.invokevirtual 500, 3, 12, none) := fe_of pg_297 rfl
set_option maxRecDepth 100000 in
theorem f_297_65 : fe 297 65 = some (.if_icmp .ge 14, 3, 12, none) := fe_of pg_297 rfl
set_option maxRecDepth 100000 in
theorem f_297_68 : fe 297 68 = some (.iload_n 1, 1, 12, none) := fe_of pg_297 rfl
set_option maxRecDepth 100000 in
theorem f_297_69 : fe 297 69 = some (.bipush 10, 2, 12, none) := fe_of pg_297 rfl
set_option maxRecDepth 100000 in
theorem f_297_71 : fe 297 71 = some (.imul, 1, 12, none) := fe_of pg_297 rfl
set_option maxRecDepth 100000 in
theorem f_297_72 : fe 297 72 = some (.istore_n 1, 1, 12, none) := fe_of pg_297 rfl
set_option maxRecDepth 100000 in
theorem f_297_73 : fe 297 73 = some (.iinc 2 1, 3, 12, none) := fe_of pg_297 rfl
set_option maxRecDepth 100000 in
theorem f_297_76 : fe 297 76 = some (.goto (-16), 3, 12, none) := fe_of pg_297 rfl
set_option maxRecDepth 100000 in
theorem f_297_79 : fe 297 79 = some (.iconst 0, 1, 12, none) := fe_of pg_297 rfl
set_option maxRecDepth 100000 in
theorem f_297_80 : fe 297 80 = some (.istore_n 2, 1, 12, none) := fe_of pg_297 rfl
set_option maxRecDepth 100000 in
theorem f_297_81 : fe 297 81 = some (.iload_n 2, 1, 12, none) := fe_of pg_297 rfl
set_option maxRecDepth 100000 in
theorem f_297_82 : fe 297 82 = some (.iload_n 1, 1, 12, none) := fe_of pg_297 rfl
set_option maxRecDepth 100000 in
theorem f_297_83 : fe 297 83 = some (.if_icmp .ge 123, 3, 12, none) := fe_of pg_297 rfl
set_option maxRecDepth 100000 in
theorem f_297_86 : fe 297 86 = some (.aload_n 0, 1, 12, none) := fe_of pg_297 rfl
set_option maxRecDepth 100000 in
theorem f_297_87 : fe 297 87 = some (.iload_n 2, 1, 12, none) := fe_of pg_297 rfl
set_option maxRecDepth 100000 in
theorem f_297_88 : fe 297 88 = some (.invokevirtual 515, 3, 12, none) := fe_of pg_297 rfl
set_option maxRecDepth 100000 in
theorem f_297_91 : fe 297 91 = some (.aload_n 0, 1, 12, none) := fe_of pg_297 rfl
set_option maxRecDepth 100000 in
theorem f_297_92 : fe 297 92 = some (.invokevirtual 518, 3, 12, none) := fe_of pg_297 rfl
set_option maxRecDepth 100000 in
theorem f_297_95 : fe 297 95 = some (.ifCond .eq 105, 3, 12, none) := fe_of pg_297 rfl
set_option maxRecDepth 100000 in
theorem f_297_98 : fe 297 98 = some (.aload_n 0, 1, 12, none) := fe_of pg_297 rfl
set_option maxRecDepth 100000 in
theorem f_297_99 : fe 297 99 = some (.dup, 1, 12, none) := fe_of pg_297 rfl
set_option maxRecDepth 100000 in
theorem f_297_100 : fe 297 100 = some (.getfield 512, 3, 12, none) := fe_of pg_297 rfl
set_option maxRecDepth 100000 in
theorem f_297_103 : fe 297 103 = some (.iconst 1, 1, 12, none) := fe_of pg_297 rfl
set_option maxRecDepth 100000 in
theorem f_297_104 : fe 297 104 = some (.iadd, 1, 12, none) := fe_of pg_297 rfl
set_option maxRecDepth 100000 in
theorem f_297_105 : fe 297 105 = some (.putfield 512, 3, 12, none) := fe_of pg_297 rfl
set_option maxRecDepth 100000 in
theorem f_297_108 : fe 297 108 = some (.iconst 0, 1, 12, none) := fe_of pg_297 rfl
set_option maxRecDepth 100000 in
theorem f_297_109 : fe 297 109 = some (.istore_n 3, 1, 12, none) := fe_of pg_297 rfl
set_option maxRecDepth 100000 in
theorem f_297_110 : fe 297 110 = some (.iload_n 3, 1, 12, none) := fe_of pg_297 rfl
set_option maxRecDepth 100000 in
theorem f_297_111 : fe 297 111 = some (.iconst 4, 1, 12, none) := fe_of pg_297 rfl
set_option maxRecDepth 100000 in
theorem f_297_112 : fe 297 112 = some (.if_icmp .ge 51, 3, 12, none) := fe_of pg_297 rfl
set_option maxRecDepth 100000 in
theorem f_297_115 : fe 297 115 = some (.aload_n 0, 1, 12, none) := fe_of pg_297 rfl
set_option maxRecDepth 100000 in
theorem f_297_116 : fe 297 116 = some (.getfield 81, 3, 12, none) := fe_of pg_297 rfl
set_option maxRecDepth 100000 in
theorem f_297_119 : fe 297 119 = some (.iload_n 3, 1, 12, none) := fe_of pg_297 rfl
set_option maxRecDepth 100000 in
theorem f_297_120 : fe 297 120 = some (.aload_n 0, 1, 12, none) := fe_of pg_297 rfl
set_option maxRecDepth 100000 in
theorem f_297_121 : fe 297 121 = some (.getfield 81, 3, 12, none) := fe_of pg_297 rfl
set_option maxRecDepth 100000 in
theorem f_297_124 : fe 297 124 = some (.iload_n 3, 1, 12, none) := fe_of pg_297 rfl
set_option maxRecDepth 100000 in
theorem f_297_125 : fe 297 125 = some (.iaload, 1, 12, none) := fe_of pg_297 rfl
set_option maxRecDepth 100000 in
theorem f_297_126 : fe 297 126 = some (.aload_n 0, 1, 12, none) := fe_of pg_297 rfl
set_option maxRecDepth 100000 in
theorem f_297_127 : fe 297 127 = some (.getfield 78, 3, 12, none) := fe_of pg_297 rfl
set_option maxRecDepth 100000 in
theorem f_297_130 : fe 297 130 = some (.iload_n 3, 1, 12, none) := fe_of pg_297 rfl
set_option maxRecDepth 100000 in
theorem f_297_131 : fe 297 131 = some (.iaload, 1, 12, none) := fe_of pg_297 rfl
set_option maxRecDepth 100000 in
theorem f_297_132 : fe 297 132 = some (.invokestatic 346, 3, 12, none) := fe_of pg_297 rfl
set_option maxRecDepth 100000 in
theorem f_297_135 : fe 297 135 = some (.iastore, 1, 12, none) := fe_of pg_297 rfl
set_option maxRecDepth 100000 in
theorem f_297_136 : fe 297 136 = some (.aload_n 0, 1, 12, none) := fe_of pg_297 rfl
set_option maxRecDepth 100000 in
theorem f_297_137 : fe 297 137 = some (.getfield 84, 3, 12, none) := fe_of pg_297 rfl
set_option maxRecDepth 100000 in
theorem f_297_140 : fe 297 140 = some (.iload_n 3, 1, 12, none) := fe_of pg_297 rfl
set_option maxRecDepth 100000 in
theorem f_297_141 : fe 297 141 = some (.aload_n 0, 1, 12, none) := fe_of pg_297 rfl
set_option maxRecDepth 100000 in
theorem f_297_142 : fe 297 142 = some (.getfield 84, 3, 12, none) := fe_of pg_297 rfl
set_option maxRecDepth 100000 in
theorem f_297_145 : fe 297 145 = some (.iload_n 3, 1, 12, none) := fe_of pg_297 rfl
set_option maxRecDepth 100000 in
theorem f_297_146 : fe 297 146 = some (.iaload, 1, 12, none) := fe_of pg_297 rfl
set_option maxRecDepth 100000 in
theorem f_297_147 : fe 297 147 = some (.aload_n 0, 1, 12, none) := fe_of pg_297 rfl
set_option maxRecDepth 100000 in
theorem f_297_148 : fe 297 148 = some (.getfield 78, 3, 12, none) := fe_of pg_297 rfl
set_option maxRecDepth 100000 in
theorem f_297_151 : fe 297 151 = some (.iload_n 3, 1, 12, none) := fe_of pg_297 rfl
set_option maxRecDepth 100000 in
theorem f_297_152 : fe 297 152 = some (.iaload, 1, 12, none) := fe_of pg_297 rfl
set_option maxRecDepth 100000 in
theorem f_297_153 : fe 297 153 = some (.invokestatic 349, 3, 12, none) := fe_of pg_297 rfl
set_option maxRecDepth 100000 in
theorem f_297_156 : fe 297 156 = some (.iastore, 1, 12, none) := fe_of pg_297 rfl
set_option maxRecDepth 100000 in
theorem f_297_157 : fe 297 157 = some (.iinc 3 1, 3, 12, none) := fe_of pg_297 rfl
set_option maxRecDepth 100000 in
theorem f_297_160 : fe 297 160 = some (.goto (-50), 3, 12, none) := fe_of pg_297 rfl
set_option maxRecDepth 100000 in
theorem f_297_163 : fe 297 163 = some (.iconst 1, 1, 12, none) := fe_of pg_297 rfl
set_option maxRecDepth 100000 in
theorem f_297_164 : fe 297 164 = some (.istore_n 3, 1, 12, none) := fe_of pg_297 rfl
set_option maxRecDepth 100000 in
theorem f_297_165 : fe 297 165 = some (.iload_n 3, 1, 12, none) := fe_of pg_297 rfl
set_option maxRecDepth 100000 in
theorem f_297_166 : fe 297 166 = some (.iconst 1, 1, 12, none) := fe_of pg_297 rfl
set_option maxRecDepth 100000 in
theorem f_297_167 : fe 297 167 = some (.aload_n 0, 1, 12, none) := fe_of pg_297 rfl
set_option maxRecDepth 100000 in
theorem f_297_168 : fe 297 168 = some (.invokevirtual 500, 3, 12, none) := fe_of pg_297 rfl
set_option maxRecDepth 100000 in
theorem f_297_171 : fe 297 171 = some (.ishl, 1, 12, none) := fe_of pg_297 rfl
set_option maxRecDepth 100000 in
theorem f_297_172 : fe 297 172 = some (.if_icmp .ge 28, 3, 12, none) := fe_of pg_297 rfl
set_option maxRecDepth 100000 in
theorem f_297_175 : fe 297 175 = some (.aload_n 0, 1, 12, none) := fe_of pg_297 rfl
set_option maxRecDepth 100000 in
theorem f_297_176 : fe 297 176 = some (.getfield 87, 3, 12, none) := fe_of pg_297 rfl
set_option maxRecDepth 100000 in
theorem f_297_179 : fe 297 179 = some (.bipush 40, 2, 12, none) := fe_of pg_297 rfl
set_option maxRecDepth 100000 in
theorem f_297_181 : fe 297 181 = some (.iload_n 3, 1, 12, none) := fe_of pg_297 rfl
set_option maxRecDepth 100000 in
theorem f_297_182 : fe 297 182 = some (.imul, 1, 12, none) := fe_of pg_297 rfl
set_option maxRecDepth 100000 in
theorem f_297_183 : fe 297 183 = some (.aload_n 0, 1, 12, none) := fe_of pg_297 rfl
set_option maxRecDepth 100000 in
theorem f_297_184 : fe 297 184 = some (.iload_n 3, 1, 12, none) := fe_of pg_297 rfl
set_option maxRecDepth 100000 in
theorem f_297_185 : fe 297 185 = some (.invokevirtual 509, 3, 12, none) := fe_of pg_297 rfl
set_option maxRecDepth 100000 in
theorem f_297_188 : fe 297 188 = some (.iadd, 1, 12, none) := fe_of pg_297 rfl
set_option maxRecDepth 100000 in
theorem f_297_189 : fe 297 189 = some (.dup2, 1, 12, none) := fe_of pg_297 rfl
set_option maxRecDepth 100000 in
theorem f_297_190 : fe 297 190 = some (.iaload, 1, 12, none) := fe_of pg_297 rfl
set_option maxRecDepth 100000 in
theorem f_297_191 : fe 297 191 = some (.iconst 1, 1, 12, none) := fe_of pg_297 rfl
set_option maxRecDepth 100000 in
theorem f_297_192 : fe 297 192 = some (.iadd, 1, 12, none) := fe_of pg_297 rfl
set_option maxRecDepth 100000 in
theorem f_297_193 : fe 297 193 = some (.iastore, 1, 12, none) := fe_of pg_297 rfl
set_option maxRecDepth 100000 in
theorem f_297_194 : fe 297 194 = some (.iinc 3 1, 3, 12, none) := fe_of pg_297 rfl
set_option maxRecDepth 100000 in
theorem f_297_197 : fe 297 197 = some (.goto (-32), 3, 12, none) := fe_of pg_297 rfl
set_option maxRecDepth 100000 in
theorem f_297_200 : fe 297 200 = some (.iinc 2 1, 3, 12, none) := fe_of pg_297 rfl
set_option maxRecDepth 100000 in
theorem f_297_203 : fe 297 203 = some (.goto (-122), 3, 12, none) := fe_of pg_297 rfl
set_option maxRecDepth 100000 in
theorem f_297_206 : fe 297 206 = some (.return_, 1, 12, none) := fe_of pg_297 rfl
set_option maxRecDepth 100000 in
theorem f_298_0 : fe 298 0 = some (.iconst (-1), 1, 12, some .int) := fe_of pg_298 rfl
set_option maxRecDepth 100000 in
theorem f_298_1 : fe 298 1 = some (.istore_n 1, 1, 12, some .int) := fe_of pg_298 rfl
set_option maxRecDepth 100000 in
theorem f_298_2 : fe 298 2 = some (.ldc_w 442, 3, 12, some .int) := fe_of pg_298 rfl
set_option maxRecDepth 100000 in
theorem f_298_5 : fe 298 5 = some (.istore_n 2, 1, 12, some .int) := fe_of pg_298 rfl
set_option maxRecDepth 100000 in
theorem f_298_6 : fe 298 6 = some (.iconst 1, 1, 12, some .int) := fe_of pg_298 rfl
set_option maxRecDepth 100000 in
theorem f_298_7 : fe 298 7 = some (.istore_n 3, 1, 12, some .int) := fe_of pg_298 rfl
set_option maxRecDepth 100000 in
theorem f_298_8 : fe 298 8 = some (.iload_n 3, 1, 12, some .int) := fe_of pg_298 rfl
set_option maxRecDepth 100000 in
theorem f_298_9 : fe 298 9 = some (.iconst 1, 1, 12, some .int) := fe_of pg_298 rfl
set_option maxRecDepth 100000 in
theorem f_298_10 : fe 298 10 = some (.aload_n 0, 1, 12, some .int) := fe_of pg_298 rfl
set_option maxRecDepth 100000 in
theorem f_298_11 : fe 298 11 = some (.invokevirtual 500, 3, 12, some .int) := fe_of pg_298 rfl
set_option maxRecDepth 100000 in
theorem f_298_14 : fe 298 14 = some (.ishl, 1, 12, some .int) := fe_of pg_298 rfl
set_option maxRecDepth 100000 in
theorem f_298_15 : fe 298 15 = some (.if_icmp .ge 92, 3, 12, some .int) := fe_of pg_298 rfl
set_option maxRecDepth 100000 in
theorem f_298_18 : fe 298 18 = some (.aload_n 0, 1, 12, some .int) := fe_of pg_298 rfl
set_option maxRecDepth 100000 in
theorem f_298_19 : fe 298 19 = some (.getfield 87, 3, 12, some .int) := fe_of pg_298 rfl
set_option maxRecDepth 100000 in
theorem f_298_22 : fe 298 22 = some (.bipush 40, 2, 12, some .int) := fe_of pg_298 rfl
set_option maxRecDepth 100000 in
theorem f_298_24 : fe 298 24 = some (.iload_n 3, 1, 12, some .int) := fe_of pg_298 rfl
set_option maxRecDepth 100000 in
theorem f_298_25 : fe 298 25 = some (.imul, 1, 12, some .int) := fe_of pg_298 rfl
set_option maxRecDepth 100000 in
theorem f_298_26 : fe 298 26 = some (.iaload, 1, 12, some .int) := fe_of pg_298 rfl
set_option maxRecDepth 100000 in
theorem f_298_27 : fe 298 27 = some (.istore 4, 2, 12, some .int) := fe_of pg_298 rfl
set_option maxRecDepth 100000 in
theorem f_298_29 : fe 298 29 = some (.iconst 1, 1, 12, some .int) := fe_of pg_298 rfl
set_option maxRecDepth 100000 in
theorem f_298_30 : fe 298 30 = some (.istore 5, 2, 12, some .int) := fe_of pg_298 rfl
set_option maxRecDepth 100000 in
theorem f_298_32 : fe 298 32 = some (.iload 5, 2, 12, some .int) := fe_of pg_298 rfl
set_option maxRecDepth 100000 in
theorem f_298_34 : fe 298 34 = some (.bipush 36, 2, 12, some .int) := fe_of pg_298 rfl
set_option maxRecDepth 100000 in
theorem f_298_36 : fe 298 36 = some (.if_icmp .gt 65, 3, 12, some .int) := fe_of pg_298 rfl
set_option maxRecDepth 100000 in
theorem f_298_39 : fe 298 39 = some (.iload 4, 2, 12, some .int) := fe_of pg_298 rfl
set_option maxRecDepth 100000 in
theorem f_298_41 : fe 298 41 = some (.aload_n 0, 1, 12, some .int) := fe_of pg_298 rfl
set_option maxRecDepth 100000 in
theorem f_298_42 : fe 298 42 = some (.getfield 512, 3, 12, some .int) := fe_of pg_298 rfl
set_option maxRecDepth 100000 in
theorem f_298_45 : fe 298 45 = some (.iload 4, 2, 12, some .int) := fe_of pg_298 rfl
set_option maxRecDepth 100000 in
theorem f_298_47 : fe 298 47 = some (.isub, 1, 12, some .int) := fe_of pg_298 rfl
set_option maxRecDepth 100000 in
theorem f_298_48 : fe 298 48 = some (.invokestatic 349, 3, 12, some .int) := fe_of pg_298 rfl
set_option maxRecDepth 100000 in
theorem f_298_51 : fe 298 51 = some (.istore 6, 2, 12, some .int) := fe_of pg_298 rfl
set_option maxRecDepth 100000 in
theorem f_298_53 : fe 298 53 = some (.iload 6, 2, 12, some .int) := fe_of pg_298 rfl
set_option maxRecDepth 100000 in
theorem f_298_55 : fe 298 55 = some (.iload_n 2, 1, 12, some .int) := fe_of pg_298 rfl
set_option maxRecDepth 100000 in
theorem f_298_56 : fe 298 56 = some (.if_icmp .ge 13, 3, 12, some .int) := fe_of pg_298 rfl
set_option maxRecDepth 100000 in
theorem f_298_59 : fe 298 59 = some (.bipush 40, 2, 12, some .int) := fe_of pg_298 rfl
set_option maxRecDepth 100000 in
theorem f_298_61 : fe 298 61 = some (.iload_n 3, 1, 12, some .int) := fe_of pg_298 rfl
set_option maxRecDepth 100000 in
theorem f_298_62 : fe 298 62 = some (.imul, 1, 12, some .int) := fe_of pg_298 rfl
set_option maxRecDepth 100000 in
theorem f_298_63 : fe 298 63 = some (.iload 5, 2, 12, some .int) := fe_of pg_298 rfl
set_option maxRecDepth 100000 in
theorem f_298_65 : fe 298 65 = some (.iadd, 1, 12, some .int) := fe_of pg_298 rfl
set_option maxRecDepth 100000 in
theorem f_298_66 : fe 298 66 = some (.goto 4, 3, 12, some .int) := fe_of pg_298 rfl
set_option maxRecDepth 100000 in
theorem f_298_69 : fe 298 69 = some (.iload_n 1, 1, 12, some .int) := fe_of pg_298 rfl
set_option maxRecDepth 100000 in
theorem f_298_70 : fe 298 70 = some (.istore_n 1, 1, 12, some .int) := fe_of pg_298 rfl
set_option maxRecDepth 100000 in
theorem f_298_71 : fe 298 71 = some (.iload_n 2, 1, 12, some .int) := fe_of pg_298 rfl
set_option maxRecDepth 100000 in
theorem f_298_72 : fe 298 72 = some (.iload 6, 2, 12, some .int) := fe_of pg_298 rfl
set_option maxRecDepth 100000 in
theorem f_298_74 : fe 298 74 = some (.invokestatic 346, 3, 12, some .int) := fe_of pg_298 rfl
set_option maxRecDepth 100000 in
theorem f_298_77 : fe 298 77 = some (.istore_n 2, 1, 12, some .int) := fe_of pg_298 rfl
set_option maxRecDepth 100000 in
theorem f_298_78 : fe 298 78 = some (.iload 4, 2, 12, some .int) := fe_of pg_298 rfl
set_option maxRecDepth 100000 in
theorem f_298_80 : fe 298 80 = some (.aload_n 0, 1, 12, some .int) := fe_of pg_298 rfl
set_option maxRecDepth 100000 in
theorem f_298_81 : fe 298 81 = some (.getfield 87, 3, 12, some .int) := fe_of pg_298 rfl
set_option maxRecDepth 100000 in
theorem f_298_84 : fe 298 84 = some (.bipush 40, 2, 12, some .int) := fe_of pg_298 rfl
set_option maxRecDepth 100000 in
theorem f_298_86 : fe 298 86 = some (.iload_n 3, 1, 12, some .int) := fe_of pg_298 rfl
set_option maxRecDepth 100000 in
theorem f_298_87 : fe 298 87 = some (.imul, 1, 12, some .int) := fe_of pg_298 rfl
set_option maxRecDepth 100000 in
theorem f_298_88 : fe 298 88 = some (.iload 5, 2, 12, some .int) := fe_of pg_298 rfl
set_option maxRecDepth 100000 in
theorem f_298_90 : fe 298 90 = some (.iadd, 1, 12, some .int) := fe_of pg_298 rfl
set_option maxRecDepth 100000 in
theorem f_298_91 : fe 298 91 = some (.iaload, 1, 12, some .int) := fe_of pg_298 rfl
set_option maxRecDepth 100000 in
theorem f_298_92 : fe 298 92 = some (.iadd, 1, 12, some .int) := fe_of pg_298 rfl
set_option maxRecDepth 100000 in
theorem f_298_93 : fe 298 93 = some (.istore 4, 2, 12, some .int) := fe_of pg_298 rfl
set_option maxRecDepth 100000 in
theorem f_298_95 : fe 298 95 = some (.iinc 5 1, 3, 12, some .int) := fe_of pg_298 rfl
set_option maxRecDepth 100000 in
theorem f_298_98 : fe 298 98 = some (.goto (-66), 3, 12, some .int) := fe_of pg_298 rfl
set_option maxRecDepth 100000 in
theorem f_298_101 : fe 298 101 = some (.iinc 3 1, 3, 12, some .int) := fe_of pg_298 rfl
set_option maxRecDepth 100000 in
theorem f_298_104 : fe 298 104 = some (.goto (-96), 3, 12, some .int) := fe_of pg_298 rfl
set_option maxRecDepth 100000 in
theorem f_298_107 : fe 298 107 = some (.iload_n 1, 1, 12, some .int) := fe_of pg_298 rfl
set_option maxRecDepth 100000 in
theorem f_298_108 : fe 298 108 = some (.ireturn, 1, 12, some .int) := fe_of pg_298 rfl
set_option maxRecDepth 100000 in
theorem f_299_0 : fe 299 0 = some (.aload_n 0, 1, 12, some .int) := fe_of pg_299 rfl
set_option maxRecDepth 100000 in
theorem f_299_1 : fe 299 1 = some (.iconst 0, 1, 12, some .int) := fe_of pg_299 rfl
set_option maxRecDepth 100000 in
theorem f_299_2 : fe 299 2 = some (.putfield 109, 3, 12, some .int) := fe_of pg_299 rfl
set_option maxRecDepth 100000 in
theorem f_299_5 : fe 299 5 = some (.aload_n 0, 1, 12, some .int) := fe_of pg_299 rfl
set_option maxRecDepth 100000 in
theorem f_299_6 : fe 299 6 = some (.iload_n 1, 1, 12, some .int) := fe_of pg_299 rfl
set_option maxRecDepth 100000 in
theorem f_299_7 : fe 299 7 = some (.invokevirtual 497, 3, 12, some .int) := fe_of pg_299 rfl
set_option maxRecDepth 100000 in
theorem f_299_10 : fe 299 10 = some (.ifCond .ne 6, 3, 12, some .int) := fe_of pg_299 rfl
set_option maxRecDepth 100000 in
theorem f_299_13 : fe 299 13 = some (.bipush (-2), 2, 12, some .int) := fe_of pg_299 rfl
set_option maxRecDepth 100000 in
theorem f_299_15 : fe 299 15 = some (.ireturn, 1, 12, some .int) := fe_of pg_299 rfl
set_option maxRecDepth 100000 in
theorem f_299_16 : fe 299 16 = some (.aload_n 0, 1, 12, some .int) := fe_of pg_299 rfl
set_option maxRecDepth 100000 in
theorem f_299_17 : fe 299 17 = some (.invokevirtual 500, 3, 12, some .int) := fe_of pg_299 rfl
set_option maxRecDepth 100000 in
theorem f_299_20 : fe 299 20 = some (.istore_n 3, 1, 12, some .int) := fe_of pg_299 rfl
set_option maxRecDepth 100000 in
theorem f_299_21 : fe 299 21 = some (.iload_n 2, 1, 12, some .int) := fe_of pg_299 rfl
set_option maxRecDepth 100000 in
theorem f_299_22 : fe 299 22 = some (.iconst 0, 1, 12, some .int) := fe_of pg_299 rfl
set_option maxRecDepth 100000 in
theorem f_299_23 : fe 299 23 = some (.iconst 1, 1, 12, some .int) := fe_of pg_299 rfl
set_option maxRecDepth 100000 in
theorem f_299_24 : fe 299 24 = some (.invokestatic 121, 3, 12, some .int) := fe_of pg_299 rfl
set_option maxRecDepth 100000 in
theorem f_299_27 : fe 299 27 = some (.ifCond .ne 32, 3, 12, some .int) := fe_of pg_299 rfl
set_option maxRecDepth 100000 in
theorem f_299_30 : fe 299 30 = some (.iload_n 2, 1, 12, some .int) := fe_of pg_299 rfl
set_option maxRecDepth 100000 in
theorem f_299_31 : fe 299 31 = some (.bipush 10, 2, 12, some .int) := fe_of pg_299 rfl
set_option maxRecDepth 100000 in
theorem f_299_33 : fe 299 33 = some (.bipush 9, 2, 12, some .int) := fe_of pg_299 rfl
set_option maxRecDepth 100000 in
theorem f_299_35 : fe 299 35 = some (.iload_n 3, 1, 12, some .int) := fe_of pg_299 rfl
set_option maxRecDepth 100000 in
theorem f_299_36 : fe 299 36 = some (.iadd, 1, 12, some .int) := fe_of pg_299 rfl
set_option maxRecDepth 100000 in
theorem f_299_37 : fe 299 37 = some (.invokestatic 121, 3, 12, some .int) := fe_of pg_299 rfl
set_option maxRecDepth 100000 in
theorem f_299_40 : fe 299 40 = some (.ifCond .ne 19, 3, 12, some .int) := fe_of pg_299 rfl
set_option maxRecDepth 100000 in
theorem f_299_43 : fe 299 43 = some (.iload_n 2, 1, 12, some .int) := fe_of pg_299 rfl
set_option maxRecDepth 100000 in
theorem f_299_44 : fe 299 44 = some (.bipush 20, 2, 12, some .int) := fe_of pg_299 rfl
set_option maxRecDepth 100000 in
theorem f_299_46 : fe 299 46 = some (.bipush 19, 2, 12, some .int) := fe_of pg_299 rfl
set_option maxRecDepth 100000 in
theorem f_299_48 : fe 299 48 = some (.iload_n 3, 1, 12, some .int) := fe_of pg_299 rfl
set_option maxRecDepth 100000 in
theorem f_299_49 : fe 299 49 = some (.iadd, 1, 12, some .int) := fe_of pg_299 rfl
set_option maxRecDepth 100000 in
theorem f_299_50 : fe 299 50 = some (.invokestatic 121, 3, 12, some .int) := fe_of pg_299 rfl
set_option maxRecDepth 100000 in
theorem f_299_53 : fe 299 53 = some (.ifCond .ne 6, 3, 12, some .int) := fe_of pg_299 rfl
set_option maxRecDepth 100000 in
theorem f_299_56 : fe 299 56 = some (.bipush (-2), 2, 12, some .int) := fe_of pg_299 rfl
set_option maxRecDepth 100000 in
theorem f_299_58 : fe 299 58 = some (.ireturn, 1, 12, some .int) := fe_of pg_299 rfl
set_option maxRecDepth 100000 in
theorem f_299_59 : fe 299 59 = some (.aload_n 0, 1, 12, some .int) := fe_of pg_299 rfl
set_option maxRecDepth 100000 in
theorem f_299_60 : fe 299 60 = some (.invokevirtual 521, 3, 12, some .int) := fe_of pg_299 rfl
set_option maxRecDepth 100000 in
theorem f_299_63 : fe 299 63 = some (.iload_n 2, 1, 12, some .int) := fe_of pg_299 rfl
set_option maxRecDepth 100000 in
theorem f_299_64 : fe 299 64 = some (.ifCond .ne 8, 3, 12, some .int) := fe_of pg_299 rfl
set_option maxRecDepth 100000 in
theorem f_299_67 : fe 299 67 = some (.aload_n 0, 1, 12, some .int) := fe_of pg_299 rfl
set_option maxRecDepth 100000 in
theorem f_299_68 : fe 299 68 = some (.getfield 512, 3, 12, some .int) := fe_of pg_299 rfl
set_option maxRecDepth 100000 in
theorem f_299_71 : fe 299 71 = some (.ireturn, 1, 12, some .int) := fe_of pg_299 rfl
set_option maxRecDepth 100000 in
theorem f_299_72 : fe 299 72 = some (.aload_n 0, 1, 12, some .int) := fe_of pg_299 rfl
set_option maxRecDepth 100000 in
theorem f_299_73 : fe 299 73 = some (.getfield 512, 3, 12, some .int) := fe_of pg_299 rfl
set_option maxRecDepth 100000 in
theorem f_299_76 : fe 299 76 = some (.ifCond .ne 7, 3, 12, some .int) := fe_of pg_299 rfl
set_option maxRecDepth 100000 in
theorem f_299_79 : fe 299 79 = some (.iconst (-1), 1, 12, some .int) := fe_of pg_299 rfl
set_option maxRecDepth 100000 in
theorem f_299_80 : fe 299 80 = some (.goto 42, 3, 12, some .int) := fe_of pg_299 rfl
set_option maxRecDepth 100000 in
theorem f_299_83 : fe 299 83 = some (.iload_n 2, 1, 12, some .int) := fe_of pg_299 rfl
set_option maxRecDepth 100000 in
theorem f_299_84 : fe 299 84 = some (.iconst 1, 1, 12, some .int) := fe_of pg_299 rfl
set_option maxRecDepth 100000 in
theorem f_299_85 : fe 299 85 = some (.if_icmp .ne 10, 3, 12, some .int) := fe_of pg_299 rfl
set_option maxRecDepth 100000 in
theorem f_299_88 : fe 299 88 = some (.aload_n 0, 1, 12, some .int) := fe_of pg_299 rfl
set_option maxRecDepth 100000 in
theorem f_299_89 : fe 299 89 = some (.invokevirtual 524, 3, 12, some .int) := fe_of pg_299 rfl
set_option maxRecDepth 100000 in
theorem f_299_92 : fe 299 92 = some (.goto 30, 3, 12, some .int) := fe_of pg_299 rfl
set_option maxRecDepth 100000 in
theorem f_299_95 : fe 299 95 = some (.iload_n 2, 1, 12, some .int) := fe_of pg_299 rfl
set_option maxRecDepth 100000 in
theorem f_299_96 : fe 299 96 = some (.bipush 20, 2, 12, some .int) := fe_of pg_299 rfl
set_option maxRecDepth 100000 in
theorem f_299_98 : fe 299 98 = some (.if_icmp .ge 15, 3, 12, some .int) := fe_of pg_299 rfl
set_option maxRecDepth 100000 in
theorem f_299_101 : fe 299 101 = some (.aload_n 0, 1, 12, some .int) := fe_of pg_299 rfl
set_option maxRecDepth 100000 in
theorem f_299_102 : fe 299 102 = some (.getfield 81, 3, 12, some .int) := fe_of pg_299 rfl
set_option maxRecDepth 100000 in
theorem f_299_105 : fe 299 105 = some (.iload_n 2, 1, 12, some .int) := fe_of pg_299 rfl
set_option maxRecDepth 100000 in
theorem f_299_106 : fe 299 106 = some (.bipush 10, 2, 12, some .int) := fe_of pg_299 rfl
set_option maxRecDepth 100000 in
theorem f_299_108 : fe 299 108 = some (.isub, 1, 12, some .int) := fe_of pg_299 rfl
set_option maxRecDepth 100000 in
theorem f_299_109 : fe 299 109 = some (.iaload, 1, 12, some .int) := fe_of pg_299 rfl
set_option maxRecDepth 100000 in
theorem f_299_110 : fe 299 110 = some (.goto 12, 3, 12, some .int) := fe_of pg_299 rfl
set_option maxRecDepth 100000 in
theorem f_299_113 : fe 299 113 = some (.aload_n 0, 1, 12, some .int) := fe_of pg_299 rfl
set_option maxRecDepth 100000 in
theorem f_299_114 : fe 299 114 = some (.getfield 84, 3, 12, some .int) := fe_of pg_299 rfl
set_option maxRecDepth 100000 in
theorem f_299_117 : fe 299 117 = some (.iload_n 2, 1, 12, some .int) := fe_of pg_299 rfl
set_option maxRecDepth 100000 in
theorem f_299_118 : fe 299 118 = some (.bipush 20, 2, 12, some .int) := fe_of pg_299 rfl
set_option maxRecDepth 100000 in
theorem f_299_120 : fe 299 120 = some (.isub, 1, 12, some .int) := fe_of pg_299 rfl
set_option maxRecDepth 100000 in
theorem f_299_121 : fe 299 121 = some (.iaload, 1, 12, some .int) := fe_of pg_299 rfl
set_option maxRecDepth 100000 in
theorem f_299_122 : fe 299 122 = some (.ireturn, 1, 12, some .int) := fe_of pg_299 rfl
set_option maxRecDepth 100000 in
theorem f_300_0 : fe 300 0 = some (.aload_n 0, 1, 12, some .int) := fe_of pg_300 rfl
set_option maxRecDepth 100000 in
theorem f_300_1 : fe 300 1 = some (.bipush 31, 2, 12, some .int) := fe_of pg_300 rfl
set_option maxRecDepth 100000 in
theorem f_300_3 : fe 300 3 = some (.iload_n 1, 1, 12, some .int) := fe_of pg_300 rfl
set_option maxRecDepth 100000 in
theorem f_300_4 : fe 300 4 = some (.iadd, 1, 12, some .int) := fe_of pg_300 rfl
set_option maxRecDepth 100000 in
theorem f_300_5 : fe 300 5 = some (.iconst 1, 1, 12, some .int) := fe_of pg_300 rfl
set_option maxRecDepth 100000 in
theorem f_300_6 : fe 300 6 = some (.isub, 1, 12, some .int) := fe_of pg_300 rfl
set_option maxRecDepth 100000 in
theorem f_300_7 : fe 300 7 = some (.invokevirtual 293, 3, 12, some .int) := fe_of pg_300 rfl
set_option maxRecDepth 100000 in
theorem f_300_10 : fe 300 10 = some (.ireturn, 1, 12, some .int) := fe_of pg_300 rfl
set_option maxRecDepth 100000 in
theorem f_301_0 : fe 301 0 = some (.iload_n 1, 1, 12, none) := fe_of pg_301 rfl
set_option maxRecDepth 100000 in
theorem f_301_1 : fe 301 1 = some (.istore_n 2, 1, 12, none) := fe_of pg_301 rfl
set_option maxRecDepth 100000 in
theorem f_301_2 : fe 301 2 = some (.iload_n 2, 1, 12, none) := fe_of pg_301 rfl
set_option maxRecDepth 100000 in
theorem f_301_3 : fe 301 3 = some (.aload_n 0, 1, 12, none) := fe_of pg_301 rfl
set_option maxRecDepth 100000 in
theorem f_301_4 : fe 301 4 = some (.getfield 297, 3, 12, none) := fe_of pg_301 rfl
set_option maxRecDepth 100000 in
theorem f_301_7 : fe 301 7 = some (.if_icmp .gt 124, 3, 12, none) := fe_of pg_301 rfl
set_option maxRecDepth 100000 in
theorem f_301_10 : fe 301 10 = some (.aload_n 0, 1, 12, none) := fe_of pg_301 rfl
set_option maxRecDepth 100000 in
theorem f_301_11 : fe 301 11 = some (.getfield 90, 3, 12, none) := fe_of pg_301 rfl
set_option maxRecDepth 100000 in
theorem f_301_14 : fe 301 14 = some (.iload_n 2, 1, 12, none) := fe_of pg_301 rfl
set_option maxRecDepth 100000 in
theorem f_301_15 : fe 301 15 = some (.iload_n 2, 1, 12, none) := fe_of pg_301 rfl
set_option maxRecDepth 100000 in
theorem f_301_16 : fe 301 16 = some (.iload_n 1, 1, 12, none) := fe_of pg_301 rfl
set_option maxRecDepth 100000 in
theorem f_301_17 : fe 301 17 = some (.if_icmp .ne 7, 3, 12, none) := fe_of pg_301 rfl
set_option maxRecDepth 100000 in
theorem f_301_20 : fe 301 20 = some (.iconst 0, 1, 12, none) := fe_of pg_301 rfl
set_option maxRecDepth 100000 in
theorem f_301_21 : fe 301 21 = some (.goto 6, 3, 12, none) := fe_of pg_301 rfl
set_option maxRecDepth 100000 in
theorem f_301_24 : fe 301 24 = some (.ldc_w 442, 3, 12, none) := fe_of pg_301 rfl
set_option maxRecDepth 100000 in
theorem f_301_27 : fe 301 27 = some (.iastore, 1, 12, none) := fe_of pg_301 rfl
set_option maxRecDepth 100000 in
theorem f_301_28 : fe 301 28 = some (.aload_n 0, 1, 12, none) := fe_of pg_301 rfl
set_option maxRecDepth 100000 in
theorem f_301_29 : fe 301 29 = some (.getfield 93, 3, 12, none) := fe_of pg_301 rfl
set_option maxRecDepth 100000 in
theorem f_301_32 : fe 301 32 = some (.iload_n 2, 1, 12, none) := fe_of pg_301 rfl
set_option maxRecDepth 100000 in
theorem f_301_33 : fe 301 33 = some (.iconst 0, 1, 12, none) := fe_of pg_301 rfl
set_option maxRecDepth 100000 in
theorem f_301_34 : fe 301 34 = some (.iastore, 1, 12, none) := fe_of pg_301 rfl
set_option maxRecDepth 100000 in
theorem f_301_35 : fe 301 35 = some (.iload_n 1, 1, 12, none) := fe_of pg_301 rfl
set_option maxRecDepth 100000 in
theorem f_301_36 : fe 301 36 = some (.istore_n 3, 1, 12, none) := fe_of pg_301 rfl
set_option maxRecDepth 100000 in
theorem f_301_37 : fe 301 37 = some (.iload_n 3, 1, 12, none) := fe_of pg_301 rfl
set_option maxRecDepth 100000 in
theorem f_301_38 : fe 301 38 = some (.iload_n 2, 1, 12, none) := fe_of pg_301 rfl
set_option maxRecDepth 100000 in
theorem f_301_39 : fe 301 39 = some (.if_icmp .ge 86, 3, 12, none) := fe_of pg_301 rfl
set_option maxRecDepth 100000 in
theorem f_301_42 : fe 301 42 = some (.aload_n 0, 1, 12, none) := fe_of pg_301 rfl
set_option maxRecDepth 100000 in
theorem f_301_43 : fe 301 43 = some (.getfield 90, 3, 12, none) := fe_of pg_301 rfl
set_option maxRecDepth 100000 in
theorem f_301_46 : fe 301 46 = some (.iload_n 3, 1, 12, none) := fe_of pg_301 rfl
set_option maxRecDepth 100000 in
theorem f_301_47 : fe 301 47 = some (.iaload, 1, 12, none) := fe_of pg_301 rfl
set_option maxRecDepth 100000 in
theorem f_301_48 : fe 301 48 = some (.aload_n 0, 1, 12, none) := fe_of pg_301 rfl
set_option maxRecDepth 100000 in
theorem f_301_49 : fe 301 49 = some (.iload_n 2, 1, 12, none) := fe_of pg_301 rfl
set_option maxRecDepth 100000 in
theorem f_301_50 : fe 301 50 = some (.iload_n 3, 1, 12, none) := fe_of pg_301 rfl
set_option maxRecDepth 100000 in
theorem f_301_51 : fe 301 51 = some (.isub, 1, 12, none) := fe_of pg_301 rfl
set_option maxRecDepth 100000 in
theorem f_301_52 : fe 301 52 = some (.invokevirtual 527, 3, 12, none) := fe_of pg_301 rfl
set_option maxRecDepth 100000 in
theorem f_301_55 : fe 301 55 = some (.iadd, 1, 12, none) := fe_of pg_301 rfl
set_option maxRecDepth 100000 in
theorem f_301_56 : fe 301 56 = some (.istore 4, 2, 12, none) := fe_of pg_301 rfl
set_option maxRecDepth 100000 in
theorem f_301_58 : fe 301 58 = some (.iload 4, 2, 12, none) := fe_of pg_301 rfl
set_option maxRecDepth 100000 in
theorem f_301_60 : fe 301 60 = some (.aload_n 0, 1, 12, none) := fe_of pg_301 rfl
set_option maxRecDepth 100000 in
theorem f_301_61 : fe 301 61 = some (.getfield 90, 3, 12, none) := fe_of pg_301 rfl
set_option maxRecDepth 100000 in
theorem f_301_64 : fe 301 64 = some (.iload_n 2, 1, 12, none) := fe_of pg_301 rfl
set_option maxRecDepth 100000 in
theorem f_301_65 : fe 301 65 = some (.iaload, 1, 12, none) := fe_of pg_301 rfl
set_option maxRecDepth 100000 in
theorem f_301_66 : fe 301 66 = some (.if_icmp .lt 31, 3, 12, none) := fe_of pg_301 rfl
set_option maxRecDepth 100000 in
theorem f_301_69 : fe 301 69 = some (.iload 4, 2, 12, none) := fe_of pg_301 rfl
set_option maxRecDepth 100000 in
theorem f_301_71 : fe 301 71 = some (.aload_n 0, 1, 12, none) := fe_of pg_301 rfl
set_option maxRecDepth 100000 in
theorem f_301_72 : fe 301 72 = some (.getfield 90, 3, 12, none) := fe_of pg_301 rfl
set_option maxRecDepth 100000 in
theorem f_301_75 : fe 301 75 = some (.iload_n 2, 1, 12, none) := fe_of pg_301 rfl
set_option maxRecDepth 100000 in
theorem f_301_76 : fe 301 76 = some (.iaload, 1, 12, none) := fe_of pg_301 rfl
set_option maxRecDepth 100000 in
theorem f_301_77 : fe 301 77 = some (.if_icmp .ne 42, 3, 12, none) := fe_of pg_301 rfl
set_option maxRecDepth 100000 in
theorem f_301_80 : fe 301 80 = some (.aload_n 0, 1, 12, none) := fe_of pg_301 rfl
set_option maxRecDepth 100000 in
theorem f_301_81 : fe 301 81 = some (.getfield 93, 3, 12, none) := fe_of pg_301 rfl
set_option maxRecDepth 100000 in
theorem f_301_84 : fe 301 84 = some (.iload_n 3, 1, 12, none) := fe_of pg_301 rfl
set_option maxRecDepth 100000 in
theorem f_301_85 : fe 301 85 = some (.iaload, 1, 12, none) := fe_of pg_301 rfl
set_option maxRecDepth 100000 in
theorem f_301_86 : fe 301 86 = some (.iconst 1, 1, 12, none) := fe_of pg_301 rfl
set_option maxRecDepth 100000 in
theorem f_301_87 : fe 301 87 = some (.iadd, 1, 12, none) := fe_of pg_301 rfl
set_option maxRecDepth 100000 in
theorem f_301_88 : fe 301 88 = some (.aload_n 0, 1, 12, none) := fe_of pg_301 rfl
set_option maxRecDepth 100000 in
theorem f_301_89 : fe 301 89 = some (.getfield 93, 3, 12, none) := fe_of pg_301 rfl
set_option maxRecDepth 100000 in
theorem f_301_92 : fe 301 92 = some (.iload_n 2, 1, 12, none) := fe_of pg_301 rfl
set_option maxRecDepth 100000 in
theorem f_301_93 : fe 301 93 = some (.iaload, 1, 12, none) := fe_of pg_301 rfl
set_option maxRecDepth 100000 in
theorem f_301_94 : fe 301 94 = some (.if_icmp .ge 25, 3, 12, none) := fe_of pg_301 rfl
set_option maxRecDepth 100000 in
theorem f_301_97 : fe 301 97 = some (.aload_n 0, 1, 12, none) := fe_of pg_301 rfl
set_option maxRecDepth 100000 in
theorem f_301_98 : fe 301 98 = some (.getfield 90, 3, 12, none) := fe_of pg_301 rfl
set_option maxRecDepth 100000 in
theorem f_301_101 : fe 301 101 = some (.iload_n 2, 1, 12, none) := fe_of pg_301 rfl
set_option maxRecDepth 100000 in
theorem f_301_102 : fe 301 102 = some (.iload 4, 2, 12, none) := fe_of pg_301 rfl
set_option maxRecDepth 100000 in
theorem f_301_104 : fe 301 104 = some (.iastore, 1, 12, none) := fe_of pg_301 rfl
set_option maxRecDepth 100000 in
theorem f_301_105 : fe 301 105 = some (.aload_n 0, 1, 12, none) := fe_of pg_301 rfl
set_option maxRecDepth 100000 in
theorem f_301_106 : fe 301 106 = some (.getfield 93, 3, 12, none) := fe_of pg_301 rfl
set_option maxRecDepth 100000 in
theorem f_301_109 : fe 301 109 = some (.iload_n 2, 1, 12, none) := fe_of pg_301 rfl
set_option maxRecDepth 100000 in
theorem f_301_110 : fe 301 110 = some (.aload_n 0, 1, 12, none) := fe_of pg_301 rfl
set_option maxRecDepth 100000 in
theorem f_301_111 : fe 301 111 = some (.getfield 93, 3, 12, none) := fe_of pg_301 rfl
set_option maxRecDepth 100000 in
theorem f_301_114 : fe 301 114 = some (.iload_n 3, 1, 12, none) := fe_of pg_301 rfl
set_option maxRecDepth 100000 in
theorem f_301_115 : fe 301 115 = some (.iaload, 1, 12, none) := fe_of pg_301 rfl
set_option maxRecDepth 100000 in
theorem f_301_116 : fe 301 116 = some (.iconst 1, 1, 12, none) := fe_of pg_301 rfl
set_option maxRecDepth 100000 in
theorem f_301_117 : fe 301 117 = some (.iadd, 1, 12, none) := fe_of pg_301 rfl
set_option maxRecDepth 100000 in
theorem f_301_118 : fe 301 118 = some (.iastore, 1, 12, none) := fe_of pg_301 rfl
set_option maxRecDepth 100000 in
theorem f_301_119 : fe 301 119 = some (.iinc 3 1, 3, 12, none) := fe_of pg_301 rfl
set_option maxRecDepth 100000 in
theorem f_301_122 : fe 301 122 = some (.goto (-85), 3, 12, none) := fe_of pg_301 rfl
set_option maxRecDepth 100000 in
theorem f_301_125 : fe 301 125 = some (.iinc 2 1, 3, 12, none) := fe_of pg_301 rfl
set_option maxRecDepth 100000 in
theorem f_301_128 : fe 301 128 = some (.goto (-126), 3, 12, none) := fe_of pg_301 rfl
set_option maxRecDepth 100000 in
theorem f_301_131 : fe 301 131 = some (.return_, 1, 12, none) := fe_of pg_301 rfl
set_option maxRecDepth 100000 in
theorem f_302_0 : fe 302 0 = some (.iload_n 2, 1, 12, some .int) := fe_of pg_302 rfl
set_option maxRecDepth 100000 in
theorem f_302_1 : fe 302 1 = some (.istore_n 3, 1, 12, some .int) := fe_of pg_302 rfl
set_option maxRecDepth 100000 in
theorem f_302_2 : fe 302 2 = some (.iload_n 2, 1, 12, some .int) := fe_of pg_302 rfl
set_option maxRecDepth 100000 in
theorem f_302_3 : fe 302 3 = some (.iconst 1, 1, 12, some .int) := fe_of pg_302 rfl
set_option maxRecDepth 100000 in
theorem f_302_4 : fe 302 4 = some (.iadd, 1, 12, some .int) := fe_of pg_302 rfl
set_option maxRecDepth 100000 in
theorem f_302_5 : fe 302 5 = some (.istore 4, 2, 12, some .int) := fe_of pg_302 rfl
set_option maxRecDepth 100000 in
theorem f_302_7 : fe 302 7 = some (.iload 4, 2, 12, some .int) := fe_of pg_302 rfl
set_option maxRecDepth 100000 in
theorem f_302_9 : fe 302 9 = some (.aload_n 0, 1, 12, some .int) := fe_of pg_302 rfl
set_option maxRecDepth 100000 in
theorem f_302_10 : fe 302 10 = some (.getfield 297, 3, 12, some .int) := fe_of pg_302 rfl
set_option maxRecDepth 100000 in
theorem f_302_13 : fe 302 13 = some (.if_icmp .gt 34, 3, 12, some .int) := fe_of pg_302 rfl
set_option maxRecDepth 100000 in
theorem f_302_16 : fe 302 16 = some (.aload_n 0, 1, 12, some .int) := fe_of pg_302 rfl
set_option maxRecDepth 100000 in
theorem f_302_17 : fe 302 17 = some (.iload 4, 2, 12, some .int) := fe_of pg_302 rfl
set_option maxRecDepth 100000 in
theorem f_302_19 : fe 302 19 = some (.iload_n 1, 1, 12, some .int) := fe_of pg_302 rfl
set_option maxRecDepth 100000 in
theorem f_302_20 : fe 302 20 = some (.isub, 1, 12, some .int) := fe_of pg_302 rfl
set_option maxRecDepth 100000 in
theorem f_302_21 : fe 302 21 = some (.invokevirtual 527, 3, 12, some .int) := fe_of pg_302 rfl
set_option maxRecDepth 100000 in
theorem f_302_24 : fe 302 24 = some (.aload_n 0, 1, 12, some .int) := fe_of pg_302 rfl
set_option maxRecDepth 100000 in
theorem f_302_25 : fe 302 25 = some (.iload_n 3, 1, 12, some .int) := fe_of pg_302 rfl
set_option maxRecDepth 100000 in
theorem f_302_26 : fe 302 26 = some (.iload_n 1, 1, 12, some .int) := fe_of pg_302 rfl
set_option maxRecDepth 100000 in
theorem f_302_27 : fe 302 27 = some (.isub, 1, 12, some .int) := fe_of pg_302 rfl
set_option maxRecDepth 100000 in
theorem f_302_28 : fe 302 28 = some (.invokevirtual 527, 3, 12, some .int) := fe_of pg_302 rfl
set_option maxRecDepth 100000 in
theorem f_302_31 : fe 302 31 = some (.if_icmp .ge 8, 3, 12, some .int) := fe_of pg_302 rfl
set_option maxRecDepth 100000 in
theorem f_302_34 : fe 302 34 = some (.iload 4, 2, 12, some .int) := fe_of pg_302 rfl
set_option maxRecDepth 100000 in
theorem f_302_36 : fe 302 36 = some (.goto 4, 3, 12, some .int) := fe_of pg_302 rfl
set_option maxRecDepth 100000 in
theorem f_302_39 : fe 302 39 = some (.iload_n 3, 1, 12, some .int) := fe_of pg_302 rfl
set_option maxRecDepth 100000 in
theorem f_302_40 : fe 302 40 = some (.istore_n 3, 1, 12, some .int) := fe_of pg_302 rfl
set_option maxRecDepth 100000 in
theorem f_302_41 : fe 302 41 = some (.iinc 4 1, 3, 12, some .int) := fe_of pg_302 rfl
set_option maxRecDepth 100000 in
theorem f_302_44 : fe 302 44 = some (.goto (-37), 3, 12, some .int) := fe_of pg_302 rfl
set_option maxRecDepth 100000 in
theorem f_302_47 : fe 302 47 = some (.iload_n 3, 1, 12, some .int) := fe_of pg_302 rfl
set_option maxRecDepth 100000 in
theorem f_302_48 : fe 302 48 = some (.ireturn, 1, 12, some .int) := fe_of pg_302 rfl
set_option maxRecDepth 100000 in
theorem f_303_0 : fe 303 0 = some (.aload_n 0, 1, 12, some .int) := fe_of pg_303 rfl
set_option maxRecDepth 100000 in
theorem f_303_1 : fe 303 1 = some (.iconst 0, 1, 12, some .int) := fe_of pg_303 rfl
set_option maxRecDepth 100000 in
theorem f_303_2 : fe 303 2 = some (.putfield 109, 3, 12, some .int) := fe_of pg_303 rfl
set_option maxRecDepth 100000 in
theorem f_303_5 : fe 303 5 = some (.aload_n 0, 1, 12, some .int) := fe_of pg_303 rfl
set_option maxRecDepth 100000 in
theorem f_303_6 : fe 303 6 = some (.iload_n 1, 1, 12, some .int) := fe_of pg_303 rfl
set_option maxRecDepth 100000 in
theorem f_303_7 : fe 303 7 = some (.invokevirtual 306, 3, 12, some .int) := fe_of pg_303 rfl
set_option maxRecDepth 100000 in
theorem f_303_10 : fe 303 10 = some (.ifCond .eq 39, 3, 12, some .int) := fe_of pg_303 rfl
set_option maxRecDepth 100000 in
theorem f_303_13 : fe 303 13 = some (.iload_n 2, 1, 12, some .int) := fe_of pg_303 rfl
set_option maxRecDepth 100000 in
theorem f_303_14 : fe 303 14 = some (.iconst 0, 1, 12, some .int) := fe_of pg_303 rfl
set_option maxRecDepth 100000 in
theorem f_303_15 : fe 303 15 = some (.aload_n 0, 1, 12, some .int) := fe_of pg_303 rfl
set_option maxRecDepth 100000 in
theorem f_303_16 : fe 303 16 = some (.getfield 297, 3, 12, some .int) := fe_of pg_303 rfl
set_option maxRecDepth 100000 in
theorem f_303_19 : fe 303 19 = some (.invokestatic 121, 3, 12, some .int) := fe_of pg_303 rfl
set_option maxRecDepth 100000 in
theorem f_303_22 : fe 303 22 = some (.ifCond .eq 27, 3, 12, some .int) := fe_of pg_303 rfl
set_option maxRecDepth 100000 in
theorem f_303_25 : fe 303 25 = some (.iload_n 3, 1, 12, some .int) := fe_of pg_303 rfl
set_option maxRecDepth 100000 in
theorem f_303_26 : fe 303 26 = some (.iload_n 2, 1, 12, some .int) := fe_of pg_303 rfl
set_option maxRecDepth 100000 in
theorem f_303_27 : fe 303 27 = some (.iconst 1, 1, 12, some .int) := fe_of pg_303 rfl
set_option maxRecDepth 100000 in
theorem f_303_28 : fe 303 28 = some (.iadd, 1, 12, some .int) := fe_of pg_303 rfl
set_option maxRecDepth 100000 in
theorem f_303_29 : fe 303 29 = some (.aload_n 0, 1, 12, some .int) := fe_of pg_303 rfl
set_option maxRecDepth 100000 in
theorem f_303_30 : fe 303 30 = some (.getfield 297, 3, 12, some .int) := fe_of pg_303 rfl
set_option maxRecDepth 100000 in
theorem f_303_33 : fe 303 33 = some (.invokestatic 121, 3, 12, some .int) := fe_of pg_303 rfl
set_option maxRecDepth 100000 in
theorem f_303_36 : fe 303 36 = some (.ifCond .eq 13, 3, 12, some .int) := fe_of pg_303 rfl
set_option maxRecDepth 100000 in
theorem f_303_39 : fe 303 39 = some (.iload 4, 2, 12, some .int) := fe_of pg_303 rfl
set_option maxRecDepth 100000 in
theorem f_303_41 : fe 303 41 = some (.iconst 0, 1, 12, some .int) := fe_of pg_303 rfl
set_option maxRecDepth 100000 in
theorem f_303_42 : fe 303 42 = some (.iconst 2, 1, 12, some .int) := fe_of pg_303 rfl
set_option maxRecDepth 100000 in
theorem f_303_43 : fe 303 43 = some (.invokestatic 121, 3, 12, some .int) := fe_of pg_303 rfl
set_option maxRecDepth 100000 in
theorem f_303_46 : fe 303 46 = some (.ifCond .ne 5, 3, 12, some .int) := fe_of pg_303 rfl
set_option maxRecDepth 100000 in
theorem f_303_49 : fe 303 49 = some (.iconst (-1), 1, 12, some .int) := fe_of pg_303 rfl
set_option maxRecDepth 100000 in
theorem f_303_50 : fe 303 50 = some (.ireturn, 1, 12, some .int) := fe_of pg_303 rfl
set_option maxRecDepth 100000 in
theorem f_303_51 : fe 303 51 = some (.aload_n 0, 1, 12, some .int) := fe_of pg_303 rfl
set_option maxRecDepth 100000 in
theorem f_303_52 : fe 303 52 = some (.iload_n 2, 1, 12, some .int) := fe_of pg_303 rfl
set_option maxRecDepth 100000 in
theorem f_303_53 : fe 303 53 = some (.invokevirtual 530, 3, 12, some .int) := fe_of pg_303 rfl
set_option maxRecDepth 100000 in
theorem f_303_56 : fe 303 56 = some (.iload 4, 2, 12, some .int) := fe_of pg_303 rfl
set_option maxRecDepth 100000 in
theorem f_303_58 : fe 303 58 = some (.ifCond .ne 12, 3, 12, some .int) := fe_of pg_303 rfl
set_option maxRecDepth 100000 in
theorem f_303_61 : fe 303 61 = some (.aload_n 0, 1, 12, some .int) := fe_of pg_303 rfl
set_option maxRecDepth 100000 in
theorem f_303_62 : fe 303 62 = some (.getfield 90, 3, 12, some .int) := fe_of pg_303 rfl
set_option maxRecDepth 100000 in
theorem f_303_65 : fe 303 65 = some (.iload_n 3, 1, 12, some .int) := fe_of pg_303 rfl
set_option maxRecDepth 100000 in
theorem f_303_66 : fe 303 66 = some (.iaload, 1, 12, some .int) := fe_of pg_303 rfl
set_option maxRecDepth 100000 in
theorem f_303_67 : fe 303 67 = some (.goto 24, 3, 12, some .int) := fe_of pg_303 rfl
set_option maxRecDepth 100000 in
theorem f_303_70 : fe 303 70 = some (.iload 4, 2, 12, some .int) := fe_of pg_303 rfl
set_option maxRecDepth 100000 in
theorem f_303_72 : fe 303 72 = some (.iconst 1, 1, 12, some .int) := fe_of pg_303 rfl
set_option maxRecDepth 100000 in
theorem f_303_73 : fe 303 73 = some (.if_icmp .ne 12, 3, 12, some .int) := fe_of pg_303 rfl
set_option maxRecDepth 100000 in
theorem f_303_76 : fe 303 76 = some (.aload_n 0, 1, 12, some .int) := fe_of pg_303 rfl
set_option maxRecDepth 100000 in
theorem f_303_77 : fe 303 77 = some (.getfield 93, 3, 12, some .int) := fe_of pg_303 rfl
set_option maxRecDepth 100000 in
theorem f_303_80 : fe 303 80 = some (.iload_n 3, 1, 12, some .int) := fe_of pg_303 rfl
set_option maxRecDepth 100000 in
theorem f_303_81 : fe 303 81 = some (.iaload, 1, 12, some .int) := fe_of pg_303 rfl
set_option maxRecDepth 100000 in
theorem f_303_82 : fe 303 82 = some (.goto 9, 3, 12, some .int) := fe_of pg_303 rfl
set_option maxRecDepth 100000 in
theorem f_303_85 : fe 303 85 = some (.aload_n 0, 1, 12, some .int) := fe_of pg_303 rfl
set_option maxRecDepth 100000 in
theorem f_303_86 : fe 303 86 = some (.iload_n 2, 1, 12, some .int) := fe_of pg_303 rfl
set_option maxRecDepth 100000 in
theorem f_303_87 : fe 303 87 = some (.iload_n 3, 1, 12, some .int) := fe_of pg_303 rfl
set_option maxRecDepth 100000 in
theorem f_303_88 : fe 303 88 = some (.invokevirtual 533, 3, 12, some .int) := fe_of pg_303 rfl
set_option maxRecDepth 100000 in
theorem f_303_91 : fe 303 91 = some (.ireturn, 1, 12, some .int) := fe_of pg_303 rfl
set_option maxRecDepth 100000 in
theorem f_304_0 : fe 304 0 = some (.aload_n 0, 1, 12, some .int) := fe_of pg_304 rfl
set_option maxRecDepth 100000 in
theorem f_304_1 : fe 304 1 = some (.iconst 0, 1, 12, some .int) := fe_of pg_304 rfl
set_option maxRecDepth 100000 in
theorem f_304_2 : fe 304 2 = some (.putfield 109, 3, 12, some .int) := fe_of pg_304 rfl
set_option maxRecDepth 100000 in
theorem f_304_5 : fe 304 5 = some (.aload_n 0, 1, 12, some .int) := fe_of pg_304 rfl
set_option maxRecDepth 100000 in
theorem f_304_6 : fe 304 6 = some (.iload_n 1, 1, 12, some .int) := fe_of pg_304 rfl
set_option maxRecDepth 100000 in
theorem f_304_7 : fe 304 7 = some (.invokevirtual 306, 3, 12, some .int) := fe_of pg_304 rfl
set_option maxRecDepth 100000 in
theorem f_304_10 : fe 304 10 = some (.ifCond .ne 5, 3, 12, some .int) := fe_of pg_304 rfl
set_option maxRecDepth 100000 in
theorem f_304_13 : fe 304 13 = some (.iconst (-1), 1, 12, some .int) := fe_of pg_304 rfl
set_option maxRecDepth 100000 in
theorem f_304_14 : fe 304 14 = some (.ireturn, 1, 12, some .int) := fe_of pg_304 rfl
set_option maxRecDepth 100000 in
theorem f_304_15 : fe 304 15 = some (.iconst 0, 1, 12, some .int) := fe_of pg_304 rfl
set_option maxRecDepth 100000 in
theorem f_304_16 : fe 304 16 = some (.istore_n 3, 1, 12, some .int) := fe_of pg_304 rfl
set_option maxRecDepth 100000 in
theorem f_304_17 : fe 304 17 = some (.iload_n 3, 1, 12, some .int) := fe_of pg_304 rfl
set_option maxRecDepth 100000 in
theorem f_304_18 : fe 304 18 = some (.aload_n 0, 1, 12, some .int) := fe_of pg_304 rfl
set_option maxRecDepth 100000 in
theorem f_304_19 : fe 304 19 = some (.getfield 297, 3, 12, some .int) := fe_of pg_304 rfl
set_option maxRecDepth 100000 in
theorem f_304_22 : fe 304 22 = some (.if_icmp .ge 90, 3, 12, some .int) := fe_of pg_304 rfl
set_option maxRecDepth 100000 in
theorem f_304_25 : fe 304 25 = some (.iconst 0, 1, 12, some .int) := fe_of pg_304 rfl
set_option maxRecDepth 100000 in
theorem f_304_26 : fe 304 26 = some (.istore 4, 2, 12, some .int) := fe_of pg_304 rfl
set_option maxRecDepth 100000 in
theorem f_304_28 : fe 304 28 = some (.iconst 0, 1, 12, some .int) := fe_of pg_304 rfl
set_option maxRecDepth 100000 in
theorem f_304_29 : fe 304 29 = some (.istore 5, 2, 12, some .int) := fe_of pg_304 rfl
set_option maxRecDepth 100000 in
theorem f_304_31 : fe 304 31 = some (.iload 5, 2, 12, some .int) := fe_of pg_304 rfl
set_option maxRecDepth 100000 in
theorem f_304_33 : fe 304 33 = some (.aload_n 0, 1, 12, some .int) := fe_of pg_304 rfl
set_option maxRecDepth 100000 in
theorem f_304_34 : fe 304 34 = some (.getfield 297, 3, 12, some .int) := fe_of pg_304 rfl
set_option maxRecDepth 100000 in
theorem f_304_37 : fe 304 37 = some (.if_icmp .ge 61, 3, 12, some .int) := fe_of pg_304 rfl
set_option maxRecDepth 100000 in
theorem f_304_40 : fe 304 40 = some (.iload 4, 2, 12, some .int) := fe_of pg_304 rfl
set_option maxRecDepth 100000 in
theorem f_304_42 : fe 304 42 = some (.aload_n 0, 1, 12, some .int) := fe_of pg_304 rfl
set_option maxRecDepth 100000 in
theorem f_304_43 : fe 304 43 = some (.iconst 3, 1, 12, some .int) := fe_of pg_304 rfl
set_option maxRecDepth 100000 in
theorem f_304_44 : fe 304 44 = some (.iload 5, 2, 12, some .int) := fe_of pg_304 rfl
set_option maxRecDepth 100000 in
theorem f_304_46 : fe 304 46 = some (.iadd, 1, 12, some .int) := fe_of pg_304 rfl
set_option maxRecDepth 100000 in
theorem f_304_47 : fe 304 47 = some (.invokevirtual 293, 3, 12, some .int) := fe_of pg_304 rfl
set_option maxRecDepth 100000 in
theorem f_304_50 : fe 304 50 = some (.aload_n 0, 1, 12, some .int) := fe_of pg_304 rfl
set_option maxRecDepth 100000 in
theorem f_304_51 : fe 304 51 = some (.iconst 3, 1, 12, some .int) := fe_of pg_304 rfl
set_option maxRecDepth 100000 in
theorem f_304_52 : fe 304 52 = some (.iload_n 3, 1, 12, some .int) := fe_of pg_304 rfl
set_option maxRecDepth 100000 in
theorem f_304_53 : fe 304 53 = some (.iadd, 1, 12, some .int) := fe_of pg_304 rfl
set_option maxRecDepth 100000 in
theorem f_304_54 : fe 304 54 = some (.invokevirtual 293, 3, 12, some .int) := fe_of pg_304 rfl
set_option maxRecDepth 100000 in
theorem f_304_57 : fe 304 57 = some (.if_icmp .gt 27, 3, 12, some .int) := fe_of pg_304 rfl
set_option maxRecDepth 100000 in
theorem f_304_60 : fe 304 60 = some (.aload_n 0, 1, 12, some .int) := fe_of pg_304 rfl
set_option maxRecDepth 100000 in
theorem f_304_61 : fe 304 61 = some (.iconst 3, 1, 12, some .int) := fe_of pg_304 rfl
set_option maxRecDepth 100000 in
theorem f_304_62 : fe 304 62 = some (.iload 5, 2, 12, some .int) := fe_of pg_304 rfl
set_option maxRecDepth 100000 in
theorem f_304_64 : fe 304 64 = some (.iadd, 1, 12, some .int) := fe_of pg_304 rfl
set_option maxRecDepth 100000 in
theorem f_304_65 : fe 304 65 = some (.invokevirtual 293, 3, 12, some .int) := fe_of pg_304 rfl
set_option maxRecDepth 100000 in
theorem f_304_68 : fe 304 68 = some (.aload_n 0, 1, 12, some .int) := fe_of pg_304 rfl
set_option maxRecDepth 100000 in
theorem f_304_69 : fe 304 69 = some (.iconst 3, 1, 12, some .int) := fe_of pg_304 rfl
set_option maxRecDepth 100000 in
theorem f_304_70 : fe 304 70 = some (.iload_n 3, 1, 12, some .int) := fe_of pg_304 rfl
set_option maxRecDepth 100000 in
theorem f_304_71 : fe 304 71 = some (.iadd, 1, 12, some .int) := fe_of pg_304 rfl
set_option maxRecDepth 100000 in
theorem f_304_72 : fe 304 72 = some (.invokevirtual 293, 3, 12, some .int) := fe_of pg_304 rfl
set_option maxRecDepth 100000 in
theorem f_304_75 : fe 304 75 = some (.if_icmp .ne 13, 3, 12, some .int) := fe_of pg_304 rfl
set_option maxRecDepth 100000 in
theorem f_304_78 : fe 304 78 = some (.iload 5, 2, 12, some .int) := fe_of pg_304 rfl
set_option maxRecDepth 100000 in
theorem f_304_80 : fe 304 80 = some (.iload_n 3, 1, 12, some .int) := fe_of pg_304 rfl
set_option maxRecDepth 100000 in
theorem f_304_81 : fe 304 81 = some (.if_icmp .ge 7, 3, 12, some .int) := fe_of pg_304 rfl
set_option maxRecDepth 100000 in
theorem f_304_84 : fe 304 84 = some (.iconst 1, 1, 12, some .int) := fe_of pg_304 rfl
set_option maxRecDepth 100000 in
theorem f_304_85 : fe 304 85 = some (.goto 4, 3, 12, some .int) := fe_of pg_304 rfl
set_option maxRecDepth 100000 in
theorem f_304_88 : fe 304 88 = some (.iconst 0, 1, 12, some .int) := fe_of pg_304 rfl
set_option maxRecDepth 100000 in
theorem f_304_89 : fe 304 89 = some (.iadd, 1, 12, some .int) := fe_of pg_304 rfl
set_option maxRecDepth 100000 in
theorem f_304_90 : fe 304 90 = some (.istore 4, 2, 12, some .int) := fe_of pg_304 rfl
set_option maxRecDepth 100000 in
theorem f_304_92 : fe 304 92 = some (.iinc 5 1, 3, 12, some .int) := fe_of pg_304 rfl
set_option maxRecDepth 100000 in
theorem f_304_95 : fe 304 95 = some (.goto (-64), 3, 12, some .int) := fe_of pg_304 rfl
set_option maxRecDepth 100000 in
theorem f_304_98 : fe 304 98 = some (.iload 4, 2, 12, some .int) := fe_of pg_304 rfl
set_option maxRecDepth 100000 in
theorem f_304_100 : fe 304 100 = some (.iload_n 2, 1, 12, some .int) := fe_of pg_304 rfl
set_option maxRecDepth 100000 in
theorem f_304_101 : fe 304 101 = some (.if_icmp .ne 5, 3, 12, some .int) := fe_of pg_304 rfl
set_option maxRecDepth 100000 in
theorem f_304_104 : fe 304 104 = some (.iload_n 3, 1, 12, some .int) := fe_of pg_304 rfl
set_option maxRecDepth 100000 in
theorem f_304_105 : fe 304 105 = some (.ireturn, 1, 12, some .int) := fe_of pg_304 rfl
set_option maxRecDepth 100000 in
theorem f_304_106 : fe 304 106 = some (.iinc 3 1, 3, 12, some .int) := fe_of pg_304 rfl
set_option maxRecDepth 100000 in
theorem f_304_109 : fe 304 109 = some (.goto (-92), 3, 12, some .int) := fe_of pg_304 rfl
set_option maxRecDepth 100000 in
theorem f_304_112 : fe 304 112 = some (.iconst (-1), 1, 12, some .int) := fe_of pg_304 rfl
set_option maxRecDepth 100000 in
theorem f_304_113 : fe 304 113 = some (.ireturn, 1, 12, some .int) := fe_of pg_304 rfl
set_option maxRecDepth 100000 in
theorem f_305_0 : fe 305 0 = some (.aload_n 0, 1, 12, some .int) := fe_of pg_305 rfl
set_option maxRecDepth 100000 in
theorem f_305_1 : fe 305 1 = some (.aload_n 0, 1, 12, some .int) := fe_of pg_305 rfl
set_option maxRecDepth 100000 in
theorem f_305_2 : fe 305 2 = some (.getfield 536, 3, 12, some .int) := fe_of pg_305 rfl
set_option maxRecDepth 100000 in
theorem f_305_5 : fe 305 5 = some (.ldc_w 539, 3, 12, some .int) := fe_of pg_305 rfl
set_option maxRecDepth 100000 in
theorem f_305_8 : fe 305 8 = some (.imul, 1, 12, some .int) := fe_of pg_305 rfl
set_option maxRecDepth 100000 in
theorem f_305_9 : fe 305 9 = some (.sipush 12345, 3, 12, some .int) := fe_of pg_305 rfl
set_option maxRecDepth 100000 in
theorem f_305_12 : fe 305 12 = some (.iadd, 1, 12, some .int) := fe_of pg_305 rfl
set_option maxRecDepth 100000 in
theorem f_305_13 : fe 305 13 = some (.putfield 536, 3, 12, some .int) := fe_of pg_305 rfl
set_option maxRecDepth 100000 in
theorem f_305_16 : fe 305 16 = some (.aload_n 0, 1, 12, some .int) := fe_of pg_305 rfl
set_option maxRecDepth 100000 in
theorem f_305_17 : fe 305 17 = some (.getfield 536, 3, 12, some .int) := fe_of pg_305 rfl
set_option maxRecDepth 100000 in
theorem f_305_20 : fe 305 20 = some (.bipush 16, 2, 12, some .int) := fe_of pg_305 rfl
set_option maxRecDepth 100000 in
theorem f_305_22 : fe 305 22 = some (.iushr, 1, 12, some .int) := fe_of pg_305 rfl
set_option maxRecDepth 100000 in
theorem f_305_23 : fe 305 23 = some (.iload_n 1, 1, 12, some .int) := fe_of pg_305 rfl
set_option maxRecDepth 100000 in
theorem f_305_24 : fe 305 24 = some (.irem, 1, 12, some .int) := fe_of pg_305 rfl
set_option maxRecDepth 100000 in
theorem f_305_25 : fe 305 25 = some (.ireturn, 1, 12, some .int) := fe_of pg_305 rfl
set_option maxRecDepth 100000 in
theorem f_306_0 : fe 306 0 = some (.iconst 0, 1, 12, some .int) := fe_of pg_306 rfl
set_option maxRecDepth 100000 in
theorem f_306_1 : fe 306 1 = some (.istore_n 1, 1, 12, some .int) := fe_of pg_306 rfl
set_option maxRecDepth 100000 in
theorem f_306_2 : fe 306 2 = some (.iload_n 1, 1, 12, some .int) := fe_of pg_306 rfl
set_option maxRecDepth 100000 in
theorem f_306_3 : fe 306 3 = some (.aload_n 0, 1, 12, some .int) := fe_of pg_306 rfl
set_option maxRecDepth 100000 in
theorem f_306_4 : fe 306 4 = some (.getfield 300, 3, 12, some .int) := fe_of pg_306 rfl
set_option maxRecDepth 100000 in
theorem f_306_7 : fe 306 7 = some (.if_icmp .ge 21, 3, 12, some .int) := fe_of pg_306 rfl
set_option maxRecDepth 100000 in
theorem f_306_10 : fe 306 10 = some (.aload_n 0, 1, 12, some .int) := fe_of pg_306 rfl
set_option maxRecDepth 100000 in
theorem f_306_11 : fe 306 11 = some (.getfield 50, 3, 12, some .int) := fe_of pg_306 rfl
set_option maxRecDepth 100000 in
theorem f_306_14 : fe 306 14 = some (.iload_n 1, 1, 12, some .int) := fe_of pg_306 rfl
set_option maxRecDepth 100000 in
theorem f_306_15 : fe 306 15 = some (.iaload, 1, 12, some .int) := fe_of pg_306 rfl
set_option maxRecDepth 100000 in
theorem f_306_16 : fe 306 16 = some (.iconst (-1), 1, 12, some .int) := fe_of pg_306 rfl
set_option maxRecDepth 100000 in
theorem f_306_17 : fe 306 17 = some (.if_icmp .ne 5, 3, 12, some .int) := fe_of pg_306 rfl
set_option maxRecDepth 100000 in
theorem f_306_20 : fe 306 20 = some (.iload_n 1, 1, 12, some .int) := fe_of pg_306 rfl
set_option maxRecDepth 100000 in
theorem f_306_21 : fe 306 21 = some (.ireturn, 1, 12, some .int) := fe_of pg_306 rfl
set_option maxRecDepth 100000 in
theorem f_306_22 : fe 306 22 = some (.iinc 1 1, 3, 12, some .int) := fe_of pg_306 rfl
set_option maxRecDepth 100000 in
theorem f_306_25 : fe 306 25 = some (.goto (-23), 3, 12, some .int) := fe_of pg_306 rfl
set_option maxRecDepth 100000 in
theorem f_306_28 : fe 306 28 = some (.iconst (-1), 1, 12, some .int) := fe_of pg_306 rfl
set_option maxRecDepth 100000 in
theorem f_306_29 : fe 306 29 = some (.ireturn, 1, 12, some .int) := fe_of pg_306 rfl
set_option maxRecDepth 100000 in
theorem f_307_0 : fe 307 0 = some (.aload_n 0, 1, 12, none) := fe_of pg_307 rfl
set_option maxRecDepth 100000 in
theorem f_307_1 : fe 307 1 = some (.bipush 8, 2, 12, none) := fe_of pg_307 rfl
set_option maxRecDepth 100000 in
theorem f_307_3 : fe 307 3 = some (.invokevirtual 540, 3, 12, none) := fe_of pg_307 rfl
set_option maxRecDepth 100000 in
theorem f_307_6 : fe 307 6 = some (.istore_n 1, 1, 12, none) := fe_of pg_307 rfl
set_option maxRecDepth 100000 in
theorem f_307_7 : fe 307 7 = some (.iload_n 1, 1, 12, none) := fe_of pg_307 rfl
set_option maxRecDepth 100000 in
theorem f_307_8 : fe 307 8 = some (.iconst 4, 1, 12, none) := fe_of pg_307 rfl
set_option maxRecDepth 100000 in
theorem f_307_9 : fe 307 9 = some (.if_icmp .ge 39, 3, 12, none) := fe_of pg_307 rfl
set_option maxRecDepth 100000 in
theorem f_307_12 : fe 307 12 = some (.aload_n 0, 1, 12, none) := fe_of pg_307 rfl
set_option maxRecDepth 100000 in
theorem f_307_13 : fe 307 13 = some (.aload_n 0, 1, 12, none) := fe_of pg_307 rfl
set_option maxRecDepth 100000 in
theorem f_307_14 : fe 307 14 = some (.getfield 303, 3, 12, none) := fe_of pg_307 rfl
set_option maxRecDepth 100000 in
theorem f_307_17 : fe 307 17 = some (.invokevirtual 540, 3, 12, none) := fe_of pg_307 rfl
set_option maxRecDepth 100000 in
theorem f_307_20 : fe 307 20 = some (.istore_n 2, 1, 12, none) := fe_of pg_307 rfl
set_option maxRecDepth 100000 in
theorem f_307_21 : fe 307 21 = some (.iload_n 1, 1, 12, none) := fe_of pg_307 rfl
set_option maxRecDepth 100000 in
theorem f_307_22 : fe 307 22 = some (.iconst 3, 1, 12, none) := fe_of pg_307 rfl
set_option maxRecDepth 100000 in
theorem f_307_23 : fe 307 23 = some (.if_icmp .ge 16, 3, 12, none) := fe_of pg_307 rfl
set_option maxRecDepth 100000 in
theorem f_307_26 : fe 307 26 = some (.aload_n 0, 1, 12, none) := fe_of pg_307 rfl
set_option maxRecDepth 100000 in
theorem f_307_27 : fe 307 27 = some (.iload_n 2, 1, 12, none) := fe_of pg_307 rfl
set_option maxRecDepth 100000 in
theorem f_307_28 : fe 307 28 = some (.aload_n 0, 1, 12, none) := fe_of pg_307 rfl
set_option maxRecDepth 100000 in
theorem f_307_29 : fe 307 29 = some (.invokevirtual 543, 3, 12, none) := fe_of pg_307 rfl
set_option maxRecDepth 100000 in
theorem f_307_32 : fe 307 32 = some (.invokevirtual 358, 3, 12, none) := fe_of pg_307 rfl
set_option maxRecDepth 100000 in
theorem f_307_35 : fe 307 35 = some (.pop, 1, 12, none) := fe_of pg_307 rfl
set_option maxRecDepth 100000 in
theorem f_307_36 : fe 307 36 = some (.goto 9, 3, 12, none) := fe_of pg_307 rfl
set_option maxRecDepth 100000 in
theorem f_307_39 : fe 307 39 = some (.aload_n 0, 1, 12, none) := fe_of pg_307 rfl
set_option maxRecDepth 100000 in
theorem f_307_40 : fe 307 40 = some (.iload_n 2, 1, 12, none) := fe_of pg_307 rfl
set_option maxRecDepth 100000 in
theorem f_307_41 : fe 307 41 = some (.invokevirtual 361, 3, 12, none) := fe_of pg_307 rfl
set_option maxRecDepth 100000 in
theorem f_307_44 : fe 307 44 = some (.pop, 1, 12, none) := fe_of pg_307 rfl
set_option maxRecDepth 100000 in
theorem f_307_45 : fe 307 45 = some (.goto 27, 3, 12, none) := fe_of pg_307 rfl
set_option maxRecDepth 100000 in
theorem f_307_48 : fe 307 48 = some (.iload_n 1, 1, 12, none) := fe_of pg_307 rfl
set_option maxRecDepth 100000 in
theorem f_307_49 : fe 307 49 = some (.iconst 4, 1, 12, none) := fe_of pg_307 rfl
set_option maxRecDepth 100000 in
theorem f_307_50 : fe 307 50 = some (.if_icmp .ne 10, 3, 12, none) := fe_of pg_307 rfl
set_option maxRecDepth 100000 in
theorem f_307_53 : fe 307 53 = some (.aload_n 0, 1, 12, none) := fe_of pg_307 rfl
set_option maxRecDepth 100000 in
theorem f_307_54 : fe 307 54 = some (.invokevirtual 370, 3, 12, none) := fe_of pg_307 rfl
set_option maxRecDepth 100000 in
theorem f_307_57 : fe 307 57 = some (.goto 15, 3, 12, none) := fe_of pg_307 rfl
set_option maxRecDepth 100000 in
theorem f_307_60 : fe 307 60 = some (.aload_n 0, 1, 12, none) := fe_of pg_307 rfl
set_option maxRecDepth 100000 in
theorem f_307_61 : fe 307 61 = some (.invokevirtual 367, 3, 12, none) := fe_of pg_307 rfl
set_option maxRecDepth 100000 in
theorem f_307_64 : fe 307 64 = some (.ifCond .ne 8, 3, 12, none) := fe_of pg_307 rfl
set_option maxRecDepth 100000 in
theorem f_307_67 : fe 307 67 = some (.aload_n 0, 1, 12, none) := fe_of pg_307 rfl
set_option maxRecDepth 100000 in
theorem f_307_68 : fe 307 68 = some (.invokevirtual 373, 3, 12, none) := fe_of pg_307 rfl
set_option maxRecDepth 100000 in
theorem f_307_71 : fe 307 71 = some (.pop, 1, 12, none) := fe_of pg_307 rfl
set_option maxRecDepth 100000 in
theorem f_307_72 : fe 307 72 = some (.return_, 1, 12, none) := fe_of pg_307 rfl
set_option maxRecDepth 100000 in
theorem f_308_0 : fe 308 0 = some (.aload_n 0, 1, 12, some .int) := fe_of pg_308 rfl
set_option maxRecDepth 100000 in
theorem f_308_1 : fe 308 1 = some (.iconst 0, 1, 12, some .int) := fe_of pg_308 rfl
set_option maxRecDepth 100000 in
theorem f_308_2 : fe 308 2 = some (.putfield 109, 3, 12, some .int) := fe_of pg_308 rfl
set_option maxRecDepth 100000 in
theorem f_308_5 : fe 308 5 = some (.iload_n 3, 1, 12, some .int) := fe_of pg_308 rfl
set_option maxRecDepth 100000 in
theorem f_308_6 : fe 308 6 = some (.iconst 0, 1, 12, some .int) := fe_of pg_308 rfl
set_option maxRecDepth 100000 in
theorem f_308_7 : fe 308 7 = some (.bipush 60, 2, 12, some .int) := fe_of pg_308 rfl
set_option maxRecDepth 100000 in
theorem f_308_9 : fe 308 9 = some (.invokestatic 121, 3, 12, some .int) := fe_of pg_308 rfl
set_option maxRecDepth 100000 in
theorem f_308_12 : fe 308 12 = some (.ifCond .eq 18, 3, 12, some .int) := fe_of pg_308 rfl
set_option maxRecDepth 100000 in
theorem f_308_15 : fe 308 15 = some (.aload_n 0, 1, 12, some .int) := fe_of pg_308 rfl
set_option maxRecDepth 100000 in
theorem f_308_16 : fe 308 16 = some (.iload_n 1, 1, 12, some .int) := fe_of pg_308 rfl
set_option maxRecDepth 100000 in
theorem f_308_17 : fe 308 17 = some (.invokevirtual 306, 3, 12, some .int) := fe_of pg_308 rfl
set_option maxRecDepth 100000 in
theorem f_308_20 : fe 308 20 = some (.ifCond .eq 10, 3, 12, some .int) := fe_of pg_308 rfl
set_option maxRecDepth 100000 in
theorem f_308_23 : fe 308 23 = some (.aload_n 0, 1, 12, some .int) := fe_of pg_308 rfl
set_option maxRecDepth 100000 in
theorem f_308_24 : fe 308 24 = some (.getfield 303, 3, 12, some .int) := fe_of pg_308 rfl
set_option maxRecDepth 100000 in
theorem f_308_27 : fe 308 27 = some (.ifCond .ne 6, 3, 12, some .int) := fe_of pg_308 rfl
set_option maxRecDepth 100000 in
theorem f_308_30 : fe 308 30 = some (.bipush (-2), 2, 12, some .int) := fe_of pg_308 rfl
set_option maxRecDepth 100000 in
theorem f_308_32 : fe 308 32 = some (.ireturn, 1, 12, some .int) := fe_of pg_308 rfl
set_option maxRecDepth 100000 in
theorem f_308_33 : fe 308 33 = some (.aload_n 0, 1, 12, some .int) := fe_of pg_308 rfl
set_option maxRecDepth 100000 in
theorem f_308_34 : fe 308 34 = some (.iload_n 2, 1, 12, some .int) := fe_of pg_308 rfl
set_option maxRecDepth 100000 in
theorem f_308_35 : fe 308 35 = some (.putfield 536, 3, 12, some .int) := fe_of pg_308 rfl
set_option maxRecDepth 100000 in
theorem f_308_38 : fe 308 38 = some (.aload_n 0, 1, 12, some .int) := fe_of pg_308 rfl
set_option maxRecDepth 100000 in
theorem f_308_39 : fe 308 39 = some (.invokevirtual 376, 3, 12, some .int) := fe_of pg_308 rfl
set_option maxRecDepth 100000 in
theorem f_308_42 : fe 308 42 = some (.iconst 0, 1, 12, some .int) := fe_of pg_308 rfl
set_option maxRecDepth 100000 in
theorem f_308_43 : fe 308 43 = some (.istore 5, 2, 12, some .int) := fe_of pg_308 rfl
set_option maxRecDepth 100000 in
theorem f_308_45 : fe 308 45 = some (.iload 5, 2, 12, some .int) := fe_of pg_308 rfl
set_option maxRecDepth 100000 in
theorem f_308_47 : fe 308 47 = some (.iload_n 3, 1, 12, some .int) := fe_of pg_308 rfl
set_option maxRecDepth 100000 in
theorem f_308_48 : fe 308 48 = some (.if_icmp .ge 13, 3, 12, some .int) := fe_of pg_308 rfl
set_option maxRecDepth 100000 in
theorem f_308_51 : fe 308 51 = some (.aload_n 0, 1, 12, some .int) := fe_of pg_308 rfl
set_option maxRecDepth 100000 in
theorem f_308_52 : fe 308 52 = some (.invokevirtual 546, 3, 12, some .int) := fe_of pg_308 rfl
set_option maxRecDepth 100000 in
theorem f_308_55 : fe 308 55 = some (.iinc 5 1, 3, 12, some .int) := fe_of pg_308 rfl
set_option maxRecDepth 100000 in
theorem f_308_58 : fe 308 58 = some (.goto (-13), 3, 12, some .int) := fe_of pg_308 rfl
set_option maxRecDepth 100000 in
theorem f_308_61 : fe 308 61 = some (.aload_n 0, 1, 12, some .int) := fe_of pg_308 rfl
set_option maxRecDepth 100000 in
theorem f_308_62 : fe 308 62 = some (.iload 4, 2, 12, some .int) := fe_of pg_308 rfl
set_option maxRecDepth 100000 in
theorem f_308_64 : fe 308 64 = some (.invokevirtual 388, 3, 12, some .int) := fe_of pg_308 rfl
set_option maxRecDepth 100000 in
theorem f_308_67 : fe 308 67 = some (.ireturn, 1, 12, some .int) := fe_of pg_308 rfl
set_option maxRecDepth 100000 in
theorem f_309_0 : fe 309 0 = some (.aload_n 0, 1, 12, some .int) := fe_of pg_309 rfl
set_option maxRecDepth 100000 in
theorem f_309_1 : fe 309 1 = some (.iconst 0, 1, 12, some .int) := fe_of pg_309 rfl
set_option maxRecDepth 100000 in
theorem f_309_2 : fe 309 2 = some (.putfield 109, 3, 12, some .int) := fe_of pg_309 rfl
set_option maxRecDepth 100000 in
theorem f_309_5 : fe 309 5 = some (.aload_n 0, 1, 12, some .int) := fe_of pg_309 rfl
set_option maxRecDepth 100000 in
theorem f_309_6 : fe 309 6 = some (.iload_n 1, 1, 12, some .int) := fe_of pg_309 rfl
set_option maxRecDepth 100000 in
theorem f_309_7 : fe 309 7 = some (.iload_n 2, 1, 12, some .int) := fe_of pg_309 rfl
set_option maxRecDepth 100000 in
theorem f_309_8 : fe 309 8 = some (.invokevirtual 433, 3, 12, some .int) := fe_of pg_309 rfl
set_option maxRecDepth 100000 in
theorem f_309_11 : fe 309 11 = some (.ifCond .ne 5, 3, 12, some .int) := fe_of pg_309 rfl
set_option maxRecDepth 100000 in
theorem f_309_14 : fe 309 14 = some (.iconst (-1), 1, 12, some .int) := fe_of pg_309 rfl
set_option maxRecDepth 100000 in
theorem f_309_15 : fe 309 15 = some (.ireturn, 1, 12, some .int) := fe_of pg_309 rfl
set_option maxRecDepth 100000 in
theorem f_309_16 : fe 309 16 = some (.iconst 0, 1, 12, some .int) := fe_of pg_309 rfl
set_option maxRecDepth 100000 in
theorem f_309_17 : fe 309 17 = some (.istore_n 3, 1, 12, some .int) := fe_of pg_309 rfl
set_option maxRecDepth 100000 in
theorem f_309_18 : fe 309 18 = some (.iload_n 3, 1, 12, some .int) := fe_of pg_309 rfl
set_option maxRecDepth 100000 in
theorem f_309_19 : fe 309 19 = some (.bipush 99, 2, 12, some .int) := fe_of pg_309 rfl
set_option maxRecDepth 100000 in
theorem f_309_21 : fe 309 21 = some (.if_icmp .gt 20, 3, 12, some .int) := fe_of pg_309 rfl
set_option maxRecDepth 100000 in
theorem f_309_24 : fe 309 24 = some (.aload_n 0, 1, 12, some .int) := fe_of pg_309 rfl
set_option maxRecDepth 100000 in
theorem f_309_25 : fe 309 25 = some (.iload_n 2, 1, 12, some .int) := fe_of pg_309 rfl
set_option maxRecDepth 100000 in
theorem f_309_26 : fe 309 26 = some (.iload_n 3, 1, 12, some .int) := fe_of pg_309 rfl
set_option maxRecDepth 100000 in
theorem f_309_27 : fe 309 27 = some (.invokevirtual 412, 3, 12, some .int) := fe_of pg_309 rfl
set_option maxRecDepth 100000 in
theorem f_309_30 : fe 309 30 = some (.ifCond .eq 5, 3, 12, some .int) := fe_of pg_309 rfl
set_option maxRecDepth 100000 in
theorem f_309_33 : fe 309 33 = some (.iload_n 3, 1, 12, some .int) := fe_of pg_309 rfl
set_option maxRecDepth 100000 in
theorem f_309_34 : fe 309 34 = some (.ireturn, 1, 12, some .int) := fe_of pg_309 rfl
set_option maxRecDepth 100000 in
theorem f_309_35 : fe 309 35 = some (.iinc 3 1, 3, 12, some .int) := fe_of pg_309 rfl
set_option maxRecDepth 100000 in
theorem f_309_38 : fe 309 38 = some (.goto (-20), 3, 12, some .int) := fe_of pg_309 rfl
set_option maxRecDepth 100000 in
theorem f_309_41 : fe 309 41 = some (.iconst (-1), 1, 12, some .int) := fe_of pg_309 rfl
set_option maxRecDepth 100000 in
theorem f_309_42 : fe 309 42 = some (.ireturn, 1, 12, some .int) := fe_of pg_309 rfl
set_option maxRecDepth 100000 in
theorem f_310_0 : fe 310 0 = some (.aload_n 0, 1, 12, some .int) := fe_of pg_310 rfl
set_option maxRecDepth 100000 in
theorem f_310_1 : fe 310 1 = some (.iconst 0, 1, 12, some .int) := fe_of pg_310 rfl
set_option maxRecDepth 100000 in
theorem f_310_2 : fe 310 2 = some (.putfield 109, 3, 12, some .int) := fe_of pg_310 rfl
set_option maxRecDepth 100000 in
theorem f_310_5 : fe 310 5 = some (.aload_n 0, 1, 12, some .int) := fe_of pg_310 rfl
set_option maxRecDepth 100000 in
theorem f_310_6 : fe 310 6 = some (.iload_n 1, 1, 12, some .int) := fe_of pg_310 rfl
set_option maxRecDepth 100000 in
theorem f_310_7 : fe 310 7 = some (.invokevirtual 306, 3, 12, some .int) := fe_of pg_310 rfl
set_option maxRecDepth 100000 in
theorem f_310_10 : fe 310 10 = some (.ifCond .eq 38, 3, 12, some .int) := fe_of pg_310 rfl
set_option maxRecDepth 100000 in
theorem f_310_13 : fe 310 13 = some (.aload_n 0, 1, 12, some .int) := fe_of pg_310 rfl
set_option maxRecDepth 100000 in
theorem f_310_14 : fe 310 14 = some (.iload_n 2, 1, 12, some .int) := fe_of pg_310 rfl
set_option maxRecDepth 100000 in
theorem f_310_15 : fe 310 15 = some (.invokevirtual 400, 3, 12, some .int) := fe_of pg_310 rfl
set_option maxRecDepth 100000 in
theorem f_310_18 : fe 310 18 = some (.ifCond .eq 30, 3, 12, some .int) := fe_of pg_310 rfl
set_option maxRecDepth 100000 in
theorem f_310_21 : fe 310 21 = some (.iload_n 3, 1, 12, some .int) := fe_of pg_310 rfl
set_option maxRecDepth 100000 in
theorem f_310_22 : fe 310 22 = some (.iconst (-1), 1, 12, some .int) := fe_of pg_310 rfl
set_option maxRecDepth 100000 in
theorem f_310_23 : fe 310 23 = some (.if_icmp .eq 28, 3, 12, some .int) := fe_of pg_310 rfl
set_option maxRecDepth 100000 in
theorem f_310_26 : fe 310 26 = some (.iload_n 3, 1, 12, some .int) := fe_of pg_310 rfl
set_option maxRecDepth 100000 in
theorem f_310_27 : fe 310 27 = some (.iconst 0, 1, 12, some .int) := fe_of pg_310 rfl
set_option maxRecDepth 100000 in
theorem f_310_28 : fe 310 28 = some (.aload_n 0, 1, 12, some .int) := fe_of pg_310 rfl
set_option maxRecDepth 100000 in
theorem f_310_29 : fe 310 29 = some (.getfield 303, 3, 12, some .int) := fe_of pg_310 rfl
set_option maxRecDepth 100000 in
theorem f_310_32 : fe 310 32 = some (.iconst 1, 1, 12, some .int) := fe_of pg_310 rfl
set_option maxRecDepth 100000 in
theorem f_310_33 : fe 310 33 = some (.isub, 1, 12, some .int) := fe_of pg_310 rfl
set_option maxRecDepth 100000 in
theorem f_310_34 : fe 310 34 = some (.invokestatic 121, 3, 12, some .int) := fe_of pg_310 rfl
set_option maxRecDepth 100000 in
theorem f_310_37 : fe 310 37 = some (.ifCond .eq 11, 3, 12, some .int) := fe_of pg_310 rfl
set_option maxRecDepth 100000 in
theorem f_310_40 : fe 310 40 = some (.iload_n 2, 1, 12, some .int) := fe_of pg_310 rfl
set_option maxRecDepth 100000 in
theorem f_310_41 : fe 310 41 = some (.iload_n 3, 1, 12, some .int) := fe_of pg_310 rfl
set_option maxRecDepth 100000 in
theorem f_310_42 : fe 310 42 = some (.invokestatic 113, 3, 12, some .int) := fe_of pg_310 rfl
set_option maxRecDepth 100000 in
theorem f_310_45 : fe 310 45 = some (.ifCond .ne 6, 3, 12, some .int) := fe_of pg_310 rfl
set_option maxRecDepth 100000 in
theorem f_310_48 : fe 310 48 = some (.bipush (-2), 2, 12, some .int) := fe_of pg_310 rfl
set_option maxRecDepth 100000 in
theorem f_310_50 : fe 310 50 = some (.ireturn, 1, 12, some .int) := fe_of pg_310 rfl
set_option maxRecDepth 100000 in
theorem f_310_51 : fe 310 51 = some (.aload_n 0, 1, 12, some .int) := fe_of pg_310 rfl
set_option maxRecDepth 100000 in
theorem f_310_52 : fe 310 52 = some (.iconst 0, 1, 12, some .int) := fe_of pg_310 rfl
set_option maxRecDepth 100000 in
theorem f_310_53 : fe 310 53 = some (.invokevirtual 403, 3, 12, some .int) := fe_of pg_310 rfl
set_option maxRecDepth 100000 in
theorem f_310_56 : fe 310 56 = some (.aload_n 0, 1, 12, some .int) := fe_of pg_310 rfl
set_option maxRecDepth 100000 in
theorem f_310_57 : fe 310 57 = some (.iload_n 2, 1, 12, some .int) := fe_of pg_310 rfl
set_option maxRecDepth 100000 in
theorem f_310_58 : fe 310 58 = some (.iconst 0, 1, 12, some .int) := fe_of pg_310 rfl
set_option maxRecDepth 100000 in
theorem f_310_59 : fe 310 59 = some (.invokevirtual 406, 3, 12, some .int) := fe_of pg_310 rfl
set_option maxRecDepth 100000 in
theorem f_310_62 : fe 310 62 = some (.pop, 1, 12, some .int) := fe_of pg_310 rfl
set_option maxRecDepth 100000 in
theorem f_310_63 : fe 310 63 = some (.iload_n 3, 1, 12, some .int) := fe_of pg_310 rfl
set_option maxRecDepth 100000 in
theorem f_310_64 : fe 310 64 = some (.iconst (-1), 1, 12, some .int) := fe_of pg_310 rfl
set_option maxRecDepth 100000 in
theorem f_310_65 : fe 310 65 = some (.if_icmp .eq 10, 3, 12, some .int) := fe_of pg_310 rfl
set_option maxRecDepth 100000 in
theorem f_310_68 : fe 310 68 = some (.aload_n 0, 1, 12, some .int) := fe_of pg_310 rfl
set_option maxRecDepth 100000 in
theorem f_310_69 : fe 310 69 = some (.getfield 44, 3, 12, some .int) := fe_of pg_310 rfl
set_option maxRecDepth 100000 in
theorem f_310_72 : fe 310 72 = some (.iload_n 3, 1, 12, some .int) := fe_of pg_310 rfl
set_option maxRecDepth 100000 in
theorem f_310_73 : fe 310 73 = some (.iaload, 1, 12, some .int) := fe_of pg_310 rfl
set_option maxRecDepth 100000 in
theorem f_310_74 : fe 310 74 = some (.ireturn, 1, 12, some .int) := fe_of pg_310 rfl
set_option maxRecDepth 100000 in
theorem f_310_75 : fe 310 75 = some (.iconst (-1), 1, 12, some .int) := fe_of pg_310 rfl
set_option maxRecDepth 100000 in
theorem f_310_76 : fe 310 76 = some (.istore 4, 2, 12, some .int) := fe_of pg_310 rfl
set_option maxRecDepth 100000 in
theorem f_310_78 : fe 310 78 = some (.iconst 0, 1, 12, some .int) := fe_of pg_310 rfl
set_option maxRecDepth 100000 in
theorem f_310_79 : fe 310 79 = some (.istore 5, 2, 12, some .int) := fe_of pg_310 rfl
set_option maxRecDepth 100000 in
theorem f_310_81 : fe 310 81 = some (.iload 5, 2, 12, some .int) := fe_of pg_310 rfl
set_option maxRecDepth 100000 in
theorem f_310_83 : fe 310 83 = some (.aload_n 0, 1, 12, some .int) := fe_of pg_310 rfl
set_option maxRecDepth 100000 in
theorem f_310_84 : fe 310 84 = some (.getfield 303, 3, 12, some .int) := fe_of pg_310 rfl
set_option maxRecDepth 100000 in
theorem f_310_87 : fe 310 87 = some (.if_icmp .ge 50, 3, 12, some .int) := fe_of pg_310 rfl
set_option maxRecDepth 100000 in
theorem f_310_90 : fe 310 90 = some (.iload_n 2, 1, 12, some .int) := fe_of pg_310 rfl
set_option maxRecDepth 100000 in
theorem f_310_91 : fe 310 91 = some (.iload 5, 2, 12, some .int) := fe_of pg_310 rfl
set_option maxRecDepth 100000 in
theorem f_310_93 : fe 310 93 = some (.invokestatic 113, 3, 12, some .int) := fe_of pg_310 rfl
set_option maxRecDepth 100000 in
theorem f_310_96 : fe 310 96 = some (.ifCond .eq 31, 3, 12, some .int) := fe_of pg_310 rfl
set_option maxRecDepth 100000 in
theorem f_310_99 : fe 310 99 = some (.iload 4, 2, 12, some .int) := fe_of pg_310 rfl
set_option maxRecDepth 100000 in
theorem f_310_101 : fe 310 101 = some (.iconst (-1), 1, 12, some .int) := fe_of pg_310 rfl
set_option maxRecDepth 100000 in
theorem f_310_102 : fe 310 102 = some (.if_icmp .eq 20, 3, 12, some .int) := fe_of pg_310 rfl
set_option maxRecDepth 100000 in
theorem f_310_105 : fe 310 105 = some (.aload_n 0, 1, 12, some .int) := fe_of pg_310 rfl
set_option maxRecDepth 100000 in
theorem f_310_106 : fe 310 106 = some (.getfield 44, 3, 12, some .int) := fe_of pg_310 rfl
set_option maxRecDepth 100000 in
theorem f_310_109 : fe 310 109 = some (.iload 5, 2, 12, some .int) := fe_of pg_310 rfl
set_option maxRecDepth 100000 in
theorem f_310_111 : fe 310 111 = some (.iaload, 1, 12, some .int) := fe_of pg_310 rfl
set_option maxRecDepth 100000 in
theorem f_310_112 : fe 310 112 = some (.aload_n 0, 1, 12, some .int) := fe_of pg_310 rfl
set_option maxRecDepth 100000 in
theorem f_310_113 : fe 310 113 = some (.getfield 44, 3, 12, some .int) := fe_of pg_310 rfl
set_option maxRecDepth 100000 in
theorem f_310_116 : fe 310 116 = some (.iload 4, 2, 12, some .int) := fe_of pg_310 rfl
set_option maxRecDepth 100000 in
theorem f_310_118 : fe 310 118 = some (.iaload, 1, 12, some .int) := fe_of pg_310 rfl
set_option maxRecDepth 100000 in
theorem f_310_119 : fe 310 119 = some (.if_icmp .ge 8, 3, 12, some .int) := fe_of pg_310 rfl
set_option maxRecDepth 100000 in
theorem f_310_122 : fe 310 122 = some (.iload 5, 2, 12, some .int) := fe_of pg_310 rfl
set_option maxRecDepth 100000 in
theorem f_310_124 : fe 310 124 = some (.goto 5, 3, 12, some .int) := fe_of pg_310 rfl
set_option maxRecDepth 100000 in
theorem f_310_127 : fe 310 127 = some (.iload 4, 2, 12, some .int) := fe_of pg_310 rfl
set_option maxRecDepth 100000 in
theorem f_310_129 : fe 310 129 = some (.istore 4, 2, 12, some .int) := fe_of pg_310 rfl
set_option maxRecDepth 100000 in
theorem f_310_131 : fe 310 131 = some (.iinc 5 1, 3, 12, some .int) := fe_of pg_310 rfl
set_option maxRecDepth 100000 in
theorem f_310_134 : fe 310 134 = some (.goto (-53), 3, 12, some .int) := fe_of pg_310 rfl
set_option maxRecDepth 100000 in
theorem f_310_137 : fe 310 137 = some (.iload 4, 2, 12, some .int) := fe_of pg_310 rfl
set_option maxRecDepth 100000 in
theorem f_310_139 : fe 310 139 = some (.ireturn, 1, 12, some .int) := fe_of pg_310 rfl
set_option maxRecDepth 100000 in
theorem f_311_0 : fe 311 0 = some (.aload_n 0, 1, 12, some .int) := fe_of pg_311 rfl
set_option maxRecDepth 100000 in
theorem f_311_1 : fe 311 1 = some (.iconst 0, 1, 12, some .int) := fe_of pg_311 rfl
set_option maxRecDepth 100000 in
theorem f_311_2 : fe 311 2 = some (.putfield 109, 3, 12, some .int) := fe_of pg_311 rfl
set_option maxRecDepth 100000 in
theorem f_311_5 : fe 311 5 = some (.aload_n 0, 1, 12, some .int) := fe_of pg_311 rfl
set_option maxRecDepth 100000 in
theorem f_311_6 : fe 311 6 = some (.iload_n 1, 1, 12, some .int) := fe_of pg_311 rfl
set_option maxRecDepth 100000 in
theorem f_311_7 : fe 311 7 = some (.iload_n 2, 1, 12, some .int) := fe_of pg_311 rfl
set_option maxRecDepth 100000 in
theorem f_311_8 : fe 311 8 = some (.invokevirtual 433, 3, 12, some .int) := fe_of pg_311 rfl
set_option maxRecDepth 100000 in
theorem f_311_11 : fe 311 11 = some (.ifCond .eq 12, 3, 12, some .int) := fe_of pg_311 rfl
set_option maxRecDepth 100000 in
theorem f_311_14 : fe 311 14 = some (.aload_n 0, 1, 12, some .int) := fe_of pg_311 rfl
set_option maxRecDepth 100000 in
theorem f_311_15 : fe 311 15 = some (.iload_n 2, 1, 12, some .int) := fe_of pg_311 rfl
set_option maxRecDepth 100000 in
theorem f_311_16 : fe 311 16 = some (.iconst 0, 1, 12, some .int) := fe_of pg_311 rfl
set_option maxRecDepth 100000 in
theorem f_311_17 : fe 311 17 = some (.invokevirtual 412, 3, 12, some .int) := fe_of pg_311 rfl
set_option maxRecDepth 100000 in
theorem f_311_20 : fe 311 20 = some (.ifCond .ne 5, 3, 12, some .int) := fe_of pg_311 rfl
set_option maxRecDepth 100000 in
theorem f_311_23 : fe 311 23 = some (.iconst (-1), 1, 12, some .int) := fe_of pg_311 rfl
set_option maxRecDepth 100000 in
theorem f_311_24 : fe 311 24 = some (.ireturn, 1, 12, some .int) := fe_of pg_311 rfl
set_option maxRecDepth 100000 in
theorem f_311_25 : fe 311 25 = some (.iconst 0, 1, 12, some .int) := fe_of pg_311 rfl
set_option maxRecDepth 100000 in
theorem f_311_26 : fe 311 26 = some (.istore_n 3, 1, 12, some .int) := fe_of pg_311 rfl
set_option maxRecDepth 100000 in
theorem f_311_27 : fe 311 27 = some (.iconst 0, 1, 12, some .int) := fe_of pg_311 rfl
set_option maxRecDepth 100000 in
theorem f_311_28 : fe 311 28 = some (.istore 4, 2, 12, some .int) := fe_of pg_311 rfl
set_option maxRecDepth 100000 in
theorem f_311_30 : fe 311 30 = some (.iload 4, 2, 12, some .int) := fe_of pg_311 rfl
set_option maxRecDepth 100000 in
theorem f_311_32 : fe 311 32 = some (.aload_n 0, 1, 12, some .int) := fe_of pg_311 rfl
set_option maxRecDepth 100000 in
theorem f_311_33 : fe 311 33 = some (.getfield 303, 3, 12, some .int) := fe_of pg_311 rfl
set_option maxRecDepth 100000 in
theorem f_311_36 : fe 311 36 = some (.if_icmp .ge 45, 3, 12, some .int) := fe_of pg_311 rfl
set_option maxRecDepth 100000 in
theorem f_311_39 : fe 311 39 = some (.iload_n 3, 1, 12, some .int) := fe_of pg_311 rfl
set_option maxRecDepth 100000 in
theorem f_311_40 : fe 311 40 = some (.iload_n 2, 1, 12, some .int) := fe_of pg_311 rfl
set_option maxRecDepth 100000 in
theorem f_311_41 : fe 311 41 = some (.iload 4, 2, 12, some .int) := fe_of pg_311 rfl
set_option maxRecDepth 100000 in
theorem f_311_43 : fe 311 43 = some (.invokestatic 113, 3, 12, some .int) := fe_of pg_311 rfl
set_option maxRecDepth 100000 in
theorem f_311_46 : fe 311 46 = some (.ifCond .eq 26, 3, 12, some .int) := fe_of pg_311 rfl
set_option maxRecDepth 100000 in
theorem f_311_49 : fe 311 49 = some (.aload_n 0, 1, 12, some .int) := fe_of pg_311 rfl
set_option maxRecDepth 100000 in
theorem f_311_50 : fe 311 50 = some (.iload_n 2, 1, 12, some .int) := fe_of pg_311 rfl
set_option maxRecDepth 100000 in
theorem f_311_51 : fe 311 51 = some (.iconst 1, 1, 12, some .int) := fe_of pg_311 rfl
set_option maxRecDepth 100000 in
theorem f_311_52 : fe 311 52 = some (.iload 4, 2, 12, some .int) := fe_of pg_311 rfl
set_option maxRecDepth 100000 in
theorem f_311_54 : fe 311 54 = some (.ishl, 1, 12, some .int) := fe_of pg_311 rfl
set_option maxRecDepth 100000 in
theorem f_311_55 : fe 311 55 = some (.iconst (-1), 1, 12, some .int) := fe_of pg_311 rfl
set_option maxRecDepth 100000 in
theorem f_311_56 : fe 311 56 = some (.ixor, 1, 12, some .int) := fe_of pg_311 rfl
set_option maxRecDepth 100000 in
theorem f_311_57 : fe 311 57 = some (.iand, 1, 12, some .int) := fe_of pg_311 rfl
set_option maxRecDepth 100000 in
theorem f_311_58 : fe 311 58 = some (.iconst 0, 1, 12, some .int) := fe_of pg_311 rfl
set_option maxRecDepth 100000 in
theorem f_311_59 : fe 311 59 = some (.invokevirtual 412, 3, 12, some .int) := fe_of pg_311 rfl
set_option maxRecDepth 100000 in
theorem f_311_62 : fe 311 62 = some (.ifCond .eq 10, 3, 12, some .int) := fe_of pg_311 rfl
set_option maxRecDepth 100000 in
theorem f_311_65 : fe 311 65 = some (.iconst 1, 1, 12, some .int) := fe_of pg_311 rfl
set_option maxRecDepth 100000 in
theorem f_311_66 : fe 311 66 = some (.iload 4, 2, 12, some .int) := fe_of pg_311 rfl
set_option maxRecDepth 100000 in
theorem f_311_68 : fe 311 68 = some (.ishl, 1, 12, some .int) := fe_of pg_311 rfl
set_option maxRecDepth 100000 in
theorem f_311_69 : fe 311 69 = some (.goto 4, 3, 12, some .int) := fe_of pg_311 rfl
set_option maxRecDepth 100000 in
theorem f_311_72 : fe 311 72 = some (.iconst 0, 1, 12, some .int) := fe_of pg_311 rfl
set_option maxRecDepth 100000 in
theorem f_311_73 : fe 311 73 = some (.ior, 1, 12, some .int) := fe_of pg_311 rfl
set_option maxRecDepth 100000 in
theorem f_311_74 : fe 311 74 = some (.istore_n 3, 1, 12, some .int) := fe_of pg_311 rfl
set_option maxRecDepth 100000 in
theorem f_311_75 : fe 311 75 = some (.iinc 4 1, 3, 12, some .int) := fe_of pg_311 rfl
set_option maxRecDepth 100000 in
theorem f_311_78 : fe 311 78 = some (.goto (-48), 3, 12, some .int) := fe_of pg_311 rfl
set_option maxRecDepth 100000 in
theorem f_311_81 : fe 311 81 = some (.iload_n 3, 1, 12, some .int) := fe_of pg_311 rfl
set_option maxRecDepth 100000 in
theorem f_311_82 : fe 311 82 = some (.ireturn, 1, 12, some .int) := fe_of pg_311 rfl
set_option maxRecDepth 100000 in
theorem f_312_0 : fe 312 0 = some (.aload_n 0, 1, 12, some .int) := fe_of pg_312 rfl
set_option maxRecDepth 100000 in
theorem f_312_1 : fe 312 1 = some (.iconst 0, 1, 12, some .int) := fe_of pg_312 rfl
set_option maxRecDepth 100000 in
theorem f_312_2 : fe 312 2 = some (.putfield 109, 3, 12, some .int) := fe_of pg_312 rfl
set_option maxRecDepth 100000 in
theorem f_312_5 : fe 312 5 = some (.aload_n 0, 1, 12, some .int) := fe_of pg_312 rfl
set_option maxRecDepth 100000 in
theorem f_312_6 : fe 312 6 = some (.iload_n 1, 1, 12, some .int) := fe_of pg_312 rfl
set_option maxRecDepth 100000 in
theorem f_312_7 : fe 312 7 = some (.invokevirtual 306, 3, 12, some .int) := fe_of pg_312 rfl
set_option maxRecDepth 100000 in
theorem f_312_10 : fe 312 10 = some (.ifCond .eq 17, 3, 12, some .int) := fe_of pg_312 rfl
set_option maxRecDepth 100000 in
theorem f_312_13 : fe 312 13 = some (.iload_n 2, 1, 12, some .int) := fe_of pg_312 rfl
set_option maxRecDepth 100000 in
theorem f_312_14 : fe 312 14 = some (.iconst 0, 1, 12, some .int) := fe_of pg_312 rfl
set_option maxRecDepth 100000 in
theorem f_312_15 : fe 312 15 = some (.aload_n 0, 1, 12, some .int) := fe_of pg_312 rfl
set_option maxRecDepth 100000 in
theorem f_312_16 : fe 312 16 = some (.getfield 297, 3, 12, some .int) := fe_of pg_312 rfl
set_option maxRecDepth 100000 in
theorem f_312_19 : fe 312 19 = some (.iconst 1, 1, 12, some .int) := fe_of pg_312 rfl
set_option maxRecDepth 100000 in
theorem f_312_20 : fe 312 20 = some (.isub, 1, 12, some .int) := fe_of pg_312 rfl
set_option maxRecDepth 100000 in
theorem f_312_21 : fe 312 21 = some (.invokestatic 121, 3, 12, some .int) := fe_of pg_312 rfl
set_option maxRecDepth 100000 in
theorem f_312_24 : fe 312 24 = some (.ifCond .ne 5, 3, 12, some .int) := fe_of pg_312 rfl
set_option maxRecDepth 100000 in
theorem f_312_27 : fe 312 27 = some (.iconst (-1), 1, 12, some .int) := fe_of pg_312 rfl
set_option maxRecDepth 100000 in
theorem f_312_28 : fe 312 28 = some (.ireturn, 1, 12, some .int) := fe_of pg_312 rfl
set_option maxRecDepth 100000 in
theorem f_312_29 : fe 312 29 = some (.aload_n 0, 1, 12, some .int) := fe_of pg_312 rfl
set_option maxRecDepth 100000 in
theorem f_312_30 : fe 312 30 = some (.iconst 0, 1, 12, some .int) := fe_of pg_312 rfl
set_option maxRecDepth 100000 in
theorem f_312_31 : fe 312 31 = some (.invokevirtual 403, 3, 12, some .int) := fe_of pg_312 rfl
set_option maxRecDepth 100000 in
theorem f_312_34 : fe 312 34 = some (.iconst (-1), 1, 12, some .int) := fe_of pg_312 rfl
set_option maxRecDepth 100000 in
theorem f_312_35 : fe 312 35 = some (.istore_n 3, 1, 12, some .int) := fe_of pg_312 rfl
set_option maxRecDepth 100000 in
theorem f_312_36 : fe 312 36 = some (.iconst 0, 1, 12, some .int) := fe_of pg_312 rfl
set_option maxRecDepth 100000 in
theorem f_312_37 : fe 312 37 = some (.istore 4, 2, 12, some .int) := fe_of pg_312 rfl
set_option maxRecDepth 100000 in
theorem f_312_39 : fe 312 39 = some (.iload 4, 2, 12, some .int) := fe_of pg_312 rfl
set_option maxRecDepth 100000 in
theorem f_312_41 : fe 312 41 = some (.iconst 1, 1, 12, some .int) := fe_of pg_312 rfl
set_option maxRecDepth 100000 in
theorem f_312_42 : fe 312 42 = some (.aload_n 0, 1, 12, some .int) := fe_of pg_312 rfl
set_option maxRecDepth 100000 in
theorem f_312_43 : fe 312 43 = some (.getfield 303, 3, 12, some .int) := fe_of pg_312 rfl
set_option maxRecDepth 100000 in
theorem f_312_46 : fe 312 46 = some (.ishl, 1, 12, some .int) := fe_of pg_312 rfl
set_option maxRecDepth 100000 in
theorem f_312_47 : fe 312 47 = some (.if_icmp .ge 70, 3, 12, some .int) := fe_of pg_312 rfl
set_option maxRecDepth 100000 in
theorem f_312_50 : fe 312 50 = some (.aload_n 0, 1, 12, some .int) := fe_of pg_312 rfl
set_option maxRecDepth 100000 in
theorem f_312_51 : fe 312 51 = some (.iload 4, 2, 12, some .int) := fe_of pg_312 rfl
set_option maxRecDepth 100000 in
theorem f_312_53 : fe 312 53 = some (.invokevirtual 409, 3, 12, some .int) := fe_of pg_312 rfl
set_option maxRecDepth 100000 in
theorem f_312_56 : fe 312 56 = some (.ifCond .eq 23, 3, 12, some .int) := fe_of pg_312 rfl
set_option maxRecDepth 100000 in
theorem f_312_59 : fe 312 59 = some (.aload_n 0, 1, 12, some .int) := fe_of pg_312 rfl
set_option maxRecDepth 100000 in
theorem f_312_60 : fe 312 60 = some (.iload 4, 2, 12, some .int) := fe_of pg_312 rfl
set_option maxRecDepth 100000 in
theorem f_312_62 : fe 312 62 = some (.invokevirtual 394, 3, 12, some .int) := fe_of pg_312 rfl
set_option maxRecDepth 100000 in
theorem f_312_65 : fe 312 65 = some (.aload_n 0, 1, 12, some .int) := fe_of pg_312 rfl
set_option maxRecDepth 100000 in
theorem f_312_66 : fe 312 66 = some (.iconst 3, 1, 12, some .int) := fe_of pg_312 rfl
set_option maxRecDepth 100000 in
theorem f_312_67 : fe 312 67 = some (.iload_n 2, 1, 12, some .int) := fe_of pg_312 rfl
set_option maxRecDepth 100000 in
theorem f_312_68 : fe 312 68 = some (.iadd, 1, 12, some .int) := fe_of pg_312 rfl
set_option maxRecDepth 100000 in
theorem f_312_69 : fe 312 69 = some (.invokevirtual 293, 3, 12, some .int) := fe_of pg_312 rfl
set_option maxRecDepth 100000 in
theorem f_312_72 : fe 312 72 = some (.if_icmp .lt 7, 3, 12, some .int) := fe_of pg_312 rfl
set_option maxRecDepth 100000 in
theorem f_312_75 : fe 312 75 = some (.iconst 1, 1, 12, some .int) := fe_of pg_312 rfl
set_option maxRecDepth 100000 in
theorem f_312_76 : fe 312 76 = some (.goto 4, 3, 12, some .int) := fe_of pg_312 rfl
set_option maxRecDepth 100000 in
theorem f_312_79 : fe 312 79 = some (.iconst 0, 1, 12, some .int) := fe_of pg_312 rfl
set_option maxRecDepth 100000 in
theorem f_312_80 : fe 312 80 = some (.istore 5, 2, 12, some .int) := fe_of pg_312 rfl
set_option maxRecDepth 100000 in
theorem f_312_82 : fe 312 82 = some (.iload 5, 2, 12, some .int) := fe_of pg_312 rfl
set_option maxRecDepth 100000 in
theorem f_312_84 : fe 312 84 = some (.ifCond .eq 25, 3, 12, some .int) := fe_of pg_312 rfl
set_option maxRecDepth 100000 in
theorem f_312_87 : fe 312 87 = some (.iload_n 3, 1, 12, some .int) := fe_of pg_312 rfl
set_option maxRecDepth 100000 in
theorem f_312_88 : fe 312 88 = some (.iconst (-1), 1, 12, some .int) := fe_of pg_312 rfl
set_option maxRecDepth 100000 in
theorem f_312_89 : fe 312 89 = some (.if_icmp .eq 15, 3, 12, some .int) := fe_of pg_312 rfl
set_option maxRecDepth 100000 in
theorem f_312_92 : fe 312 92 = some (.iload 4, 2, 12, some .int) := fe_of pg_312 rfl
set_option maxRecDepth 100000 in
theorem f_312_94 : fe 312 94 = some (.invokestatic 391, 3, 12, some .int) := fe_of pg_312 rfl
set_option maxRecDepth 100000 in
theorem f_312_97 : fe 312 97 = some (.iload_n 3, 1, 12, some .int) := fe_of pg_312 rfl
set_option maxRecDepth 100000 in
theorem f_312_98 : fe 312 98 = some (.invokestatic 391, 3, 12, some .int) := fe_of pg_312 rfl
set_option maxRecDepth 100000 in
theorem f_312_101 : fe 312 101 = some (.if_icmp .ge 8, 3, 12, some .int) := fe_of pg_312 rfl
set_option maxRecDepth 100000 in
theorem f_312_104 : fe 312 104 = some (.iload 4, 2, 12, some .int) := fe_of pg_312 rfl
set_option maxRecDepth 100000 in
theorem f_312_106 : fe 312 106 = some (.goto 4, 3, 12, some .int) := fe_of pg_312 rfl
set_option maxRecDepth 100000 in
theorem f_312_109 : fe 312 109 = some (.iload_n 3, 1, 12, some .int) := fe_of pg_312 rfl
set_option maxRecDepth 100000 in
theorem f_312_110 : fe 312 110 = some (.istore_n 3, 1, 12, some .int) := fe_of pg_312 rfl
set_option maxRecDepth 100000 in
theorem f_312_111 : fe 312 111 = some (.iinc 4 1, 3, 12, some .int) := fe_of pg_312 rfl
set_option maxRecDepth 100000 in
theorem f_312_114 : fe 312 114 = some (.goto (-75), 3, 12, some .int) := fe_of pg_312 rfl
set_option maxRecDepth 100000 in
theorem f_312_117 : fe 312 117 = some (.iload_n 3, 1, 12, some .int) := fe_of pg_312 rfl
set_option maxRecDepth 100000 in
theorem f_312_118 : fe 312 118 = some (.ireturn, 1, 12, some .int) := fe_of pg_312 rfl
set_option maxRecDepth 100000 in
theorem f_313_0 : fe 313 0 = some (.aload_n 0, 1, 12, some .int) := fe_of pg_313 rfl
set_option maxRecDepth 100000 in
theorem f_313_1 : fe 313 1 = some (.iconst 0, 1, 12, some .int) := fe_of pg_313 rfl
set_option maxRecDepth 100000 in
theorem f_313_2 : fe 313 2 = some (.putfield 109, 3, 12, some .int) := fe_of pg_313 rfl
set_option maxRecDepth 100000 in
theorem f_313_5 : fe 313 5 = some (.aload_n 0, 1, 12, some .int) := fe_of pg_313 rfl
set_option maxRecDepth 100000 in
theorem f_313_6 : fe 313 6 = some (.iload_n 1, 1, 12, some .int) := fe_of pg_313 rfl
set_option maxRecDepth 100000 in
theorem f_313_7 : fe 313 7 = some (.invokevirtual 306, 3, 12, some .int) := fe_of pg_313 rfl
set_option maxRecDepth 100000 in
theorem f_313_10 : fe 313 10 = some (.ifCond .eq 12, 3, 12, some .int) := fe_of pg_313 rfl
set_option maxRecDepth 100000 in
theorem f_313_13 : fe 313 13 = some (.iload_n 2, 1, 12, some .int) := fe_of pg_313 rfl
set_option maxRecDepth 100000 in
theorem f_313_14 : fe 313 14 = some (.iconst 0, 1, 12, some .int) := fe_of pg_313 rfl
set_option maxRecDepth 100000 in
theorem f_313_15 : fe 313 15 = some (.iconst 2, 1, 12, some .int) := fe_of pg_313 rfl
set_option maxRecDepth 100000 in
theorem f_313_16 : fe 313 16 = some (.invokestatic 121, 3, 12, some .int) := fe_of pg_313 rfl
set_option maxRecDepth 100000 in
theorem f_313_19 : fe 313 19 = some (.ifCond .ne 6, 3, 12, some .int) := fe_of pg_313 rfl
set_option maxRecDepth 100000 in
theorem f_313_22 : fe 313 22 = some (.bipush (-2), 2, 12, some .int) := fe_of pg_313 rfl
set_option maxRecDepth 100000 in
theorem f_313_24 : fe 313 24 = some (.ireturn, 1, 12, some .int) := fe_of pg_313 rfl
set_option maxRecDepth 100000 in
theorem f_313_25 : fe 313 25 = some (.iconst 0, 1, 12, some .int) := fe_of pg_313 rfl
set_option maxRecDepth 100000 in
theorem f_313_26 : fe 313 26 = some (.istore_n 3, 1, 12, some .int) := fe_of pg_313 rfl
set_option maxRecDepth 100000 in
theorem f_313_27 : fe 313 27 = some (.iload_n 3, 1, 12, some .int) := fe_of pg_313 rfl
set_option maxRecDepth 100000 in
theorem f_313_28 : fe 313 28 = some (.bipush 8, 2, 12, some .int) := fe_of pg_313 rfl
set_option maxRecDepth 100000 in
theorem f_313_30 : fe 313 30 = some (.if_icmp .gt 16, 3, 12, some .int) := fe_of pg_313 rfl
set_option maxRecDepth 100000 in
theorem f_313_33 : fe 313 33 = some (.aload_n 0, 1, 12, some .int) := fe_of pg_313 rfl
set_option maxRecDepth 100000 in
theorem f_313_34 : fe 313 34 = some (.getfield 96, 3, 12, some .int) := fe_of pg_313 rfl
set_option maxRecDepth 100000 in
theorem f_313_37 : fe 313 37 = some (.iload_n 3, 1, 12, some .int) := fe_of pg_313 rfl
set_option maxRecDepth 100000 in
theorem f_313_38 : fe 313 38 = some (.iconst 0, 1, 12, some .int) := fe_of pg_313 rfl
set_option maxRecDepth 100000 in
theorem f_313_39 : fe 313 39 = some (.iastore, 1, 12, some .int) := fe_of pg_313 rfl
set_option maxRecDepth 100000 in
theorem f_313_40 : fe 313 40 = some (.iinc 3 1, 3, 12, some .int) := fe_of pg_313 rfl
set_option maxRecDepth 100000 in
theorem f_313_43 : fe 313 43 = some (.goto (-16), 3, 12, some .int) := fe_of pg_313 rfl
set_option maxRecDepth 100000 in
theorem f_313_46 : fe 313 46 = some (.iconst 0, 1, 12, some .int) := fe_of pg_313 rfl
set_option maxRecDepth 100000 in
theorem f_313_47 : fe 313 47 = some (.istore_n 3, 1, 12, some .int) := fe_of pg_313 rfl
set_option maxRecDepth 100000 in
theorem f_313_48 : fe 313 48 = some (.iload_n 3, 1, 12, some .int) := fe_of pg_313 rfl
set_option maxRecDepth 100000 in
theorem f_313_49 : fe 313 49 = some (.iconst 1, 1, 12, some .int) := fe_of pg_313 rfl
set_option maxRecDepth 100000 in
theorem f_313_50 : fe 313 50 = some (.aload_n 0, 1, 12, some .int) := fe_of pg_313 rfl
set_option maxRecDepth 100000 in
theorem f_313_51 : fe 313 51 = some (.getfield 303, 3, 12, some .int) := fe_of pg_313 rfl
set_option maxRecDepth 100000 in
theorem f_313_54 : fe 313 54 = some (.ishl, 1, 12, some .int) := fe_of pg_313 rfl
set_option maxRecDepth 100000 in
theorem f_313_55 : fe 313 55 = some (.if_icmp .ge 37, 3, 12, some .int) := fe_of pg_313 rfl
set_option maxRecDepth 100000 in
theorem f_313_58 : fe 313 58 = some (.aload_n 0, 1, 12, some .int) := fe_of pg_313 rfl
set_option maxRecDepth 100000 in
theorem f_313_59 : fe 313 59 = some (.iload_n 3, 1, 12, some .int) := fe_of pg_313 rfl
set_option maxRecDepth 100000 in
theorem f_313_60 : fe 313 60 = some (.invokevirtual 409, 3, 12, some .int) := fe_of pg_313 rfl
set_option maxRecDepth 100000 in
theorem f_313_63 : fe 313 63 = some (.ifCond .eq 23, 3, 12, some .int) := fe_of pg_313 rfl
set_option maxRecDepth 100000 in
theorem f_313_66 : fe 313 66 = some (.aload_n 0, 1, 12, some .int) := fe_of pg_313 rfl
set_option maxRecDepth 100000 in
theorem f_313_67 : fe 313 67 = some (.iconst 0, 1, 12, some .int) := fe_of pg_313 rfl
set_option maxRecDepth 100000 in
theorem f_313_68 : fe 313 68 = some (.invokevirtual 403, 3, 12, some .int) := fe_of pg_313 rfl
set_option maxRecDepth 100000 in
theorem f_313_71 : fe 313 71 = some (.aload_n 0, 1, 12, some .int) := fe_of pg_313 rfl
set_option maxRecDepth 100000 in
theorem f_313_72 : fe 313 72 = some (.getfield 96, 3, 12, some .int) := fe_of pg_313 rfl
set_option maxRecDepth 100000 in
theorem f_313_75 : fe 313 75 = some (.aload_n 0, 1, 12, some .int) := fe_of pg_313 rfl
set_option maxRecDepth 100000 in
theorem f_313_76 : fe 313 76 = some (.iload_n 3, 1, 12, some .int) := fe_of pg_313 rfl
set_option maxRecDepth 100000 in
theorem f_313_77 : fe 313 77 = some (.iconst 0, 1, 12, some .int) := fe_of pg_313 rfl
set_option maxRecDepth 100000 in
theorem f_313_78 : fe 313 78 = some (.invokevirtual 406, 3, 12, some .int) := fe_of pg_313 rfl
set_option maxRecDepth 100000 in
theorem f_313_81 : fe 313 81 = some (.dup2, 1, 12, some .int) := fe_of pg_313 rfl
set_option maxRecDepth 100000 in
theorem f_313_82 : fe 313 82 = some (.iaload, 1, 12, some .int) := fe_of pg_313 rfl
set_option maxRecDepth 100000 in
theorem f_313_83 : fe 313 83 = some (.iconst 1, 1, 12, some .int) := fe_of pg_313 rfl
set_option maxRecDepth 100000 in
theorem f_313_84 : fe 313 84 = some (.iadd, 1, 12, some .int) := fe_of pg_313 rfl
set_option maxRecDepth 100000 in
theorem f_313_85 : fe 313 85 = some (.iastore, 1, 12, some .int) := fe_of pg_313 rfl
set_option maxRecDepth 100000 in
theorem f_313_86 : fe 313 86 = some (.iinc 3 1, 3, 12, some .int) := fe_of pg_313 rfl
set_option maxRecDepth 100000 in
theorem f_313_89 : fe 313 89 = some (.goto (-41), 3, 12, some .int) := fe_of pg_313 rfl
set_option maxRecDepth 100000 in
theorem f_313_92 : fe 313 92 = some (.iconst (-1), 1, 12, some .int) := fe_of pg_313 rfl
set_option maxRecDepth 100000 in
theorem f_313_93 : fe 313 93 = some (.istore_n 3, 1, 12, some .int) := fe_of pg_313 rfl
set_option maxRecDepth 100000 in
theorem f_313_94 : fe 313 94 = some (.iconst 0, 1, 12, some .int) := fe_of pg_313 rfl
set_option maxRecDepth 100000 in
theorem f_313_95 : fe 313 95 = some (.istore 4, 2, 12, some .int) := fe_of pg_313 rfl
set_option maxRecDepth 100000 in
theorem f_313_97 : fe 313 97 = some (.iload 4, 2, 12, some .int) := fe_of pg_313 rfl
set_option maxRecDepth 100000 in
theorem f_313_99 : fe 313 99 = some (.aload_n 0, 1, 12, some .int) := fe_of pg_313 rfl
set_option maxRecDepth 100000 in
theorem f_313_100 : fe 313 100 = some (.getfield 297, 3, 12, some .int) := fe_of pg_313 rfl
set_option maxRecDepth 100000 in
theorem f_313_103 : fe 313 103 = some (.if_icmp .ge 41, 3, 12, some .int) := fe_of pg_313 rfl
set_option maxRecDepth 100000 in
theorem f_313_106 : fe 313 106 = some (.aload_n 0, 1, 12, some .int) := fe_of pg_313 rfl
set_option maxRecDepth 100000 in
theorem f_313_107 : fe 313 107 = some (.getfield 96, 3, 12, some .int) := fe_of pg_313 rfl
set_option maxRecDepth 100000 in
theorem f_313_110 : fe 313 110 = some (.iload 4, 2, 12, some .int) := fe_of pg_313 rfl
set_option maxRecDepth 100000 in
theorem f_313_112 : fe 313 112 = some (.iaload, 1, 12, some .int) := fe_of pg_313 rfl
set_option maxRecDepth 100000 in
theorem f_313_113 : fe 313 113 = some (.iload_n 3, 1, 12, some .int) := fe_of pg_313 rfl
set_option maxRecDepth 100000 in
theorem f_313_114 : fe 313 114 = some (.iconst (-1), 1, 12, some .int) := fe_of pg_313 rfl
set_option maxRecDepth 100000 in
theorem f_313_115 : fe 313 115 = some (.if_icmp .ne 7, 3, 12, some .int) := fe_of pg_313 rfl
set_option maxRecDepth 100000 in
theorem f_313_118 : fe 313 118 = some (.iconst 0, 1, 12, some .int) := fe_of pg_313 rfl
set_option maxRecDepth 100000 in
theorem f_313_119 : fe 313 119 = some (.goto 9, 3, 12, some .int) := fe_of pg_313 rfl
set_option maxRecDepth 100000 in
theorem f_313_122 : fe 313 122 = some (.aload_n 0, 1, 12, some .int) := fe_of pg_313 rfl
set_option maxRecDepth 100000 in
theorem f_313_123 : fe 313 123 = some (.getfield 96, 3, 12, some .int) := fe_of pg_313 rfl
set_option maxRecDepth 100000 in
theorem f_313_126 : fe 313 126 = some (.iload_n 3, 1, 12, some .int) := fe_of pg_313 rfl
set_option maxRecDepth 100000 in
theorem f_313_127 : fe 313 127 = some (.iaload, 1, 12, some .int) := fe_of pg_313 rfl
set_option maxRecDepth 100000 in
theorem f_313_128 : fe 313 128 = some (.if_icmp .le 8, 3, 12, some .int) := fe_of pg_313 rfl
set_option maxRecDepth 100000 in
theorem f_313_131 : fe 313 131 = some (.iload 4, 2, 12, some .int) := fe_of pg_313 rfl
set_option maxRecDepth 100000 in
theorem f_313_133 : fe 313 133 = some (.goto 4, 3, 12, some .int) := fe_of pg_313 rfl
set_option maxRecDepth 100000 in
theorem f_313_136 : fe 313 136 = some (.iload_n 3, 1, 12, some .int) := fe_of pg_313 rfl
set_option maxRecDepth 100000 in
theorem f_313_137 : fe 313 137 = some (.istore_n 3, 1, 12, some .int) := fe_of pg_313 rfl
set_option maxRecDepth 100000 in
theorem f_313_138 : fe 313 138 = some (.iinc 4 1, 3, 12, some .int) := fe_of pg_313 rfl
set_option maxRecDepth 100000 in
theorem f_313_141 : fe 313 141 = some (.goto (-44), 3, 12, some .int) := fe_of pg_313 rfl
set_option maxRecDepth 100000 in
theorem f_313_144 : fe 313 144 = some (.iload_n 2, 1, 12, some .int) := fe_of pg_313 rfl
set_option maxRecDepth 100000 in
theorem f_313_145 : fe 313 145 = some (.ifCond .ne 15, 3, 12, some .int) := fe_of pg_313 rfl
set_option maxRecDepth 100000 in
theorem f_313_148 : fe 313 148 = some (.aload_n 0, 1, 12, some .int) := fe_of pg_313 rfl
set_option maxRecDepth 100000 in
theorem f_313_149 : fe 313 149 = some (.getfield 96, 3, 12, some .int) := fe_of pg_313 rfl
set_option maxRecDepth 100000 in
theorem f_313_152 : fe 313 152 = some (.aload_n 0, 1, 12, some .int) := fe_of pg_313 rfl
set_option maxRecDepth 100000 in
theorem f_313_153 : fe 313 153 = some (.getfield 297, 3, 12, some .int) := fe_of pg_313 rfl
set_option maxRecDepth 100000 in
theorem f_313_156 : fe 313 156 = some (.iaload, 1, 12, some .int) := fe_of pg_313 rfl
set_option maxRecDepth 100000 in
theorem f_313_157 : fe 313 157 = some (.goto 23, 3, 12, some .int) := fe_of pg_313 rfl
set_option maxRecDepth 100000 in
theorem f_313_160 : fe 313 160 = some (.iload_n 3, 1, 12, some .int) := fe_of pg_313 rfl
set_option maxRecDepth 100000 in
theorem f_313_161 : fe 313 161 = some (.iconst (-1), 1, 12, some .int) := fe_of pg_313 rfl
set_option maxRecDepth 100000 in
theorem f_313_162 : fe 313 162 = some (.if_icmp .eq 8, 3, 12, some .int) := fe_of pg_313 rfl
set_option maxRecDepth 100000 in
theorem f_313_165 : fe 313 165 = some (.iload_n 2, 1, 12, some .int) := fe_of pg_313 rfl
set_option maxRecDepth 100000 in
theorem f_313_166 : fe 313 166 = some (.iconst 1, 1, 12, some .int) := fe_of pg_313 rfl
set_option maxRecDepth 100000 in
theorem f_313_167 : fe 313 167 = some (.if_icmp .ne 7, 3, 12, some .int) := fe_of pg_313 rfl
set_option maxRecDepth 100000 in
theorem f_313_170 : fe 313 170 = some (.iload_n 3, 1, 12, some .int) := fe_of pg_313 rfl
set_option maxRecDepth 100000 in
theorem f_313_171 : fe 313 171 = some (.goto 9, 3, 12, some .int) := fe_of pg_313 rfl
set_option maxRecDepth 100000 in
theorem f_313_174 : fe 313 174 = some (.aload_n 0, 1, 12, some .int) := fe_of pg_313 rfl
set_option maxRecDepth 100000 in
theorem f_313_175 : fe 313 175 = some (.getfield 96, 3, 12, some .int) := fe_of pg_313 rfl
set_option maxRecDepth 100000 in
theorem f_313_178 : fe 313 178 = some (.iload_n 3, 1, 12, some .int) := fe_of pg_313 rfl
set_option maxRecDepth 100000 in
theorem f_313_179 : fe 313 179 = some (.iaload, 1, 12, some .int) := fe_of pg_313 rfl
set_option maxRecDepth 100000 in
theorem f_313_180 : fe 313 180 = some (.ireturn, 1, 12, some .int) := fe_of pg_313 rfl
set_option maxRecDepth 100000 in
theorem f_314_0 : fe 314 0 = some (.aload_n 0, 1, 12, some .int) := fe_of pg_314 rfl
set_option maxRecDepth 100000 in
theorem f_314_1 : fe 314 1 = some (.iconst 0, 1, 12, some .int) := fe_of pg_314 rfl
set_option maxRecDepth 100000 in
theorem f_314_2 : fe 314 2 = some (.putfield 109, 3, 12, some .int) := fe_of pg_314 rfl
set_option maxRecDepth 100000 in
theorem f_314_5 : fe 314 5 = some (.aload_n 0, 1, 12, some .int) := fe_of pg_314 rfl
set_option maxRecDepth 100000 in
theorem f_314_6 : fe 314 6 = some (.iload_n 1, 1, 12, some .int) := fe_of pg_314 rfl
set_option maxRecDepth 100000 in
theorem f_314_7 : fe 314 7 = some (.iload_n 2, 1, 12, some .int) := fe_of pg_314 rfl
set_option maxRecDepth 100000 in
theorem f_314_8 : fe 314 8 = some (.invokevirtual 433, 3, 12, some .int) := fe_of pg_314 rfl
set_option maxRecDepth 100000 in
theorem f_314_11 : fe 314 11 = some (.ifCond .eq 18, 3, 12, some .int) := fe_of pg_314 rfl
set_option maxRecDepth 100000 in
theorem f_314_14 : fe 314 14 = some (.aload_n 0, 1, 12, some .int) := fe_of pg_314 rfl
set_option maxRecDepth 100000 in
theorem f_314_15 : fe 314 15 = some (.iload_n 1, 1, 12, some .int) := fe_of pg_314 rfl
set_option maxRecDepth 100000 in
theorem f_314_16 : fe 314 16 = some (.iload_n 3, 1, 12, some .int) := fe_of pg_314 rfl
set_option maxRecDepth 100000 in
theorem f_314_17 : fe 314 17 = some (.invokevirtual 433, 3, 12, some .int) := fe_of pg_314 rfl
set_option maxRecDepth 100000 in
theorem f_314_20 : fe 314 20 = some (.ifCond .eq 9, 3, 12, some .int) := fe_of pg_314 rfl
set_option maxRecDepth 100000 in
theorem f_314_23 : fe 314 23 = some (.iload_n 2, 1, 12, some .int) := fe_of pg_314 rfl
set_option maxRecDepth 100000 in
theorem f_314_24 : fe 314 24 = some (.iload_n 3, 1, 12, some .int) := fe_of pg_314 rfl
set_option maxRecDepth 100000 in
theorem f_314_25 : fe 314 25 = some (.iand, 1, 12, some .int) := fe_of pg_314 rfl
set_option maxRecDepth 100000 in
theorem f_314_26 : fe 314 26 = some (.ifCond .eq 5, 3, 12, some .int) := fe_of pg_314 rfl
set_option maxRecDepth 100000 in
theorem f_314_29 : fe 314 29 = some (.iconst (-1), 1, 12, some .int) := fe_of pg_314 rfl
set_option maxRecDepth 100000 in
theorem f_314_30 : fe 314 30 = some (.ireturn, 1, 12, some .int) := fe_of pg_314 rfl
set_option maxRecDepth 100000 in
theorem f_314_31 : fe 314 31 = some (.aload_n 0, 1, 12, some .int) := fe_of pg_314 rfl
set_option maxRecDepth 100000 in
theorem f_314_32 : fe 314 32 = some (.iconst 0, 1, 12, some .int) := fe_of pg_314 rfl
set_option maxRecDepth 100000 in
theorem f_314_33 : fe 314 33 = some (.invokevirtual 403, 3, 12, some .int) := fe_of pg_314 rfl
set_option maxRecDepth 100000 in
theorem f_314_36 : fe 314 36 = some (.iconst 0, 1, 12, some .int) := fe_of pg_314 rfl
set_option maxRecDepth 100000 in
theorem f_314_37 : fe 314 37 = some (.istore 4, 2, 12, some .int) := fe_of pg_314 rfl
set_option maxRecDepth 100000 in
theorem f_314_39 : fe 314 39 = some (.iload 4, 2, 12, some .int) := fe_of pg_314 rfl
set_option maxRecDepth 100000 in
theorem f_314_41 : fe 314 41 = some (.bipush 100, 2, 12, some .int) := fe_of pg_314 rfl
set_option maxRecDepth 100000 in
theorem f_314_43 : fe 314 43 = some (.if_icmp .ge 33, 3, 12, some .int) := fe_of pg_314 rfl
set_option maxRecDepth 100000 in
theorem f_314_46 : fe 314 46 = some (.aload_n 0, 1, 12, some .int) := fe_of pg_314 rfl
set_option maxRecDepth 100000 in
theorem f_314_47 : fe 314 47 = some (.iload 4, 2, 12, some .int) := fe_of pg_314 rfl
set_option maxRecDepth 100000 in
theorem f_314_49 : fe 314 49 = some (.iconst 2, 1, 12, some .int) := fe_of pg_314 rfl
set_option maxRecDepth 100000 in
theorem f_314_50 : fe 314 50 = some (.irem, 1, 12, some .int) := fe_of pg_314 rfl
set_option maxRecDepth 100000 in
theorem f_314_51 : fe 314 51 = some (.ifCond .ne 7, 3, 12, some .int) := fe_of pg_314 rfl
set_option maxRecDepth 100000 in
theorem f_314_54 : fe 314 54 = some (.iload_n 2, 1, 12, some .int) := fe_of pg_314 rfl
set_option maxRecDepth 100000 in
theorem f_314_55 : fe 314 55 = some (.goto 4, 3, 12, some .int) := fe_of pg_314 rfl
set_option maxRecDepth 100000 in
theorem f_314_58 : fe 314 58 = some (.iload_n 3, 1, 12, some .int) := fe_of pg_314 rfl
set_option maxRecDepth 100000 in
theorem f_314_59 : fe 314 59 = some (.iconst 0, 1, 12, some .int) := fe_of pg_314 rfl
set_option maxRecDepth 100000 in
theorem f_314_60 : fe 314 60 = some (.invokevirtual 406, 3, 12, some .int) := fe_of pg_314 rfl
set_option maxRecDepth 100000 in
theorem f_314_63 : fe 314 63 = some (.aload_n 0, 1, 12, some .int) := fe_of pg_314 rfl
set_option maxRecDepth 100000 in
theorem f_314_64 : fe 314 64 = some (.getfield 297, 3, 12, some .int) := fe_of pg_314 rfl
set_option maxRecDepth 100000 in
theorem f_314_67 : fe 314 67 = some (.if_icmp .ne 9, 3, 12, some .int) := fe_of pg_314 rfl
set_option maxRecDepth 100000 in
theorem f_314_70 : fe 314 70 = some (.iinc 4 1, 3, 12, some .int) := fe_of pg_314 rfl
set_option maxRecDepth 100000 in
theorem f_314_73 : fe 314 73 = some (.goto (-34), 3, 12, some .int) := fe_of pg_314 rfl
set_option maxRecDepth 100000 in
theorem f_314_76 : fe 314 76 = some (.iload 4, 2, 12, some .int) := fe_of pg_314 rfl
set_option maxRecDepth 100000 in
theorem f_314_78 : fe 314 78 = some (.ireturn, 1, 12, some .int) := fe_of pg_314 rfl
set_option maxRecDepth 100000 in
theorem f_315_0 : fe 315 0 = some (.aload_n 0, 1, 12, some .int) := fe_of pg_315 rfl
set_option maxRecDepth 100000 in
theorem f_315_1 : fe 315 1 = some (.iconst 0, 1, 12, some .int) := fe_of pg_315 rfl
set_option maxRecDepth 100000 in
theorem f_315_2 : fe 315 2 = some (.putfield 109, 3, 12, some .int) := fe_of pg_315 rfl
set_option maxRecDepth 100000 in
theorem f_315_5 : fe 315 5 = some (.aload_n 0, 1, 12, some .int) := fe_of pg_315 rfl
set_option maxRecDepth 100000 in
theorem f_315_6 : fe 315 6 = some (.iload_n 1, 1, 12, some .int) := fe_of pg_315 rfl
set_option maxRecDepth 100000 in
theorem f_315_7 : fe 315 7 = some (.iload_n 2, 1, 12, some .int) := fe_of pg_315 rfl
set_option maxRecDepth 100000 in
theorem f_315_8 : fe 315 8 = some (.invokevirtual 433, 3, 12, some .int) := fe_of pg_315 rfl
set_option maxRecDepth 100000 in
theorem f_315_11 : fe 315 11 = some (.ifCond .eq 12, 3, 12, some .int) := fe_of pg_315 rfl
set_option maxRecDepth 100000 in
theorem f_315_14 : fe 315 14 = some (.aload_n 0, 1, 12, some .int) := fe_of pg_315 rfl
set_option maxRecDepth 100000 in
theorem f_315_15 : fe 315 15 = some (.iload_n 2, 1, 12, some .int) := fe_of pg_315 rfl
set_option maxRecDepth 100000 in
theorem f_315_16 : fe 315 16 = some (.iconst 0, 1, 12, some .int) := fe_of pg_315 rfl
set_option maxRecDepth 100000 in
theorem f_315_17 : fe 315 17 = some (.invokevirtual 412, 3, 12, some .int) := fe_of pg_315 rfl
set_option maxRecDepth 100000 in
theorem f_315_20 : fe 315 20 = some (.ifCond .ne 5, 3, 12, some .int) := fe_of pg_315 rfl
set_option maxRecDepth 100000 in
theorem f_315_23 : fe 315 23 = some (.iconst (-1), 1, 12, some .int) := fe_of pg_315 rfl
set_option maxRecDepth 100000 in
theorem f_315_24 : fe 315 24 = some (.ireturn, 1, 12, some .int) := fe_of pg_315 rfl
set_option maxRecDepth 100000 in
theorem f_315_25 : fe 315 25 = some (.iconst 1, 1, 12, some .int) := fe_of pg_315 rfl
set_option maxRecDepth 100000 in
theorem f_315_26 : fe 315 26 = some (.istore_n 3, 1, 12, some .int) := fe_of pg_315 rfl
set_option maxRecDepth 100000 in
theorem f_315_27 : fe 315 27 = some (.iload_n 3, 1, 12, some .int) := fe_of pg_315 rfl
set_option maxRecDepth 100000 in
theorem f_315_28 : fe 315 28 = some (.bipush 99, 2, 12, some .int) := fe_of pg_315 rfl
set_option maxRecDepth 100000 in
theorem f_315_30 : fe 315 30 = some (.if_icmp .gt 21, 3, 12, some .int) := fe_of pg_315 rfl
set_option maxRecDepth 100000 in
theorem f_315_33 : fe 315 33 = some (.aload_n 0, 1, 12, some .int) := fe_of pg_315 rfl
set_option maxRecDepth 100000 in
theorem f_315_34 : fe 315 34 = some (.iload_n 2, 1, 12, some .int) := fe_of pg_315 rfl
set_option maxRecDepth 100000 in
theorem f_315_35 : fe 315 35 = some (.iload_n 3, 1, 12, some .int) := fe_of pg_315 rfl
set_option maxRecDepth 100000 in
theorem f_315_36 : fe 315 36 = some (.ineg, 1, 12, some .int) := fe_of pg_315 rfl
set_option maxRecDepth 100000 in
theorem f_315_37 : fe 315 37 = some (.invokevirtual 412, 3, 12, some .int) := fe_of pg_315 rfl
set_option maxRecDepth 100000 in
theorem f_315_40 : fe 315 40 = some (.ifCond .ne 5, 3, 12, some .int) := fe_of pg_315 rfl
set_option maxRecDepth 100000 in
theorem f_315_43 : fe 315 43 = some (.iload_n 3, 1, 12, some .int) := fe_of pg_315 rfl
set_option maxRecDepth 100000 in
theorem f_315_44 : fe 315 44 = some (.ireturn, 1, 12, some .int) := fe_of pg_315 rfl
set_option maxRecDepth 100000 in
theorem f_315_45 : fe 315 45 = some (.iinc 3 1, 3, 12, some .int) := fe_of pg_315 rfl
set_option maxRecDepth 100000 in
theorem f_315_48 : fe 315 48 = some (.goto (-21), 3, 12, some .int) := fe_of pg_315 rfl
set_option maxRecDepth 100000 in
theorem f_315_51 : fe 315 51 = some (.iconst (-1), 1, 12, some .int) := fe_of pg_315 rfl
set_option maxRecDepth 100000 in
theorem f_315_52 : fe 315 52 = some (.ireturn, 1, 12, some .int) := fe_of pg_315 rfl
set_option maxRecDepth 100000 in
theorem f_316_0 : fe 316 0 = some (.aload_n 0, 1, 12, some .int) := fe_of pg_316 rfl
set_option maxRecDepth 100000 in
theorem f_316_1 : fe 316 1 = some (.iconst 0, 1, 12, some .int) := fe_of pg_316 rfl
set_option maxRecDepth 100000 in
theorem f_316_2 : fe 316 2 = some (.putfield 109, 3, 12, some .int) := fe_of pg_316 rfl
set_option maxRecDepth 100000 in
theorem f_316_5 : fe 316 5 = some (.aload_n 0, 1, 12, some .int) := fe_of pg_316 rfl
set_option maxRecDepth 100000 in
theorem f_316_6 : fe 316 6 = some (.iload_n 1, 1, 12, some .int) := fe_of pg_316 rfl
set_option maxRecDepth 100000 in
theorem f_316_7 : fe 316 7 = some (.iload_n 2, 1, 12, some .int) := fe_of pg_316 rfl
set_option maxRecDepth 100000 in
theorem f_316_8 : fe 316 8 = some (.invokevirtual 433, 3, 12, some .int) := fe_of pg_316 rfl
set_option maxRecDepth 100000 in
theorem f_316_11 : fe 316 11 = some (.ifCond .eq 19, 3, 12, some .int) := fe_of pg_316 rfl
set_option maxRecDepth 100000 in
theorem f_316_14 : fe 316 14 = some (.aload_n 0, 1, 12, some .int) := fe_of pg_316 rfl
set_option maxRecDepth 100000 in
theorem f_316_15 : fe 316 15 = some (.getfield 297, 3, 12, some .int) := fe_of pg_316 rfl
set_option maxRecDepth 100000 in
theorem f_316_18 : fe 316 18 = some (.ifCond .eq 12, 3, 12, some .int) := fe_of pg_316 rfl
set_option maxRecDepth 100000 in
theorem f_316_21 : fe 316 21 = some (.aload_n 0, 1, 12, some .int) := fe_of pg_316 rfl
set_option maxRecDepth 100000 in
theorem f_316_22 : fe 316 22 = some (.iload_n 2, 1, 12, some .int) := fe_of pg_316 rfl
set_option maxRecDepth 100000 in
theorem f_316_23 : fe 316 23 = some (.iconst 0, 1, 12, some .int) := fe_of pg_316 rfl
set_option maxRecDepth 100000 in
theorem f_316_24 : fe 316 24 = some (.invokevirtual 412, 3, 12, some .int) := fe_of pg_316 rfl
set_option maxRecDepth 100000 in
theorem f_316_27 : fe 316 27 = some (.ifCond .ne 5, 3, 12, some .int) := fe_of pg_316 rfl
set_option maxRecDepth 100000 in
theorem f_316_30 : fe 316 30 = some (.iconst (-1), 1, 12, some .int) := fe_of pg_316 rfl
set_option maxRecDepth 100000 in
theorem f_316_31 : fe 316 31 = some (.ireturn, 1, 12, some .int) := fe_of pg_316 rfl
set_option maxRecDepth 100000 in
theorem f_316_32 : fe 316 32 = some (.aload_n 0, 1, 12, some .int) := fe_of pg_316 rfl
set_option maxRecDepth 100000 in
theorem f_316_33 : fe 316 33 = some (.iconst 0, 1, 12, some .int) := fe_of pg_316 rfl
set_option maxRecDepth 100000 in
theorem f_316_34 : fe 316 34 = some (.invokevirtual 403, 3, 12, some .int) := fe_of pg_316 rfl
set_option maxRecDepth 100000 in
theorem f_316_37 : fe 316 37 = some (.ldc_w 442, 3, 12, some .int) := fe_of pg_316 rfl
set_option maxRecDepth 100000 in
theorem f_316_40 : fe 316 40 = some (.istore 4, 2, 12, some .int) := fe_of pg_316 rfl
set_option maxRecDepth 100000 in
theorem f_316_42 : fe 316 42 = some (.iconst (-1), 1, 12, some .int) := fe_of pg_316 rfl
set_option maxRecDepth 100000 in
theorem f_316_43 : fe 316 43 = some (.istore 5, 2, 12, some .int) := fe_of pg_316 rfl
set_option maxRecDepth 100000 in
theorem f_316_45 : fe 316 45 = some (.iconst 0, 1, 12, some .int) := fe_of pg_316 rfl
set_option maxRecDepth 100000 in
theorem f_316_46 : fe 316 46 = some (.istore 6, 2, 12, some .int) := fe_of pg_316 rfl
set_option maxRecDepth 100000 in
theorem f_316_48 : fe 316 48 = some (.iload 6, 2, 12, some .int) := fe_of pg_316 rfl
set_option maxRecDepth 100000 in
theorem f_316_50 : fe 316 50 = some (.aload_n 0, 1, 12, some .int) := fe_of pg_316 rfl
set_option maxRecDepth 100000 in
theorem f_316_51 : fe 316 51 = some (.getfield 297, 3, 12, some .int) := fe_of pg_316 rfl
set_option maxRecDepth 100000 in
theorem f_316_54 : fe 316 54 = some (.if_icmp .ge 55, 3, 12, some .int) := fe_of pg_316 rfl
set_option maxRecDepth 100000 in
theorem f_316_57 : fe 316 57 = some (.aload_n 0, 1, 12, some .int) := fe_of pg_316 rfl
set_option maxRecDepth 100000 in
theorem f_316_58 : fe 316 58 = some (.iload_n 2, 1, 12, some .int) := fe_of pg_316 rfl
set_option maxRecDepth 100000 in
theorem f_316_59 : fe 316 59 = some (.invokevirtual 394, 3, 12, some .int) := fe_of pg_316 rfl
set_option maxRecDepth 100000 in
theorem f_316_62 : fe 316 62 = some (.aload_n 0, 1, 12, some .int) := fe_of pg_316 rfl
set_option maxRecDepth 100000 in
theorem f_316_63 : fe 316 63 = some (.iconst 3, 1, 12, some .int) := fe_of pg_316 rfl
set_option maxRecDepth 100000 in
theorem f_316_64 : fe 316 64 = some (.iload 6, 2, 12, some .int) := fe_of pg_316 rfl
set_option maxRecDepth 100000 in
theorem f_316_66 : fe 316 66 = some (.iadd, 1, 12, some .int) := fe_of pg_316 rfl
set_option maxRecDepth 100000 in
theorem f_316_67 : fe 316 67 = some (.invokevirtual 293, 3, 12, some .int) := fe_of pg_316 rfl
set_option maxRecDepth 100000 in
theorem f_316_70 : fe 316 70 = some (.isub, 1, 12, some .int) := fe_of pg_316 rfl
set_option maxRecDepth 100000 in
theorem f_316_71 : fe 316 71 = some (.istore 7, 2, 12, some .int) := fe_of pg_316 rfl
set_option maxRecDepth 100000 in
theorem f_316_73 : fe 316 73 = some (.iload 7, 2, 12, some .int) := fe_of pg_316 rfl
set_option maxRecDepth 100000 in
theorem f_316_75 : fe 316 75 = some (.iload 4, 2, 12, some .int) := fe_of pg_316 rfl
set_option maxRecDepth 100000 in
theorem f_316_77 : fe 316 77 = some (.if_icmp .ge 8, 3, 12, some .int) := fe_of pg_316 rfl
set_option maxRecDepth 100000 in
theorem f_316_80 : fe 316 80 = some (.iload 6, 2, 12, some .int) := fe_of pg_316 rfl
set_option maxRecDepth 100000 in
theorem f_316_82 : fe 316 82 = some (.goto 5, 3, 12, some .int) := fe_of pg_316 rfl
set_option maxRecDepth 100000 in
theorem f_316_85 : fe 316 85 = some (.iload 5, 2, 12, some .int) := fe_of pg_316 rfl
set_option maxRecDepth 100000 in
theorem f_316_87 : fe 316 87 = some (.istore 5, 2, 12, some .int) := fe_of pg_316 rfl
set_option maxRecDepth 100000 in
theorem f_316_89 : fe 316 89 = some (.iload 4, 2, 12, some .int) := fe_of pg_316 rfl
set_option maxRecDepth 100000 in
theorem f_316_91 : fe 316 91 = some (.iload 7, 2, 12, some .int) := fe_of pg_316 rfl
set_option maxRecDepth 100000 in
theorem f_316_93 : fe 316 93 = some (.invokestatic 346, 3, 12, some .int) := fe_of pg_316 rfl
set_option maxRecDepth 100000 in
theorem f_316_96 : fe 316 96 = some (.istore 4, 2, 12, some .int) := fe_of pg_316 rfl
set_option maxRecDepth 100000 in
theorem f_316_98 : fe 316 98 = some (.aload_n 0, 1, 12, some .int) := fe_of pg_316 rfl
set_option maxRecDepth 100000 in
theorem f_316_99 : fe 316 99 = some (.iload_n 2, 1, 12, some .int) := fe_of pg_316 rfl
set_option maxRecDepth 100000 in
theorem f_316_100 : fe 316 100 = some (.invokevirtual 397, 3, 12, some .int) := fe_of pg_316 rfl
set_option maxRecDepth 100000 in
theorem f_316_103 : fe 316 103 = some (.iinc 6 1, 3, 12, some .int) := fe_of pg_316 rfl
set_option maxRecDepth 100000 in
theorem f_316_106 : fe 316 106 = some (.goto (-58), 3, 12, some .int) := fe_of pg_316 rfl
set_option maxRecDepth 100000 in
theorem f_316_109 : fe 316 109 = some (.iload_n 3, 1, 12, some .int) := fe_of pg_316 rfl
set_option maxRecDepth 100000 in
theorem f_316_110 : fe 316 110 = some (.ifCond .eq 8, 3, 12, some .int) := fe_of pg_316 rfl
set_option maxRecDepth 100000 in
theorem f_316_113 : fe 316 113 = some (.iload 5, 2, 12, some .int) := fe_of pg_316 rfl
set_option maxRecDepth 100000 in
theorem f_316_115 : fe 316 115 = some (.goto 5, 3, 12, some .int) := fe_of pg_316 rfl
set_option maxRecDepth 100000 in
theorem f_316_118 : fe 316 118 = some (.iload 4, 2, 12, some .int) := fe_of pg_316 rfl
set_option maxRecDepth 100000 in
theorem f_316_120 : fe 316 120 = some (.ireturn, 1, 12, some .int) := fe_of pg_316 rfl
set_option maxRecDepth 100000 in
theorem f_317_0 : fe 317 0 = some (.aload_n 0, 1, 12, some .long) := fe_of pg_317 rfl
set_option maxRecDepth 100000 in
theorem f_317_1 : fe 317 1 = some (.iconst 0, 1, 12, some .long) := fe_of pg_317 rfl
set_option maxRecDepth 100000 in
theorem f_317_2 : fe 317 2 = some (.putfield 109, 3, 12, some .long) := fe_of pg_317 rfl
set_option maxRecDepth 100000 in
theorem f_317_5 : fe 317 5 = some (.aload_n 0, 1, 12, some .long) := fe_of pg_317 rfl
set_option maxRecDepth 100000 in
theorem f_317_6 : fe 317 6 = some (.iload_n 1, 1, 12, some .long) := fe_of pg_317 rfl
set_option maxRecDepth 100000 in
theorem f_317_7 : fe 317 7 = some (.iload_n 2, 1, 12, some .long) := fe_of pg_317 rfl
set_option maxRecDepth 100000 in
theorem f_317_8 : fe 317 8 = some (.invokevirtual 433, 3, 12, some .long) := fe_of pg_317 rfl
set_option maxRecDepth 100000 in
theorem f_317_11 : fe 317 11 = some (.ifCond .ne 7, 3, 12, some .long) := fe_of pg_317 rfl
set_option maxRecDepth 100000 in
theorem f_317_14 : fe 317 14 = some (.ldc2_w 549, 3, 12, some .long) := fe_of pg_317 rfl
set_option maxRecDepth 100000 in
theorem f_317_17 : fe 317 17 = some (.lreturn, 1, 12, some .long) := fe_of pg_317 rfl
set_option maxRecDepth 100000 in
theorem f_317_18 : fe 317 18 = some (.aload_n 0, 1, 12, some .long) := fe_of pg_317 rfl
set_option maxRecDepth 100000 in
theorem f_317_19 : fe 317 19 = some (.iconst 0, 1, 12, some .long) := fe_of pg_317 rfl
set_option maxRecDepth 100000 in
theorem f_317_20 : fe 317 20 = some (.invokevirtual 403, 3, 12, some .long) := fe_of pg_317 rfl
set_option maxRecDepth 100000 in
theorem f_317_23 : fe 317 23 = some (.iconst 0, 1, 12, some .long) := fe_of pg_317 rfl
set_option maxRecDepth 100000 in
theorem f_317_24 : fe 317 24 = some (.istore_n 3, 1, 12, some .long) := fe_of pg_317 rfl
set_option maxRecDepth 100000 in
theorem f_317_25 : fe 317 25 = some (.iload_n 3, 1, 12, some .long) := fe_of pg_317 rfl
set_option maxRecDepth 100000 in
theorem f_317_26 : fe 317 26 = some (.aload_n 0, 1, 12, some .long) := fe_of pg_317 rfl
set_option maxRecDepth 100000 in
theorem f_317_27 : fe 317 27 = some (.getfield 297, 3, 12, some .long) := fe_of pg_317 rfl
set_option maxRecDepth 100000 in
theorem f_317_30 : fe 317 30 = some (.if_icmp .ge 25, 3, 12, some .long) := fe_of pg_317 rfl
set_option maxRecDepth 100000 in
theorem f_317_33 : fe 317 33 = some (.aload_n 0, 1, 12, some .long) := fe_of pg_317 rfl
set_option maxRecDepth 100000 in
theorem f_317_34 : fe 317 34 = some (.getfield 99, 3, 12, some .long) := fe_of pg_317 rfl
set_option maxRecDepth 100000 in
theorem f_317_37 : fe 317 37 = some (.iload_n 3, 1, 12, some .long) := fe_of pg_317 rfl
set_option maxRecDepth 100000 in
theorem f_317_38 : fe 317 38 = some (.aload_n 0, 1, 12, some .long) := fe_of pg_317 rfl
set_option maxRecDepth 100000 in
theorem f_317_39 : fe 317 39 = some (.iload_n 2, 1, 12, some .long) := fe_of pg_317 rfl
set_option maxRecDepth 100000 in
theorem f_317_40 : fe 317 40 = some (.invokevirtual 394, 3, 12, some .long) := fe_of pg_317 rfl
set_option maxRecDepth 100000 in
theorem f_317_43 : fe 317 43 = some (.iastore, 1, 12, some .long) := fe_of pg_317 rfl
set_option maxRecDepth 100000 in
theorem f_317_44 : fe 317 44 = some (.aload_n 0, 1, 12, some .long) := fe_of pg_317 rfl
set_option maxRecDepth 100000 in
theorem f_317_45 : fe 317 45 = some (.iload_n 2, 1, 12, some .long) := fe_of pg_317 rfl
set_option maxRecDepth 100000 in
theorem f_317_46 : fe 317 46 = some (.invokevirtual 397, 3, 12, some .long) := fe_of pg_317 rfl
set_option maxRecDepth 100000 in
theorem f_317_49 : fe 317 49 = some (.iinc 3 1, 3, 12, some .long) := fe_of pg_317 rfl
set_option maxRecDepth 100000 in
theorem f_317_52 : fe 317 52 = some (.goto (-27), 3, 12, some .long) := fe_of pg_317 rfl
set_option maxRecDepth 100000 in
theorem f_317_55 : fe 317 55 = some (.iconst 1, 1, 12, some .long) := fe_of pg_317 rfl
set_option maxRecDepth 100000 in
theorem f_317_56 : fe 317 56 = some (.aload_n 0, 1, 12, some .long) := fe_of pg_317 rfl
set_option maxRecDepth 100000 in
theorem f_317_57 : fe 317 57 = some (.getfield 297, 3, 12, some .long) := fe_of pg_317 rfl
set_option maxRecDepth 100000 in
theorem f_317_60 : fe 317 60 = some (.ishl, 1, 12, some .long) := fe_of pg_317 rfl
set_option maxRecDepth 100000 in
theorem f_317_61 : fe 317 61 = some (.iconst 1, 1, 12, some .long) := fe_of pg_317 rfl
set_option maxRecDepth 100000 in
theorem f_317_62 : fe 317 62 = some (.isub, 1, 12, some .long) := fe_of pg_317 rfl
set_option maxRecDepth 100000 in
theorem f_317_63 : fe 317 63 = some (.istore_n 3, 1, 12, some .long) := fe_of pg_317 rfl
set_option maxRecDepth 100000 in
theorem f_317_64 : fe 317 64 = some (.aload_n 0, 1, 12, some .long) := fe_of pg_317 rfl
set_option maxRecDepth 100000 in
theorem f_317_65 : fe 317 65 = some (.getfield 102, 3, 12, some .long) := fe_of pg_317 rfl
set_option maxRecDepth 100000 in
theorem f_317_68 : fe 317 68 = some (.iload_n 3, 1, 12, some .long) := fe_of pg_317 rfl
set_option maxRecDepth 100000 in
theorem f_317_69 : fe 317 69 = some (.lconst 1, 1, 12, some .long) := fe_of pg_317 rfl
set_option maxRecDepth 100000 in
theorem f_317_70 : fe 317 70 = some (.lastore, 1, 12, some .long) := fe_of pg_317 rfl
set_option maxRecDepth 100000 in
theorem f_317_71 : fe 317 71 = some (.iload_n 3, 1, 12, some .long) := fe_of pg_317 rfl
set_option maxRecDepth 100000 in
theorem f_317_72 : fe 317 72 = some (.iconst 1, 1, 12, some .long) := fe_of pg_317 rfl
set_option maxRecDepth 100000 in
theorem f_317_73 : fe 317 73 = some (.isub, 1, 12, some .long) := fe_of pg_317 rfl
set_option maxRecDepth 100000 in
theorem f_317_74 : fe 317 74 = some (.istore 4, 2, 12, some .long) := fe_of pg_317 rfl
set_option maxRecDepth 100000 in
theorem f_317_76 : fe 317 76 = some (.iload 4, 2, 12, some .long) := fe_of pg_317 rfl
set_option maxRecDepth 100000 in
theorem f_317_78 : fe 317 78 = some (.ifCond .lt 103, 3, 12, some .long) := fe_of pg_317 rfl
set_option maxRecDepth 100000 in
theorem f_317_81 : fe 317 81 = some (.lconst 0, 1, 12, some .long) := fe_of pg_317 rfl
set_option maxRecDepth 100000 in
theorem f_317_82 : fe 317 82 = some (.lstore 5, 2, 12, some .long) := fe_of pg_317 rfl
set_option maxRecDepth 100000 in
theorem f_317_84 : fe 317 84 = some (.iconst 0, 1, 12, some .long) := fe_of pg_317 rfl
set_option maxRecDepth 100000 in
theorem f_317_85 : fe 317 85 = some (.istore 7, 2, 12, some .long) := fe_of pg_317 rfl
set_option maxRecDepth 100000 in
theorem f_317_87 : fe 317 87 = some (.iload 7, 2, 12, some .long) := fe_of pg_317 rfl
set_option maxRecDepth 100000 in
theorem f_317_89 : fe 317 89 = some (.aload_n 0, 1, 12, some .long) := fe_of pg_317 rfl
set_option maxRecDepth 100000 in
theorem f_317_90 : fe 317 90 = some (.getfield 297, 3, 12, some .long) := fe_of pg_317 rfl
set_option maxRecDepth 100000 in
theorem f_317_93 : fe 317 93 = some (.if_icmp .ge 73, 3, 12, some .long) := fe_of pg_317 rfl
set_option maxRecDepth 100000 in
theorem f_317_96 : fe 317 96 = some (.iload 4, 2, 12, some .long) := fe_of pg_317 rfl
set_option maxRecDepth 100000 in
theorem f_317_98 : fe 317 98 = some (.iload 7, 2, 12, some .long) := fe_of pg_317 rfl
set_option maxRecDepth 100000 in
theorem f_317_100 : fe 317 100 = some (.invokestatic 113, 3, 12, some .long) := fe_of pg_317 rfl
set_option maxRecDepth 100000 in
theorem f_317_103 : fe 317 103 = some (.ifCond .ne 28, 3, 12, some .long) := fe_of pg_317 rfl
set_option maxRecDepth 100000 in
theorem f_317_106 : fe 317 106 = some (.aload_n 0, 1, 12, some .long) := fe_of pg_317 rfl
set_option maxRecDepth 100000 in
theorem f_317_107 : fe 317 107 = some (.getfield 99, 3, 12, some .long) := fe_of pg_317 rfl
set_option maxRecDepth 100000 in
theorem f_317_110 : fe 317 110 = some (.iload 4, 2, 12, some .long) := fe_of pg_317 rfl
set_option maxRecDepth 100000 in
theorem f_317_112 : fe 317 112 = some (.invokestatic 391, 3, 12, some .long) := fe_of pg_317 rfl
set_option maxRecDepth 100000 in
theorem f_317_115 : fe 317 115 = some (.iaload, 1, 12, some .long) := fe_of pg_317 rfl
set_option maxRecDepth 100000 in
theorem f_317_116 : fe 317 116 = some (.aload_n 0, 1, 12, some .long) := fe_of pg_317 rfl
set_option maxRecDepth 100000 in
theorem f_317_117 : fe 317 117 = some (.iconst 3, 1, 12, some .long) := fe_of pg_317 rfl
set_option maxRecDepth 100000 in
theorem f_317_118 : fe 317 118 = some (.iload 7, 2, 12, some .long) := fe_of pg_317 rfl
set_option maxRecDepth 100000 in
theorem f_317_120 : fe 317 120 = some (.iadd, 1, 12, some .long) := fe_of pg_317 rfl
set_option maxRecDepth 100000 in
theorem f_317_121 : fe 317 121 = some (.invokevirtual 293, 3, 12, some .long) := fe_of pg_317 rfl
set_option maxRecDepth 100000 in
theorem f_317_124 : fe 317 124 = some (.if_icmp .lt 7, 3, 12, some .long) := fe_of pg_317 rfl
set_option maxRecDepth 100000 in
theorem f_317_127 : fe 317 127 = some (.iconst 1, 1, 12, some .long) := fe_of pg_317 rfl
set_option maxRecDepth 100000 in
theorem f_317_128 : fe 317 128 = some (.goto 4, 3, 12, some .long) := fe_of pg_317 rfl
set_option maxRecDepth 100000 in
theorem f_317_131 : fe 317 131 = some (.iconst 0, 1, 12, some .long) := fe_of pg_317 rfl
set_option maxRecDepth 100000 in
theorem f_317_132 : fe 317 132 = some (.istore 8, 2, 12, some .long) := fe_of pg_317 rfl
set_option maxRecDepth 100000 in
theorem f_317_134 : fe 317 134 = some (.lload 5, 2, 12, some .long) := fe_of pg_317 rfl
set_option maxRecDepth 100000 in
theorem f_317_136 : fe 317 136 = some (.iload 8, 2, 12, some .long) := fe_of pg_317 rfl
set_option maxRecDepth 100000 in
theorem f_317_138 : fe 317 138 = some (.ifCond .eq 18, 3, 12, some .long) := fe_of pg_317 rfl
set_option maxRecDepth 100000 in
theorem f_317_141 : fe 317 141 = some (.aload_n 0, 1, 12, some .long) := fe_of pg_317 rfl
set_option maxRecDepth 100000 in
theorem f_317_142 : fe 317 142 = some (.getfield 102, 3, 12, some .long) := fe_of pg_317 rfl
set_option maxRecDepth 100000 in
theorem f_317_145 : fe 317 145 = some (.iload 4, 2, 12, some .long) := fe_of pg_317 rfl
set_option maxRecDepth 100000 in
theorem f_317_147 : fe 317 147 = some (.iconst 1, 1, 12, some .long) := fe_of pg_317 rfl
set_option maxRecDepth 100000 in
theorem f_317_148 : fe 317 148 = some (.iload 7, 2, 12, some .long) := fe_of pg_317 rfl
set_option maxRecDepth 100000 in
theorem f_317_150 : fe 317 150 = some (.ishl, 1, 12, some .long) := fe_of pg_317 rfl
set_option maxRecDepth 100000 in
theorem f_317_151 : fe 317 151 = some (.ior, 1, 12, some .long) := fe_of pg_317 rfl
set_option maxRecDepth 100000 in
theorem f_317_152 : fe 317 152 = some (.laload, 1, 12, some .long) := fe_of pg_317 rfl
set_option maxRecDepth 100000 in
theorem f_317_153 : fe 317 153 = some (.goto 4, 3, 12, some .long) := fe_of pg_317 rfl
set_option maxRecDepth 100000 in
theorem f_317_156 : fe 317 156 = some (.lconst 0, 1, 12, some .long) := fe_of pg_317 rfl
set_option maxRecDepth 100000 in
theorem f_317_157 : fe 317 157 = some (.ladd, 1, 12, some .long) := fe_of pg_317 rfl
set_option maxRecDepth 100000 in
theorem f_317_158 : fe 317 158 = some (.lstore 5, 2, 12, some .long) := fe_of pg_317 rfl
set_option maxRecDepth 100000 in
theorem f_317_160 : fe 317 160 = some (.iinc 7 1, 3, 12, some .long) := fe_of pg_317 rfl
set_option maxRecDepth 100000 in
theorem f_317_163 : fe 317 163 = some (.goto (-76), 3, 12, some .long) := fe_of pg_317 rfl
set_option maxRecDepth 100000 in
theorem f_317_166 : fe 317 166 = some (.aload_n 0, 1, 12, some .long) := fe_of pg_317 rfl
set_option maxRecDepth 100000 in
theorem f_317_167 : fe 317 167 = some (.getfield 102, 3, 12, some .long) := fe_of pg_317 rfl
set_option maxRecDepth 100000 in
theorem f_317_170 : fe 317 170 = some (.iload 4, 2, 12, some .long) := fe_of pg_317 rfl
set_option maxRecDepth 100000 in
theorem f_317_172 : fe 317 172 = some (.lload 5, 2, 12, some .long) := fe_of pg_317 rfl
set_option maxRecDepth 100000 in
theorem f_317_174 : fe 317 174 = some (.lastore, 1, 12, some .long) := fe_of pg_317 rfl
set_option maxRecDepth 100000 in
theorem f_317_175 : fe 317 175 = some (.iinc 4 (-1), 3, 12, some .long) := fe_of pg_317 rfl
set_option maxRecDepth 100000 in
theorem f_317_178 : fe 317 178 = some (.goto (-102), 3, 12, some .long) := fe_of pg_317 rfl
set_option maxRecDepth 100000 in
theorem f_317_181 : fe 317 181 = some (.aload_n 0, 1, 12, some .long) := fe_of pg_317 rfl
set_option maxRecDepth 100000 in
theorem f_317_182 : fe 317 182 = some (.getfield 102, 3, 12, some .long) := fe_of pg_317 rfl
set_option maxRecDepth 100000 in
theorem f_317_185 : fe 317 185 = some (.iconst 0, 1, 12, some .long) := fe_of pg_317 rfl
set_option maxRecDepth 100000 in
theorem f_317_186 : fe 317 186 = some (.laload, 1, 12, some .long) := fe_of pg_317 rfl
set_option maxRecDepth 100000 in
theorem f_317_187 : fe 317 187 = some (.lreturn, 1, 12, some .long) := fe_of pg_317 rfl
set_option maxRecDepth 100000 in
theorem f_318_0 : fe 318 0 = some (.aload_n 0, 1, 12, some .int) := fe_of pg_318 rfl
set_option maxRecDepth 100000 in
theorem f_318_1 : fe 318 1 = some (.iconst 0, 1, 12, some .int) := fe_of pg_318 rfl
set_option maxRecDepth 100000 in
theorem f_318_2 : fe 318 2 = some (.putfield 109, 3, 12, some .int) := fe_of pg_318 rfl
set_option maxRecDepth 100000 in
theorem f_318_5 : fe 318 5 = some (.aload_n 0, 1, 12, some .int) := fe_of pg_318 rfl
set_option maxRecDepth 100000 in
theorem f_318_6 : fe 318 6 = some (.iload_n 1, 1, 12, some .int) := fe_of pg_318 rfl
set_option maxRecDepth 100000 in
theorem f_318_7 : fe 318 7 = some (.invokevirtual 306, 3, 12, some .int) := fe_of pg_318 rfl
set_option maxRecDepth 100000 in
theorem f_318_10 : fe 318 10 = some (.ifCond .ne 5, 3, 12, some .int) := fe_of pg_318 rfl
set_option maxRecDepth 100000 in
theorem f_318_13 : fe 318 13 = some (.iconst (-1), 1, 12, some .int) := fe_of pg_318 rfl
set_option maxRecDepth 100000 in
theorem f_318_14 : fe 318 14 = some (.ireturn, 1, 12, some .int) := fe_of pg_318 rfl
set_option maxRecDepth 100000 in
theorem f_318_15 : fe 318 15 = some (.aload_n 0, 1, 12, some .int) := fe_of pg_318 rfl
set_option maxRecDepth 100000 in
theorem f_318_16 : fe 318 16 = some (.invokevirtual 418, 3, 12, some .int) := fe_of pg_318 rfl
set_option maxRecDepth 100000 in
theorem f_318_19 : fe 318 19 = some (.iconst 1, 1, 12, some .int) := fe_of pg_318 rfl
set_option maxRecDepth 100000 in
theorem f_318_20 : fe 318 20 = some (.aload_n 0, 1, 12, some .int) := fe_of pg_318 rfl
set_option maxRecDepth 100000 in
theorem f_318_21 : fe 318 21 = some (.getfield 303, 3, 12, some .int) := fe_of pg_318 rfl
set_option maxRecDepth 100000 in
theorem f_318_24 : fe 318 24 = some (.ishl, 1, 12, some .int) := fe_of pg_318 rfl
set_option maxRecDepth 100000 in
theorem f_318_25 : fe 318 25 = some (.iconst 1, 1, 12, some .int) := fe_of pg_318 rfl
set_option maxRecDepth 100000 in
theorem f_318_26 : fe 318 26 = some (.isub, 1, 12, some .int) := fe_of pg_318 rfl
set_option maxRecDepth 100000 in
theorem f_318_27 : fe 318 27 = some (.istore_n 3, 1, 12, some .int) := fe_of pg_318 rfl
set_option maxRecDepth 100000 in
theorem f_318_28 : fe 318 28 = some (.iconst (-1), 1, 12, some .int) := fe_of pg_318 rfl
set_option maxRecDepth 100000 in
theorem f_318_29 : fe 318 29 = some (.istore 4, 2, 12, some .int) := fe_of pg_318 rfl
set_option maxRecDepth 100000 in
theorem f_318_31 : fe 318 31 = some (.ldc_w 442, 3, 12, some .int) := fe_of pg_318 rfl
set_option maxRecDepth 100000 in
theorem f_318_34 : fe 318 34 = some (.istore 5, 2, 12, some .int) := fe_of pg_318 rfl
set_option maxRecDepth 100000 in
theorem f_318_36 : fe 318 36 = some (.iconst 1, 1, 12, some .int) := fe_of pg_318 rfl
set_option maxRecDepth 100000 in
theorem f_318_37 : fe 318 37 = some (.istore 6, 2, 12, some .int) := fe_of pg_318 rfl
set_option maxRecDepth 100000 in
theorem f_318_39 : fe 318 39 = some (.iload 6, 2, 12, some .int) := fe_of pg_318 rfl
set_option maxRecDepth 100000 in
theorem f_318_41 : fe 318 41 = some (.iload_n 3, 1, 12, some .int) := fe_of pg_318 rfl
set_option maxRecDepth 100000 in
theorem f_318_42 : fe 318 42 = some (.if_icmp .ge 109, 3, 12, some .int) := fe_of pg_318 rfl
set_option maxRecDepth 100000 in
theorem f_318_45 : fe 318 45 = some (.aload_n 0, 1, 12, some .int) := fe_of pg_318 rfl
set_option maxRecDepth 100000 in
theorem f_318_46 : fe 318 46 = some (.iload 6, 2, 12, some .int) := fe_of pg_318 rfl
set_option maxRecDepth 100000 in
theorem f_318_48 : fe 318 48 = some (.invokevirtual 415, 3, 12, some .int) := fe_of pg_318 rfl
set_option maxRecDepth 100000 in
theorem f_318_51 : fe 318 51 = some (.aload_n 0, 1, 12, some .int) := fe_of pg_318 rfl
set_option maxRecDepth 100000 in
theorem f_318_52 : fe 318 52 = some (.iload_n 3, 1, 12, some .int) := fe_of pg_318 rfl
set_option maxRecDepth 100000 in
theorem f_318_53 : fe 318 53 = some (.iload 6, 2, 12, some .int) := fe_of pg_318 rfl
set_option maxRecDepth 100000 in
theorem f_318_55 : fe 318 55 = some (.iconst (-1), 1, 12, some .int) := fe_of pg_318 rfl
set_option maxRecDepth 100000 in
theorem f_318_56 : fe 318 56 = some (.ixor, 1, 12, some .int) := fe_of pg_318 rfl
set_option maxRecDepth 100000 in
theorem f_318_57 : fe 318 57 = some (.iand, 1, 12, some .int) := fe_of pg_318 rfl
set_option maxRecDepth 100000 in
theorem f_318_58 : fe 318 58 = some (.invokevirtual 415, 3, 12, some .int) := fe_of pg_318 rfl
set_option maxRecDepth 100000 in
theorem f_318_61 : fe 318 61 = some (.isub, 1, 12, some .int) := fe_of pg_318 rfl
set_option maxRecDepth 100000 in
theorem f_318_62 : fe 318 62 = some (.istore 7, 2, 12, some .int) := fe_of pg_318 rfl
set_option maxRecDepth 100000 in
theorem f_318_64 : fe 318 64 = some (.iload 7, 2, 12, some .int) := fe_of pg_318 rfl
set_option maxRecDepth 100000 in
theorem f_318_66 : fe 318 66 = some (.ifCond .ge 9, 3, 12, some .int) := fe_of pg_318 rfl
set_option maxRecDepth 100000 in
theorem f_318_69 : fe 318 69 = some (.iload 7, 2, 12, some .int) := fe_of pg_318 rfl
set_option maxRecDepth 100000 in
theorem f_318_71 : fe 318 71 = some (.ineg, 1, 12, some .int) := fe_of pg_318 rfl
set_option maxRecDepth 100000 in
theorem f_318_72 : fe 318 72 = some (.goto 5, 3, 12, some .int) := fe_of pg_318 rfl
set_option maxRecDepth 100000 in
theorem f_318_75 : fe 318 75 = some (.iload 7, 2, 12, some .int) := fe_of pg_318 rfl
set_option maxRecDepth 100000 in
theorem f_318_77 : fe 318 77 = some (.istore 7, 2, 12, some .int) := fe_of pg_318 rfl
set_option maxRecDepth 100000 in
theorem f_318_79 : fe 318 79 = some (.aload_n 0, 1, 12, some .int) := fe_of pg_318 rfl
set_option maxRecDepth 100000 in
theorem f_318_80 : fe 318 80 = some (.getfield 53, 3, 12, some .int) := fe_of pg_318 rfl
set_option maxRecDepth 100000 in
theorem f_318_83 : fe 318 83 = some (.iload 6, 2, 12, some .int) := fe_of pg_318 rfl
set_option maxRecDepth 100000 in
theorem f_318_85 : fe 318 85 = some (.baload, 1, 12, some .int) := fe_of pg_318 rfl
set_option maxRecDepth 100000 in
theorem f_318_86 : fe 318 86 = some (.ifCond .eq 28, 3, 12, some .int) := fe_of pg_318 rfl
set_option maxRecDepth 100000 in
theorem f_318_89 : fe 318 89 = some (.aload_n 0, 1, 12, some .int) := fe_of pg_318 rfl
set_option maxRecDepth 100000 in
theorem f_318_90 : fe 318 90 = some (.getfield 53, 3, 12, some .int) := fe_of pg_318 rfl
set_option maxRecDepth 100000 in
theorem f_318_93 : fe 318 93 = some (.iload_n 3, 1, 12, some .int) := fe_of pg_318 rfl
set_option maxRecDepth 100000 in
theorem f_318_94 : fe 318 94 = some (.iload 6, 2, 12, some .int) := fe_of pg_318 rfl
set_option maxRecDepth 100000 in
theorem f_318_96 : fe 318 96 = some (.iconst (-1), 1, 12, some .int) := fe_of pg_318 rfl
set_option maxRecDepth 100000 in
theorem f_318_97 : fe 318 97 = some (.ixor, 1, 12, some .int) := fe_of pg_318 rfl
set_option maxRecDepth 100000 in
theorem f_318_98 : fe 318 98 = some (.iand, 1, 12, some .int) := fe_of pg_318 rfl
set_option maxRecDepth 100000 in
theorem f_318_99 : fe 318 99 = some (.baload, 1, 12, some .int) := fe_of pg_318 rfl
set_option maxRecDepth 100000 in
theorem f_318_100 : fe 318 100 = some (.ifCond .eq 14, 3, 12, some .int) := fe_of pg_318 rfl
set_option maxRecDepth 100000 in
theorem f_318_103 : fe 318 103 = some (.iload 7, 2, 12, some .int) := fe_of pg_318 rfl
set_option maxRecDepth 100000 in
theorem f_318_105 : fe 318 105 = some (.iload 5, 2, 12, some .int) := fe_of pg_318 rfl
set_option maxRecDepth 100000 in
theorem f_318_107 : fe 318 107 = some (.if_icmp .ge 7, 3, 12, some .int) := fe_of pg_318 rfl
set_option maxRecDepth 100000 in
theorem f_318_110 : fe 318 110 = some (.iconst 1, 1, 12, some .int) := fe_of pg_318 rfl
set_option maxRecDepth 100000 in
theorem f_318_111 : fe 318 111 = some (.goto 4, 3, 12, some .int) := fe_of pg_318 rfl
set_option maxRecDepth 100000 in
theorem f_318_114 : fe 318 114 = some (.iconst 0, 1, 12, some .int) := fe_of pg_318 rfl
set_option maxRecDepth 100000 in
theorem f_318_115 : fe 318 115 = some (.istore 8, 2, 12, some .int) := fe_of pg_318 rfl
set_option maxRecDepth 100000 in
theorem f_318_117 : fe 318 117 = some (.iload 8, 2, 12, some .int) := fe_of pg_318 rfl
set_option maxRecDepth 100000 in
theorem f_318_119 : fe 318 119 = some (.ifCond .eq 8, 3, 12, some .int) := fe_of pg_318 rfl
set_option maxRecDepth 100000 in
theorem f_318_122 : fe 318 122 = some (.iload 6, 2, 12, some .int) := fe_of pg_318 rfl
set_option maxRecDepth 100000 in
theorem f_318_124 : fe 318 124 = some (.goto 5, 3, 12, some .int) := fe_of pg_318 rfl
set_option maxRecDepth 100000 in
theorem f_318_127 : fe 318 127 = some (.iload 4, 2, 12, some .int) := fe_of pg_318 rfl
set_option maxRecDepth 100000 in
theorem f_318_129 : fe 318 129 = some (.istore 4, 2, 12, some .int) := fe_of pg_318 rfl
set_option maxRecDepth 100000 in
theorem f_318_131 : fe 318 131 = some (.iload 8, 2, 12, some .int) := fe_of pg_318 rfl
set_option maxRecDepth 100000 in
theorem f_318_133 : fe 318 133 = some (.ifCond .eq 8, 3, 12, some .int) := fe_of pg_318 rfl
set_option maxRecDepth 100000 in
theorem f_318_136 : fe 318 136 = some (.iload 7, 2, 12, some .int) := fe_of pg_318 rfl
set_option maxRecDepth 100000 in
theorem f_318_138 : fe 318 138 = some (.goto 5, 3, 12, some .int) := fe_of pg_318 rfl
set_option maxRecDepth 100000 in
theorem f_318_141 : fe 318 141 = some (.iload 5, 2, 12, some .int) := fe_of pg_318 rfl
set_option maxRecDepth 100000 in
theorem f_318_143 : fe 318 143 = some (.istore 5, 2, 12, some .int) := fe_of pg_318 rfl
set_option maxRecDepth 100000 in
theorem f_318_145 : fe 318 145 = some (.iinc 6 2, 3, 12, some .int) := fe_of pg_318 rfl
set_option maxRecDepth 100000 in
theorem f_318_148 : fe 318 148 = some (.goto (-109), 3, 12, some .int) := fe_of pg_318 rfl
set_option maxRecDepth 100000 in
theorem f_318_151 : fe 318 151 = some (.iload 4, 2, 12, some .int) := fe_of pg_318 rfl
set_option maxRecDepth 100000 in
theorem f_318_153 : fe 318 153 = some (.iconst (-1), 1, 12, some .int) := fe_of pg_318 rfl
set_option maxRecDepth 100000 in
theorem f_318_154 : fe 318 154 = some (.if_icmp .eq 7, 3, 12, some .int) := fe_of pg_318 rfl
set_option maxRecDepth 100000 in
theorem f_318_157 : fe 318 157 = some (.iload_n 2, 1, 12, some .int) := fe_of pg_318 rfl
set_option maxRecDepth 100000 in
theorem f_318_158 : fe 318 158 = some (.ifCond .eq 8, 3, 12, some .int) := fe_of pg_318 rfl
set_option maxRecDepth 100000 in
theorem f_318_161 : fe 318 161 = some (.iload 4, 2, 12, some .int) := fe_of pg_318 rfl
set_option maxRecDepth 100000 in
theorem f_318_163 : fe 318 163 = some (.goto 5, 3, 12, some .int) := fe_of pg_318 rfl
set_option maxRecDepth 100000 in
theorem f_318_166 : fe 318 166 = some (.iload 5, 2, 12, some .int) := fe_of pg_318 rfl
set_option maxRecDepth 100000 in
theorem f_318_168 : fe 318 168 = some (.ireturn, 1, 12, some .int) := fe_of pg_318 rfl
set_option maxRecDepth 100000 in
theorem f_319_0 : fe 319 0 = some (.aload_n 0, 1, 12, some .int) := fe_of pg_319 rfl
set_option maxRecDepth 100000 in
theorem f_319_1 : fe 319 1 = some (.iconst 0, 1, 12, some .int) := fe_of pg_319 rfl
set_option maxRecDepth 100000 in
theorem f_319_2 : fe 319 2 = some (.putfield 109, 3, 12, some .int) := fe_of pg_319 rfl
set_option maxRecDepth 100000 in
theorem f_319_5 : fe 319 5 = some (.iload_n 1, 1, 12, some .int) := fe_of pg_319 rfl
set_option maxRecDepth 100000 in
theorem f_319_6 : fe 319 6 = some (.iconst 0, 1, 12, some .int) := fe_of pg_319 rfl
set_option maxRecDepth 100000 in
theorem f_319_7 : fe 319 7 = some (.iconst 3, 1, 12, some .int) := fe_of pg_319 rfl
set_option maxRecDepth 100000 in
theorem f_319_8 : fe 319 8 = some (.invokestatic 121, 3, 12, some .int) := fe_of pg_319 rfl
set_option maxRecDepth 100000 in
theorem f_319_11 : fe 319 11 = some (.ifCond .eq 12, 3, 12, some .int) := fe_of pg_319 rfl
set_option maxRecDepth 100000 in
theorem f_319_14 : fe 319 14 = some (.aload_n 0, 1, 12, some .int) := fe_of pg_319 rfl
set_option maxRecDepth 100000 in
theorem f_319_15 : fe 319 15 = some (.getfield 23, 3, 12, some .int) := fe_of pg_319 rfl
set_option maxRecDepth 100000 in
theorem f_319_18 : fe 319 18 = some (.iload_n 1, 1, 12, some .int) := fe_of pg_319 rfl
set_option maxRecDepth 100000 in
theorem f_319_19 : fe 319 19 = some (.iaload, 1, 12, some .int) := fe_of pg_319 rfl
set_option maxRecDepth 100000 in
theorem f_319_20 : fe 319 20 = some (.goto 5, 3, 12, some .int) := fe_of pg_319 rfl
set_option maxRecDepth 100000 in
theorem f_319_23 : fe 319 23 = some (.bipush (-2), 2, 12, some .int) := fe_of pg_319 rfl
set_option maxRecDepth 100000 in
theorem f_319_25 : fe 319 25 = some (.ireturn, 1, 12, some .int) := fe_of pg_319 rfl
set_option maxRecDepth 100000 in
theorem f_320_0 : fe 320 0 = some (.aload_n 0, 1, 12, some .boolean) := fe_of pg_320 rfl
set_option maxRecDepth 100000 in
theorem f_320_1 : fe 320 1 = some (.iconst 0, 1, 12, some .boolean) := fe_of pg_320 rfl
set_option maxRecDepth 100000 in
theorem f_320_2 : fe 320 2 = some (.putfield 109, 3, 12, some .boolean) := fe_of pg_320 rfl
set_option maxRecDepth 100000 in
theorem f_320_5 : fe 320 5 = some (.iload_n 1, 1, 12, some .boolean) := fe_of pg_320 rfl
set_option maxRecDepth 100000 in
theorem f_320_6 : fe 320 6 = some (.iconst 0, 1, 12, some .boolean) := fe_of pg_320 rfl
set_option maxRecDepth 100000 in
theorem f_320_7 : fe 320 7 = some (.iconst 2, 1, 12, some .boolean) := fe_of pg_320 rfl
set_option maxRecDepth 100000 in
theorem f_320_8 : fe 320 8 = some (.invokestatic 121, 3, 12, some .boolean) := fe_of pg_320 rfl
set_option maxRecDepth 100000 in
theorem f_320_11 : fe 320 11 = some (.ifCond .ne 5, 3, 12, some .boolean) := fe_of pg_320 rfl
set_option maxRecDepth 100000 in
theorem f_320_14 : fe 320 14 = some (.iconst 0, 1, 12, some .boolean) := fe_of pg_320 rfl
set_option maxRecDepth 100000 in
theorem f_320_15 : fe 320 15 = some (.ireturn, 1, 12, some .boolean) := fe_of pg_320 rfl
set_option maxRecDepth 100000 in
theorem f_320_16 : fe 320 16 = some (.aload_n 0, 1, 12, some .boolean) := fe_of pg_320 rfl
set_option maxRecDepth 100000 in
theorem f_320_17 : fe 320 17 = some (.iconst 0, 1, 12, some .boolean) := fe_of pg_320 rfl
set_option maxRecDepth 100000 in
theorem f_320_18 : fe 320 18 = some (.iload_n 1, 1, 12, some .boolean) := fe_of pg_320 rfl
set_option maxRecDepth 100000 in
theorem f_320_19 : fe 320 19 = some (.iconst 1, 1, 12, some .boolean) := fe_of pg_320 rfl
set_option maxRecDepth 100000 in
theorem f_320_20 : fe 320 20 = some (.iadd, 1, 12, some .boolean) := fe_of pg_320 rfl
set_option maxRecDepth 100000 in
theorem f_320_21 : fe 320 21 = some (.invokevirtual 551, 3, 12, some .boolean) := fe_of pg_320 rfl
set_option maxRecDepth 100000 in
theorem f_320_24 : fe 320 24 = some (.aload_n 0, 1, 12, some .boolean) := fe_of pg_320 rfl
set_option maxRecDepth 100000 in
theorem f_320_25 : fe 320 25 = some (.getfield 106, 3, 12, some .boolean) := fe_of pg_320 rfl
set_option maxRecDepth 100000 in
theorem f_320_28 : fe 320 28 = some (.iload_n 1, 1, 12, some .boolean) := fe_of pg_320 rfl
set_option maxRecDepth 100000 in
theorem f_320_29 : fe 320 29 = some (.iconst 1, 1, 12, some .boolean) := fe_of pg_320 rfl
set_option maxRecDepth 100000 in
theorem f_320_30 : fe 320 30 = some (.bastore, 1, 12, some .boolean) := fe_of pg_320 rfl
set_option maxRecDepth 100000 in
theorem f_320_31 : fe 320 31 = some (.iconst 1, 1, 12, some .boolean) := fe_of pg_320 rfl
set_option maxRecDepth 100000 in
theorem f_320_32 : fe 320 32 = some (.ireturn, 1, 12, some .boolean) := fe_of pg_320 rfl
set_option maxRecDepth 100000 in
theorem f_321_0 : fe 321 0 = some (.aload_n 0, 1, 12, some .boolean) := fe_of pg_321 rfl
set_option maxRecDepth 100000 in
theorem f_321_1 : fe 321 1 = some (.iconst 0, 1, 12, some .boolean) := fe_of pg_321 rfl
set_option maxRecDepth 100000 in
theorem f_321_2 : fe 321 2 = some (.putfield 109, 3, 12, some .boolean) := fe_of pg_321 rfl
set_option maxRecDepth 100000 in
theorem f_321_5 : fe 321 5 = some (.iload_n 1, 1, 12, some .boolean) := fe_of pg_321 rfl
set_option maxRecDepth 100000 in
theorem f_321_6 : fe 321 6 = some (.iconst 0, 1, 12, some .boolean) := fe_of pg_321 rfl
set_option maxRecDepth 100000 in
theorem f_321_7 : fe 321 7 = some (.iconst 2, 1, 12, some .boolean) := fe_of pg_321 rfl
set_option maxRecDepth 100000 in
theorem f_321_8 : fe 321 8 = some (.invokestatic 121, 3, 12, some .boolean) := fe_of pg_321 rfl
set_option maxRecDepth 100000 in
theorem f_321_11 : fe 321 11 = some (.ifCond .eq 12, 3, 12, some .boolean) := fe_of pg_321 rfl
set_option maxRecDepth 100000 in
theorem f_321_14 : fe 321 14 = some (.aload_n 0, 1, 12, some .boolean) := fe_of pg_321 rfl
set_option maxRecDepth 100000 in
theorem f_321_15 : fe 321 15 = some (.getfield 106, 3, 12, some .boolean) := fe_of pg_321 rfl
set_option maxRecDepth 100000 in
theorem f_321_18 : fe 321 18 = some (.iload_n 1, 1, 12, some .boolean) := fe_of pg_321 rfl
set_option maxRecDepth 100000 in
theorem f_321_19 : fe 321 19 = some (.baload, 1, 12, some .boolean) := fe_of pg_321 rfl
set_option maxRecDepth 100000 in
theorem f_321_20 : fe 321 20 = some (.ifCond .ne 5, 3, 12, some .boolean) := fe_of pg_321 rfl
set_option maxRecDepth 100000 in
theorem f_321_23 : fe 321 23 = some (.iconst 0, 1, 12, some .boolean) := fe_of pg_321 rfl
set_option maxRecDepth 100000 in
theorem f_321_24 : fe 321 24 = some (.ireturn, 1, 12, some .boolean) := fe_of pg_321 rfl
set_option maxRecDepth 100000 in
theorem f_321_25 : fe 321 25 = some (.aload_n 0, 1, 12, some .boolean) := fe_of pg_321 rfl
set_option maxRecDepth 100000 in
theorem f_321_26 : fe 321 26 = some (.iload_n 1, 1, 12, some .boolean) := fe_of pg_321 rfl
set_option maxRecDepth 100000 in
theorem f_321_27 : fe 321 27 = some (.iconst 1, 1, 12, some .boolean) := fe_of pg_321 rfl
set_option maxRecDepth 100000 in
theorem f_321_28 : fe 321 28 = some (.iadd, 1, 12, some .boolean) := fe_of pg_321 rfl
set_option maxRecDepth 100000 in
theorem f_321_29 : fe 321 29 = some (.iconst 0, 1, 12, some .boolean) := fe_of pg_321 rfl
set_option maxRecDepth 100000 in
theorem f_321_30 : fe 321 30 = some (.invokevirtual 551, 3, 12, some .boolean) := fe_of pg_321 rfl
set_option maxRecDepth 100000 in
theorem f_321_33 : fe 321 33 = some (.iconst 1, 1, 12, some .boolean) := fe_of pg_321 rfl
set_option maxRecDepth 100000 in
theorem f_321_34 : fe 321 34 = some (.ireturn, 1, 12, some .boolean) := fe_of pg_321 rfl
