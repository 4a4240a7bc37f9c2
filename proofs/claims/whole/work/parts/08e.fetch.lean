set_option maxRecDepth 100000 in
theorem f_129_0 : fe 129 0 = some (.aload_n 0, 1, 10, none) := fe_of pg_129 rfl
set_option maxRecDepth 100000 in
theorem f_129_1 : fe 129 1 = some (.invokespecial 3, 3, 10, none) := fe_of pg_129 rfl
set_option maxRecDepth 100000 in
theorem f_129_4 : fe 129 4 = some (.aload_n 0, 1, 10, none) := fe_of pg_129 rfl
set_option maxRecDepth 100000 in
theorem f_129_5 : fe 129 5 = some (.sipush 256, 3, 10, none) := fe_of pg_129 rfl
set_option maxRecDepth 100000 in
theorem f_129_8 : fe 129 8 = some (.newarray .boolean, 2, 10, none) := fe_of pg_129 rfl
set_option maxRecDepth 100000 in
theorem f_129_10 : fe 129 10 = some (.putfield 9, 3, 10, none) := fe_of pg_129 rfl
set_option maxRecDepth 100000 in
theorem f_129_13 : fe 129 13 = some (.aload_n 0, 1, 10, none) := fe_of pg_129 rfl
set_option maxRecDepth 100000 in
theorem f_129_14 : fe 129 14 = some (.sipush 256, 3, 10, none) := fe_of pg_129 rfl
set_option maxRecDepth 100000 in
theorem f_129_17 : fe 129 17 = some (.newarray .int, 2, 10, none) := fe_of pg_129 rfl
set_option maxRecDepth 100000 in
theorem f_129_19 : fe 129 19 = some (.putfield 15, 3, 10, none) := fe_of pg_129 rfl
set_option maxRecDepth 100000 in
theorem f_129_22 : fe 129 22 = some (.aload_n 0, 1, 10, none) := fe_of pg_129 rfl
set_option maxRecDepth 100000 in
theorem f_129_23 : fe 129 23 = some (.bipush 8, 2, 10, none) := fe_of pg_129 rfl
set_option maxRecDepth 100000 in
theorem f_129_25 : fe 129 25 = some (.newarray .int, 2, 10, none) := fe_of pg_129 rfl
set_option maxRecDepth 100000 in
theorem f_129_27 : fe 129 27 = some (.putfield 19, 3, 10, none) := fe_of pg_129 rfl
set_option maxRecDepth 100000 in
theorem f_129_30 : fe 129 30 = some (.aload_n 0, 1, 10, none) := fe_of pg_129 rfl
set_option maxRecDepth 100000 in
theorem f_129_31 : fe 129 31 = some (.aload_n 1, 1, 10, none) := fe_of pg_129 rfl
set_option maxRecDepth 100000 in
theorem f_129_32 : fe 129 32 = some (.putfield 22, 3, 10, none) := fe_of pg_129 rfl
set_option maxRecDepth 100000 in
theorem f_129_35 : fe 129 35 = some (.aload_n 0, 1, 10, none) := fe_of pg_129 rfl
set_option maxRecDepth 100000 in
theorem f_129_36 : fe 129 36 = some (.aload_n 1, 1, 10, none) := fe_of pg_129 rfl
set_option maxRecDepth 100000 in
theorem f_129_37 : fe 129 37 = some (.getfield 26, 3, 10, none) := fe_of pg_129 rfl
set_option maxRecDepth 100000 in
theorem f_129_40 : fe 129 40 = some (.putfield 32, 3, 10, none) := fe_of pg_129 rfl
set_option maxRecDepth 100000 in
theorem f_129_43 : fe 129 43 = some (.return_, 1, 10, none) := fe_of pg_129 rfl
set_option maxRecDepth 100000 in
theorem f_130_0 : fe 130 0 = some (.aload_n 0, 1, 10, none) := fe_of pg_130 rfl
set_option maxRecDepth 100000 in
theorem f_130_1 : fe 130 1 = some (.aload_n 1, 1, 10, none) := fe_of pg_130 rfl
set_option maxRecDepth 100000 in
theorem f_130_2 : fe 130 2 = some (.putfield 32, 3, 10, none) := fe_of pg_130 rfl
set_option maxRecDepth 100000 in
theorem f_130_5 : fe 130 5 = some (.aload_n 0, 1, 10, none) := fe_of pg_130 rfl
set_option maxRecDepth 100000 in
theorem f_130_6 : fe 130 6 = some (.iconst 1, 1, 10, none) := fe_of pg_130 rfl
set_option maxRecDepth 100000 in
theorem f_130_7 : fe 130 7 = some (.aload_n 1, 1, 10, none) := fe_of pg_130 rfl
set_option maxRecDepth 100000 in
theorem f_130_8 : fe 130 8 = some (.getfield 33, 3, 10, none) := fe_of pg_130 rfl
set_option maxRecDepth 100000 in
theorem f_130_11 : fe 130 11 = some (.ishl, 1, 10, none) := fe_of pg_130 rfl
set_option maxRecDepth 100000 in
theorem f_130_12 : fe 130 12 = some (.iconst 1, 1, 10, none) := fe_of pg_130 rfl
set_option maxRecDepth 100000 in
theorem f_130_13 : fe 130 13 = some (.isub, 1, 10, none) := fe_of pg_130 rfl
set_option maxRecDepth 100000 in
theorem f_130_14 : fe 130 14 = some (.putfield 39, 3, 10, none) := fe_of pg_130 rfl
set_option maxRecDepth 100000 in
theorem f_130_17 : fe 130 17 = some (.iconst 0, 1, 10, none) := fe_of pg_130 rfl
set_option maxRecDepth 100000 in
theorem f_130_18 : fe 130 18 = some (.istore_n 2, 1, 10, none) := fe_of pg_130 rfl
set_option maxRecDepth 100000 in
theorem f_130_19 : fe 130 19 = some (.iload_n 2, 1, 10, none) := fe_of pg_130 rfl
set_option maxRecDepth 100000 in
theorem f_130_20 : fe 130 20 = some (.aload_n 0, 1, 10, none) := fe_of pg_130 rfl
set_option maxRecDepth 100000 in
theorem f_130_21 : fe 130 21 = some (.getfield 39, 3, 10, none) := fe_of pg_130 rfl
set_option maxRecDepth 100000 in
theorem f_130_24 : fe 130 24 = some (.if_icmp .gt 24, 3, 10, none) := fe_of pg_130 rfl
set_option maxRecDepth 100000 in
theorem f_130_27 : fe 130 27 = some (.aload_n 0, 1, 10, none) := fe_of pg_130 rfl
set_option maxRecDepth 100000 in
theorem f_130_28 : fe 130 28 = some (.getfield 9, 3, 10, none) := fe_of pg_130 rfl
set_option maxRecDepth 100000 in
theorem f_130_31 : fe 130 31 = some (.iload_n 2, 1, 10, none) := fe_of pg_130 rfl
set_option maxRecDepth 100000 in
theorem f_130_32 : fe 130 32 = some (.aload_n 0, 1, 10, none) := fe_of pg_130 rfl
set_option maxRecDepth 100000 in
theorem f_130_33 : fe 130 33 = some (.getfield 22, 3, 10, none) := fe_of pg_130 rfl
set_option maxRecDepth 100000 in
theorem f_130_36 : fe 130 36 = some (.aload_n 1, 1, 10, none) := fe_of pg_130 rfl
set_option maxRecDepth 100000 in
theorem f_130_37 : fe 130 37 = some (.iload_n 2, 1, 10, none) := fe_of pg_130 rfl
set_option maxRecDepth 100000 in
theorem f_130_38 : fe 130 38 = some (.invokevirtual 42, 3, 10, none) := fe_of pg_130 rfl
set_option maxRecDepth 100000 in
theorem f_130_41 : fe 130 41 = some (.bastore, 1, 10, none) := fe_of pg_130 rfl
set_option maxRecDepth 100000 in
theorem f_130_42 : fe 130 42 = some (.iinc 2 1, 3, 10, none) := fe_of pg_130 rfl
set_option maxRecDepth 100000 in
theorem f_130_45 : fe 130 45 = some (.goto (-26), 3, 10, none) := fe_of pg_130 rfl
set_option maxRecDepth 100000 in
theorem f_130_48 : fe 130 48 = some (.return_, 1, 10, none) := fe_of pg_130 rfl
set_option maxRecDepth 100000 in
theorem f_131_0 : fe 131 0 = some (.iconst (-1), 1, 10, some .int) := fe_of pg_131 rfl
set_option maxRecDepth 100000 in
theorem f_131_1 : fe 131 1 = some (.istore_n 1, 1, 10, some .int) := fe_of pg_131 rfl
set_option maxRecDepth 100000 in
theorem f_131_2 : fe 131 2 = some (.iconst 0, 1, 10, some .int) := fe_of pg_131 rfl
set_option maxRecDepth 100000 in
theorem f_131_3 : fe 131 3 = some (.istore_n 2, 1, 10, some .int) := fe_of pg_131 rfl
set_option maxRecDepth 100000 in
theorem f_131_4 : fe 131 4 = some (.iload_n 2, 1, 10, some .int) := fe_of pg_131 rfl
set_option maxRecDepth 100000 in
theorem f_131_5 : fe 131 5 = some (.aload_n 0, 1, 10, some .int) := fe_of pg_131 rfl
set_option maxRecDepth 100000 in
theorem f_131_6 : fe 131 6 = some (.getfield 39, 3, 10, some .int) := fe_of pg_131 rfl
set_option maxRecDepth 100000 in
theorem f_131_9 : fe 131 9 = some (.if_icmp .gt 28, 3, 10, some .int) := fe_of pg_131 rfl
set_option maxRecDepth 100000 in
theorem f_131_12 : fe 131 12 = some (.aload_n 0, 1, 10, some .int) := fe_of pg_131 rfl
set_option maxRecDepth 100000 in
theorem f_131_13 : fe 131 13 = some (.getfield 9, 3, 10, some .int) := fe_of pg_131 rfl
set_option maxRecDepth 100000 in
theorem f_131_16 : fe 131 16 = some (.iload_n 2, 1, 10, some .int) := fe_of pg_131 rfl
set_option maxRecDepth 100000 in
theorem f_131_17 : fe 131 17 = some (.baload, 1, 10, some .int) := fe_of pg_131 rfl
set_option maxRecDepth 100000 in
theorem f_131_18 : fe 131 18 = some (.ifCond .eq 13, 3, 10, some .int) := fe_of pg_131 rfl
set_option maxRecDepth 100000 in
theorem f_131_21 : fe 131 21 = some (.iload_n 2, 1, 10, some .int) := fe_of pg_131 rfl
set_option maxRecDepth 100000 in
theorem f_131_22 : fe 131 22 = some (.iload_n 1, 1, 10, some .int) := fe_of pg_131 rfl
set_option maxRecDepth 100000 in
theorem f_131_23 : fe 131 23 = some (.invokestatic 46, 3, 10, some .int) := fe_of pg_131 rfl
set_option maxRecDepth 100000 in
theorem f_131_26 : fe 131 26 = some (.ifCond .eq 5, 3, 10, some .int) := fe_of pg_131 rfl
set_option maxRecDepth 100000 in
theorem f_131_29 : fe 131 29 = some (.iload_n 2, 1, 10, some .int) := fe_of pg_131 rfl
set_option maxRecDepth 100000 in
theorem f_131_30 : fe 131 30 = some (.istore_n 1, 1, 10, some .int) := fe_of pg_131 rfl
set_option maxRecDepth 100000 in
theorem f_131_31 : fe 131 31 = some (.iinc 2 1, 3, 10, some .int) := fe_of pg_131 rfl
set_option maxRecDepth 100000 in
theorem f_131_34 : fe 131 34 = some (.goto (-30), 3, 10, some .int) := fe_of pg_131 rfl
set_option maxRecDepth 100000 in
theorem f_131_37 : fe 131 37 = some (.iload_n 1, 1, 10, some .int) := fe_of pg_131 rfl
set_option maxRecDepth 100000 in
theorem f_131_38 : fe 131 38 = some (.ireturn, 1, 10, some .int) := fe_of pg_131 rfl
set_option maxRecDepth 100000 in
theorem f_132_0 : fe 132 0 = some (.iload_n 1, 1, 10, some .boolean) := fe_of pg_132 rfl
set_option maxRecDepth 100000 in
theorem f_132_1 : fe 132 1 = some (.iconst (-1), 1, 10, some .boolean) := fe_of pg_132 rfl
set_option maxRecDepth 100000 in
theorem f_132_2 : fe 132 2 = some (.if_icmp .eq 14, 3, 10, some .boolean) := fe_of pg_132 rfl
set_option maxRecDepth 100000 in
theorem f_132_5 : fe 132 5 = some (.iload_n 0, 1, 10, some .boolean) := fe_of pg_132 rfl
set_option maxRecDepth 100000 in
theorem f_132_6 : fe 132 6 = some (.invokestatic 50, 3, 10, some .boolean) := fe_of pg_132 rfl
set_option maxRecDepth 100000 in
theorem f_132_9 : fe 132 9 = some (.iload_n 1, 1, 10, some .boolean) := fe_of pg_132 rfl
set_option maxRecDepth 100000 in
theorem f_132_10 : fe 132 10 = some (.invokestatic 50, 3, 10, some .boolean) := fe_of pg_132 rfl
set_option maxRecDepth 100000 in
theorem f_132_13 : fe 132 13 = some (.if_icmp .ge 7, 3, 10, some .boolean) := fe_of pg_132 rfl
set_option maxRecDepth 100000 in
theorem f_132_16 : fe 132 16 = some (.iconst 1, 1, 10, some .boolean) := fe_of pg_132 rfl
set_option maxRecDepth 100000 in
theorem f_132_17 : fe 132 17 = some (.goto 4, 3, 10, some .boolean) := fe_of pg_132 rfl
set_option maxRecDepth 100000 in
theorem f_132_20 : fe 132 20 = some (.iconst 0, 1, 10, some .boolean) := fe_of pg_132 rfl
set_option maxRecDepth 100000 in
theorem f_132_21 : fe 132 21 = some (.ireturn, 1, 10, some .boolean) := fe_of pg_132 rfl
set_option maxRecDepth 100000 in
theorem f_133_0 : fe 133 0 = some (.iconst (-1), 1, 10, some .int) := fe_of pg_133 rfl
set_option maxRecDepth 100000 in
theorem f_133_1 : fe 133 1 = some (.istore_n 1, 1, 10, some .int) := fe_of pg_133 rfl
set_option maxRecDepth 100000 in
theorem f_133_2 : fe 133 2 = some (.iconst 0, 1, 10, some .int) := fe_of pg_133 rfl
set_option maxRecDepth 100000 in
theorem f_133_3 : fe 133 3 = some (.istore_n 2, 1, 10, some .int) := fe_of pg_133 rfl
set_option maxRecDepth 100000 in
theorem f_133_4 : fe 133 4 = some (.iload_n 2, 1, 10, some .int) := fe_of pg_133 rfl
set_option maxRecDepth 100000 in
theorem f_133_5 : fe 133 5 = some (.aload_n 0, 1, 10, some .int) := fe_of pg_133 rfl
set_option maxRecDepth 100000 in
theorem f_133_6 : fe 133 6 = some (.getfield 39, 3, 10, some .int) := fe_of pg_133 rfl
set_option maxRecDepth 100000 in
theorem f_133_9 : fe 133 9 = some (.if_icmp .gt 44, 3, 10, some .int) := fe_of pg_133 rfl
set_option maxRecDepth 100000 in
theorem f_133_12 : fe 133 12 = some (.aload_n 0, 1, 10, some .int) := fe_of pg_133 rfl
set_option maxRecDepth 100000 in
theorem f_133_13 : fe 133 13 = some (.getfield 9, 3, 10, some .int) := fe_of pg_133 rfl
set_option maxRecDepth 100000 in
theorem f_133_16 : fe 133 16 = some (.iload_n 2, 1, 10, some .int) := fe_of pg_133 rfl
set_option maxRecDepth 100000 in
theorem f_133_17 : fe 133 17 = some (.baload, 1, 10, some .int) := fe_of pg_133 rfl
set_option maxRecDepth 100000 in
theorem f_133_18 : fe 133 18 = some (.ifCond .eq 29, 3, 10, some .int) := fe_of pg_133 rfl
set_option maxRecDepth 100000 in
theorem f_133_21 : fe 133 21 = some (.iload_n 1, 1, 10, some .int) := fe_of pg_133 rfl
set_option maxRecDepth 100000 in
theorem f_133_22 : fe 133 22 = some (.iconst (-1), 1, 10, some .int) := fe_of pg_133 rfl
set_option maxRecDepth 100000 in
theorem f_133_23 : fe 133 23 = some (.if_icmp .eq 22, 3, 10, some .int) := fe_of pg_133 rfl
set_option maxRecDepth 100000 in
theorem f_133_26 : fe 133 26 = some (.aload_n 0, 1, 10, some .int) := fe_of pg_133 rfl
set_option maxRecDepth 100000 in
theorem f_133_27 : fe 133 27 = some (.getfield 32, 3, 10, some .int) := fe_of pg_133 rfl
set_option maxRecDepth 100000 in
theorem f_133_30 : fe 133 30 = some (.iload_n 2, 1, 10, some .int) := fe_of pg_133 rfl
set_option maxRecDepth 100000 in
theorem f_133_31 : fe 133 31 = some (.invokevirtual 56, 3, 10, some .int) := fe_of pg_133 rfl
set_option maxRecDepth 100000 in
theorem f_133_34 : fe 133 34 = some (.aload_n 0, 1, 10, some .int) := fe_of pg_133 rfl
set_option maxRecDepth 100000 in
theorem f_133_35 : fe 133 35 = some (.getfield 32, 3, 10, some .int) := fe_of pg_133 rfl
set_option maxRecDepth 100000 in
theorem f_133_38 : fe 133 38 = some (.iload_n 1, 1, 10, some .int) := fe_of pg_133 rfl
set_option maxRecDepth 100000 in
theorem f_133_39 : fe 133 39 = some (.invokevirtual 56, 3, 10, some .int) := fe_of pg_133 rfl
set_option maxRecDepth 100000 in
theorem f_133_42 : fe 133 42 = some (.if_icmp .ge 5, 3, 10, some .int) := fe_of pg_133 rfl
set_option maxRecDepth 100000 in
theorem f_133_45 : fe 133 45 = some (.iload_n 2, 1, 10, some .int) := fe_of pg_133 rfl
set_option maxRecDepth 100000 in
theorem f_133_46 : fe 133 46 = some (.istore_n 1, 1, 10, some .int) := fe_of pg_133 rfl
set_option maxRecDepth 100000 in
theorem f_133_47 : fe 133 47 = some (.iinc 2 1, 3, 10, some .int) := fe_of pg_133 rfl
set_option maxRecDepth 100000 in
theorem f_133_50 : fe 133 50 = some (.goto (-46), 3, 10, some .int) := fe_of pg_133 rfl
set_option maxRecDepth 100000 in
theorem f_133_53 : fe 133 53 = some (.iload_n 1, 1, 10, some .int) := fe_of pg_133 rfl
set_option maxRecDepth 100000 in
theorem f_133_54 : fe 133 54 = some (.ireturn, 1, 10, some .int) := fe_of pg_133 rfl
set_option maxRecDepth 100000 in
theorem f_134_0 : fe 134 0 = some (.aload_n 0, 1, 10, some .int) := fe_of pg_134 rfl
set_option maxRecDepth 100000 in
theorem f_134_1 : fe 134 1 = some (.invokevirtual 59, 3, 10, some .int) := fe_of pg_134 rfl
set_option maxRecDepth 100000 in
theorem f_134_4 : fe 134 4 = some (.istore_n 1, 1, 10, some .int) := fe_of pg_134 rfl
set_option maxRecDepth 100000 in
theorem f_134_5 : fe 134 5 = some (.iload_n 1, 1, 10, some .int) := fe_of pg_134 rfl
set_option maxRecDepth 100000 in
theorem f_134_6 : fe 134 6 = some (.iconst (-1), 1, 10, some .int) := fe_of pg_134 rfl
set_option maxRecDepth 100000 in
theorem f_134_7 : fe 134 7 = some (.if_icmp .ne 7, 3, 10, some .int) := fe_of pg_134 rfl
set_option maxRecDepth 100000 in
theorem f_134_10 : fe 134 10 = some (.iconst (-1), 1, 10, some .int) := fe_of pg_134 rfl
set_option maxRecDepth 100000 in
theorem f_134_11 : fe 134 11 = some (.goto 11, 3, 10, some .int) := fe_of pg_134 rfl
set_option maxRecDepth 100000 in
theorem f_134_14 : fe 134 14 = some (.aload_n 0, 1, 10, some .int) := fe_of pg_134 rfl
set_option maxRecDepth 100000 in
theorem f_134_15 : fe 134 15 = some (.getfield 32, 3, 10, some .int) := fe_of pg_134 rfl
set_option maxRecDepth 100000 in
theorem f_134_18 : fe 134 18 = some (.iload_n 1, 1, 10, some .int) := fe_of pg_134 rfl
set_option maxRecDepth 100000 in
theorem f_134_19 : fe 134 19 = some (.invokevirtual 56, 3, 10, some .int) := fe_of pg_134 rfl
set_option maxRecDepth 100000 in
theorem f_134_22 : fe 134 22 = some (.ireturn, 1, 10, some .int) := fe_of pg_134 rfl
set_option maxRecDepth 100000 in
theorem f_135_0 : fe 135 0 = some (.aload_n 0, 1, 10, some .int) := fe_of pg_135 rfl
set_option maxRecDepth 100000 in
theorem f_135_1 : fe 135 1 = some (.getfield 15, 3, 10, some .int) := fe_of pg_135 rfl
set_option maxRecDepth 100000 in
theorem f_135_4 : fe 135 4 = some (.iconst 0, 1, 10, some .int) := fe_of pg_135 rfl
set_option maxRecDepth 100000 in
theorem f_135_5 : fe 135 5 = some (.iconst 0, 1, 10, some .int) := fe_of pg_135 rfl
set_option maxRecDepth 100000 in
theorem f_135_6 : fe 135 6 = some (.iastore, 1, 10, some .int) := fe_of pg_135 rfl
set_option maxRecDepth 100000 in
theorem f_135_7 : fe 135 7 = some (.iconst 1, 1, 10, some .int) := fe_of pg_135 rfl
set_option maxRecDepth 100000 in
theorem f_135_8 : fe 135 8 = some (.istore_n 1, 1, 10, some .int) := fe_of pg_135 rfl
set_option maxRecDepth 100000 in
theorem f_135_9 : fe 135 9 = some (.iload_n 1, 1, 10, some .int) := fe_of pg_135 rfl
set_option maxRecDepth 100000 in
theorem f_135_10 : fe 135 10 = some (.aload_n 0, 1, 10, some .int) := fe_of pg_135 rfl
set_option maxRecDepth 100000 in
theorem f_135_11 : fe 135 11 = some (.getfield 39, 3, 10, some .int) := fe_of pg_135 rfl
set_option maxRecDepth 100000 in
theorem f_135_14 : fe 135 14 = some (.if_icmp .gt 62, 3, 10, some .int) := fe_of pg_135 rfl
set_option maxRecDepth 100000 in
theorem f_135_17 : fe 135 17 = some (.iconst 0, 1, 10, some .int) := fe_of pg_135 rfl
set_option maxRecDepth 100000 in
theorem f_135_18 : fe 135 18 = some (.istore_n 2, 1, 10, some .int) := fe_of pg_135 rfl
set_option maxRecDepth 100000 in
theorem f_135_19 : fe 135 19 = some (.iconst 1, 1, 10, some .int) := fe_of pg_135 rfl
set_option maxRecDepth 100000 in
theorem f_135_20 : fe 135 20 = some (.istore_n 3, 1, 10, some .int) := fe_of pg_135 rfl
set_option maxRecDepth 100000 in
theorem f_135_21 : fe 135 21 = some (.iload_n 3, 1, 10, some .int) := fe_of pg_135 rfl
set_option maxRecDepth 100000 in
theorem f_135_22 : fe 135 22 = some (.iload_n 1, 1, 10, some .int) := fe_of pg_135 rfl
set_option maxRecDepth 100000 in
theorem f_135_23 : fe 135 23 = some (.if_icmp .gt 40, 3, 10, some .int) := fe_of pg_135 rfl
set_option maxRecDepth 100000 in
theorem f_135_26 : fe 135 26 = some (.iload_n 3, 1, 10, some .int) := fe_of pg_135 rfl
set_option maxRecDepth 100000 in
theorem f_135_27 : fe 135 27 = some (.iload_n 1, 1, 10, some .int) := fe_of pg_135 rfl
set_option maxRecDepth 100000 in
theorem f_135_28 : fe 135 28 = some (.iand, 1, 10, some .int) := fe_of pg_135 rfl
set_option maxRecDepth 100000 in
theorem f_135_29 : fe 135 29 = some (.iload_n 3, 1, 10, some .int) := fe_of pg_135 rfl
set_option maxRecDepth 100000 in
theorem f_135_30 : fe 135 30 = some (.if_icmp .ne 27, 3, 10, some .int) := fe_of pg_135 rfl
set_option maxRecDepth 100000 in
theorem f_135_33 : fe 135 33 = some (.aload_n 0, 1, 10, some .int) := fe_of pg_135 rfl
set_option maxRecDepth 100000 in
theorem f_135_34 : fe 135 34 = some (.getfield 9, 3, 10, some .int) := fe_of pg_135 rfl
set_option maxRecDepth 100000 in
theorem f_135_37 : fe 135 37 = some (.iload_n 3, 1, 10, some .int) := fe_of pg_135 rfl
set_option maxRecDepth 100000 in
theorem f_135_38 : fe 135 38 = some (.baload, 1, 10, some .int) := fe_of pg_135 rfl
set_option maxRecDepth 100000 in
theorem f_135_39 : fe 135 39 = some (.ifCond .eq 18, 3, 10, some .int) := fe_of pg_135 rfl
set_option maxRecDepth 100000 in
theorem f_135_42 : fe 135 42 = some (.iload_n 2, 1, 10, some .int) := fe_of pg_135 rfl
set_option maxRecDepth 100000 in
theorem f_135_43 : fe 135 43 = some (.iconst 1, 1, 10, some .int) := fe_of pg_135 rfl
set_option maxRecDepth 100000 in
theorem f_135_44 : fe 135 44 = some (.aload_n 0, 1, 10, some .int) := fe_of pg_135 rfl
set_option maxRecDepth 100000 in
theorem f_135_45 : fe 135 45 = some (.getfield 15, 3, 10, some .int) := fe_of pg_135 rfl
set_option maxRecDepth 100000 in
theorem f_135_48 : fe 135 48 = some (.iload_n 1, 1, 10, some .int) := fe_of pg_135 rfl
set_option maxRecDepth 100000 in
theorem f_135_49 : fe 135 49 = some (.iload_n 3, 1, 10, some .int) := fe_of pg_135 rfl
set_option maxRecDepth 100000 in
theorem f_135_50 : fe 135 50 = some (.ixor, 1, 10, some .int) := fe_of pg_135 rfl
set_option maxRecDepth 100000 in
theorem f_135_51 : fe 135 51 = some (.iaload, 1, 10, some .int) := fe_of pg_135 rfl
set_option maxRecDepth 100000 in
theorem f_135_52 : fe 135 52 = some (.iadd, 1, 10, some .int) := fe_of pg_135 rfl
set_option maxRecDepth 100000 in
theorem f_135_53 : fe 135 53 = some (.invokestatic 63, 3, 10, some .int) := fe_of pg_135 rfl
set_option maxRecDepth 100000 in
theorem f_135_56 : fe 135 56 = some (.istore_n 2, 1, 10, some .int) := fe_of pg_135 rfl
set_option maxRecDepth 100000 in
theorem f_135_57 : fe 135 57 = some (.iinc 3 1, 3, 10, some .int) := fe_of pg_135 rfl
set_option maxRecDepth 100000 in
theorem f_135_60 : fe 135 60 = some (.goto (-39), 3, 10, some .int) := fe_of pg_135 rfl
set_option maxRecDepth 100000 in
theorem f_135_63 : fe 135 63 = some (.aload_n 0, 1, 10, some .int) := fe_of pg_135 rfl
set_option maxRecDepth 100000 in
theorem f_135_64 : fe 135 64 = some (.getfield 15, 3, 10, some .int) := fe_of pg_135 rfl
set_option maxRecDepth 100000 in
theorem f_135_67 : fe 135 67 = some (.iload_n 1, 1, 10, some .int) := fe_of pg_135 rfl
set_option maxRecDepth 100000 in
theorem f_135_68 : fe 135 68 = some (.iload_n 2, 1, 10, some .int) := fe_of pg_135 rfl
set_option maxRecDepth 100000 in
theorem f_135_69 : fe 135 69 = some (.iastore, 1, 10, some .int) := fe_of pg_135 rfl
set_option maxRecDepth 100000 in
theorem f_135_70 : fe 135 70 = some (.iinc 1 1, 3, 10, some .int) := fe_of pg_135 rfl
set_option maxRecDepth 100000 in
theorem f_135_73 : fe 135 73 = some (.goto (-64), 3, 10, some .int) := fe_of pg_135 rfl
set_option maxRecDepth 100000 in
theorem f_135_76 : fe 135 76 = some (.aload_n 0, 1, 10, some .int) := fe_of pg_135 rfl
set_option maxRecDepth 100000 in
theorem f_135_77 : fe 135 77 = some (.getfield 15, 3, 10, some .int) := fe_of pg_135 rfl
set_option maxRecDepth 100000 in
theorem f_135_80 : fe 135 80 = some (.aload_n 0, 1, 10, some .int) := fe_of pg_135 rfl
set_option maxRecDepth 100000 in
theorem f_135_81 : fe 135 81 = some (.getfield 39, 3, 10, some .int) := fe_of pg_135 rfl
set_option maxRecDepth 100000 in
theorem f_135_84 : fe 135 84 = some (.iaload, 1, 10, some .int) := fe_of pg_135 rfl
set_option maxRecDepth 100000 in
theorem f_135_85 : fe 135 85 = some (.ireturn, 1, 10, some .int) := fe_of pg_135 rfl
set_option maxRecDepth 100000 in
theorem f_136_0 : fe 136 0 = some (.aload_n 0, 1, 10, some .int) := fe_of pg_136 rfl
set_option maxRecDepth 100000 in
theorem f_136_1 : fe 136 1 = some (.getfield 39, 3, 10, some .int) := fe_of pg_136 rfl
set_option maxRecDepth 100000 in
theorem f_136_4 : fe 136 4 = some (.istore_n 1, 1, 10, some .int) := fe_of pg_136 rfl
set_option maxRecDepth 100000 in
theorem f_136_5 : fe 136 5 = some (.iconst 0, 1, 10, some .int) := fe_of pg_136 rfl
set_option maxRecDepth 100000 in
theorem f_136_6 : fe 136 6 = some (.istore_n 2, 1, 10, some .int) := fe_of pg_136 rfl
set_option maxRecDepth 100000 in
theorem f_136_7 : fe 136 7 = some (.iload_n 2, 1, 10, some .int) := fe_of pg_136 rfl
set_option maxRecDepth 100000 in
theorem f_136_8 : fe 136 8 = some (.aload_n 0, 1, 10, some .int) := fe_of pg_136 rfl
set_option maxRecDepth 100000 in
theorem f_136_9 : fe 136 9 = some (.getfield 39, 3, 10, some .int) := fe_of pg_136 rfl
set_option maxRecDepth 100000 in
theorem f_136_12 : fe 136 12 = some (.if_icmp .gt 22, 3, 10, some .int) := fe_of pg_136 rfl
set_option maxRecDepth 100000 in
theorem f_136_15 : fe 136 15 = some (.aload_n 0, 1, 10, some .int) := fe_of pg_136 rfl
set_option maxRecDepth 100000 in
theorem f_136_16 : fe 136 16 = some (.getfield 9, 3, 10, some .int) := fe_of pg_136 rfl
set_option maxRecDepth 100000 in
theorem f_136_19 : fe 136 19 = some (.iload_n 2, 1, 10, some .int) := fe_of pg_136 rfl
set_option maxRecDepth 100000 in
theorem f_136_20 : fe 136 20 = some (.baload, 1, 10, some .int) := fe_of pg_136 rfl
set_option maxRecDepth 100000 in
theorem f_136_21 : fe 136 21 = some (.ifCond .eq 7, 3, 10, some .int) := fe_of pg_136 rfl
set_option maxRecDepth 100000 in
theorem f_136_24 : fe 136 24 = some (.iload_n 1, 1, 10, some .int) := fe_of pg_136 rfl
set_option maxRecDepth 100000 in
theorem f_136_25 : fe 136 25 = some (.iload_n 2, 1, 10, some .int) := fe_of pg_136 rfl
set_option maxRecDepth 100000 in
theorem f_136_26 : fe 136 26 = some (.iand, 1, 10, some .int) := fe_of pg_136 rfl
set_option maxRecDepth 100000 in
theorem f_136_27 : fe 136 27 = some (.istore_n 1, 1, 10, some .int) := fe_of pg_136 rfl
set_option maxRecDepth 100000 in
theorem f_136_28 : fe 136 28 = some (.iinc 2 1, 3, 10, some .int) := fe_of pg_136 rfl
set_option maxRecDepth 100000 in
theorem f_136_31 : fe 136 31 = some (.goto (-24), 3, 10, some .int) := fe_of pg_136 rfl
set_option maxRecDepth 100000 in
theorem f_136_34 : fe 136 34 = some (.iload_n 1, 1, 10, some .int) := fe_of pg_136 rfl
set_option maxRecDepth 100000 in
theorem f_136_35 : fe 136 35 = some (.ireturn, 1, 10, some .int) := fe_of pg_136 rfl
set_option maxRecDepth 100000 in
theorem f_137_0 : fe 137 0 = some (.iconst 0, 1, 10, some .int) := fe_of pg_137 rfl
set_option maxRecDepth 100000 in
theorem f_137_1 : fe 137 1 = some (.istore_n 1, 1, 10, some .int) := fe_of pg_137 rfl
set_option maxRecDepth 100000 in
theorem f_137_2 : fe 137 2 = some (.iconst 0, 1, 10, some .int) := fe_of pg_137 rfl
set_option maxRecDepth 100000 in
theorem f_137_3 : fe 137 3 = some (.istore_n 2, 1, 10, some .int) := fe_of pg_137 rfl
set_option maxRecDepth 100000 in
theorem f_137_4 : fe 137 4 = some (.iload_n 2, 1, 10, some .int) := fe_of pg_137 rfl
set_option maxRecDepth 100000 in
theorem f_137_5 : fe 137 5 = some (.aload_n 0, 1, 10, some .int) := fe_of pg_137 rfl
set_option maxRecDepth 100000 in
theorem f_137_6 : fe 137 6 = some (.getfield 39, 3, 10, some .int) := fe_of pg_137 rfl
set_option maxRecDepth 100000 in
theorem f_137_9 : fe 137 9 = some (.if_icmp .gt 21, 3, 10, some .int) := fe_of pg_137 rfl
set_option maxRecDepth 100000 in
theorem f_137_12 : fe 137 12 = some (.aload_n 0, 1, 10, some .int) := fe_of pg_137 rfl
set_option maxRecDepth 100000 in
theorem f_137_13 : fe 137 13 = some (.getfield 9, 3, 10, some .int) := fe_of pg_137 rfl
set_option maxRecDepth 100000 in
theorem f_137_16 : fe 137 16 = some (.iload_n 2, 1, 10, some .int) := fe_of pg_137 rfl
set_option maxRecDepth 100000 in
theorem f_137_17 : fe 137 17 = some (.baload, 1, 10, some .int) := fe_of pg_137 rfl
set_option maxRecDepth 100000 in
theorem f_137_18 : fe 137 18 = some (.ifCond .eq 6, 3, 10, some .int) := fe_of pg_137 rfl
set_option maxRecDepth 100000 in
theorem f_137_21 : fe 137 21 = some (.iinc 1 1, 3, 10, some .int) := fe_of pg_137 rfl
set_option maxRecDepth 100000 in
theorem f_137_24 : fe 137 24 = some (.iinc 2 1, 3, 10, some .int) := fe_of pg_137 rfl
set_option maxRecDepth 100000 in
theorem f_137_27 : fe 137 27 = some (.goto (-23), 3, 10, some .int) := fe_of pg_137 rfl
set_option maxRecDepth 100000 in
theorem f_137_30 : fe 137 30 = some (.iload_n 1, 1, 10, some .int) := fe_of pg_137 rfl
set_option maxRecDepth 100000 in
theorem f_137_31 : fe 137 31 = some (.ireturn, 1, 10, some .int) := fe_of pg_137 rfl
set_option maxRecDepth 100000 in
theorem f_138_0 : fe 138 0 = some (.aload_n 0, 1, 10, some .int) := fe_of pg_138 rfl
set_option maxRecDepth 100000 in
theorem f_138_1 : fe 138 1 = some (.invokevirtual 69, 3, 10, some .int) := fe_of pg_138 rfl
set_option maxRecDepth 100000 in
theorem f_138_4 : fe 138 4 = some (.iconst (-1), 1, 10, some .int) := fe_of pg_138 rfl
set_option maxRecDepth 100000 in
theorem f_138_5 : fe 138 5 = some (.istore_n 1, 1, 10, some .int) := fe_of pg_138 rfl
set_option maxRecDepth 100000 in
theorem f_138_6 : fe 138 6 = some (.iconst 0, 1, 10, some .int) := fe_of pg_138 rfl
set_option maxRecDepth 100000 in
theorem f_138_7 : fe 138 7 = some (.istore_n 2, 1, 10, some .int) := fe_of pg_138 rfl
set_option maxRecDepth 100000 in
theorem f_138_8 : fe 138 8 = some (.iload_n 2, 1, 10, some .int) := fe_of pg_138 rfl
set_option maxRecDepth 100000 in
theorem f_138_9 : fe 138 9 = some (.aload_n 0, 1, 10, some .int) := fe_of pg_138 rfl
set_option maxRecDepth 100000 in
theorem f_138_10 : fe 138 10 = some (.getfield 32, 3, 10, some .int) := fe_of pg_138 rfl
set_option maxRecDepth 100000 in
theorem f_138_13 : fe 138 13 = some (.getfield 72, 3, 10, some .int) := fe_of pg_138 rfl
set_option maxRecDepth 100000 in
theorem f_138_16 : fe 138 16 = some (.if_icmp .ge 35, 3, 10, some .int) := fe_of pg_138 rfl
set_option maxRecDepth 100000 in
theorem f_138_19 : fe 138 19 = some (.aload_n 0, 1, 10, some .int) := fe_of pg_138 rfl
set_option maxRecDepth 100000 in
theorem f_138_20 : fe 138 20 = some (.getfield 19, 3, 10, some .int) := fe_of pg_138 rfl
set_option maxRecDepth 100000 in
theorem f_138_23 : fe 138 23 = some (.iload_n 2, 1, 10, some .int) := fe_of pg_138 rfl
set_option maxRecDepth 100000 in
theorem f_138_24 : fe 138 24 = some (.iaload, 1, 10, some .int) := fe_of pg_138 rfl
set_option maxRecDepth 100000 in
theorem f_138_25 : fe 138 25 = some (.iload_n 1, 1, 10, some .int) := fe_of pg_138 rfl
set_option maxRecDepth 100000 in
theorem f_138_26 : fe 138 26 = some (.iconst (-1), 1, 10, some .int) := fe_of pg_138 rfl
set_option maxRecDepth 100000 in
theorem f_138_27 : fe 138 27 = some (.if_icmp .ne 7, 3, 10, some .int) := fe_of pg_138 rfl
set_option maxRecDepth 100000 in
theorem f_138_30 : fe 138 30 = some (.iconst 0, 1, 10, some .int) := fe_of pg_138 rfl
set_option maxRecDepth 100000 in
theorem f_138_31 : fe 138 31 = some (.goto 9, 3, 10, some .int) := fe_of pg_138 rfl
set_option maxRecDepth 100000 in
theorem f_138_34 : fe 138 34 = some (.aload_n 0, 1, 10, some .int) := fe_of pg_138 rfl
set_option maxRecDepth 100000 in
theorem f_138_35 : fe 138 35 = some (.getfield 19, 3, 10, some .int) := fe_of pg_138 rfl
set_option maxRecDepth 100000 in
theorem f_138_38 : fe 138 38 = some (.iload_n 1, 1, 10, some .int) := fe_of pg_138 rfl
set_option maxRecDepth 100000 in
theorem f_138_39 : fe 138 39 = some (.iaload, 1, 10, some .int) := fe_of pg_138 rfl
set_option maxRecDepth 100000 in
theorem f_138_40 : fe 138 40 = some (.if_icmp .le 5, 3, 10, some .int) := fe_of pg_138 rfl
set_option maxRecDepth 100000 in
theorem f_138_43 : fe 138 43 = some (.iload_n 2, 1, 10, some .int) := fe_of pg_138 rfl
set_option maxRecDepth 100000 in
theorem f_138_44 : fe 138 44 = some (.istore_n 1, 1, 10, some .int) := fe_of pg_138 rfl
set_option maxRecDepth 100000 in
theorem f_138_45 : fe 138 45 = some (.iinc 2 1, 3, 10, some .int) := fe_of pg_138 rfl
set_option maxRecDepth 100000 in
theorem f_138_48 : fe 138 48 = some (.goto (-40), 3, 10, some .int) := fe_of pg_138 rfl
set_option maxRecDepth 100000 in
theorem f_138_51 : fe 138 51 = some (.iload_n 1, 1, 10, some .int) := fe_of pg_138 rfl
set_option maxRecDepth 100000 in
theorem f_138_52 : fe 138 52 = some (.ireturn, 1, 10, some .int) := fe_of pg_138 rfl
set_option maxRecDepth 100000 in
theorem f_139_0 : fe 139 0 = some (.aload_n 0, 1, 10, some .int) := fe_of pg_139 rfl
set_option maxRecDepth 100000 in
theorem f_139_1 : fe 139 1 = some (.invokevirtual 75, 3, 10, some .int) := fe_of pg_139 rfl
set_option maxRecDepth 100000 in
theorem f_139_4 : fe 139 4 = some (.istore_n 1, 1, 10, some .int) := fe_of pg_139 rfl
set_option maxRecDepth 100000 in
theorem f_139_5 : fe 139 5 = some (.iload_n 1, 1, 10, some .int) := fe_of pg_139 rfl
set_option maxRecDepth 100000 in
theorem f_139_6 : fe 139 6 = some (.iconst (-1), 1, 10, some .int) := fe_of pg_139 rfl
set_option maxRecDepth 100000 in
theorem f_139_7 : fe 139 7 = some (.if_icmp .ne 7, 3, 10, some .int) := fe_of pg_139 rfl
set_option maxRecDepth 100000 in
theorem f_139_10 : fe 139 10 = some (.iconst (-1), 1, 10, some .int) := fe_of pg_139 rfl
set_option maxRecDepth 100000 in
theorem f_139_11 : fe 139 11 = some (.goto 9, 3, 10, some .int) := fe_of pg_139 rfl
set_option maxRecDepth 100000 in
theorem f_139_14 : fe 139 14 = some (.aload_n 0, 1, 10, some .int) := fe_of pg_139 rfl
set_option maxRecDepth 100000 in
theorem f_139_15 : fe 139 15 = some (.getfield 19, 3, 10, some .int) := fe_of pg_139 rfl
set_option maxRecDepth 100000 in
theorem f_139_18 : fe 139 18 = some (.iload_n 1, 1, 10, some .int) := fe_of pg_139 rfl
set_option maxRecDepth 100000 in
theorem f_139_19 : fe 139 19 = some (.iaload, 1, 10, some .int) := fe_of pg_139 rfl
set_option maxRecDepth 100000 in
theorem f_139_20 : fe 139 20 = some (.ireturn, 1, 10, some .int) := fe_of pg_139 rfl
set_option maxRecDepth 100000 in
theorem f_140_0 : fe 140 0 = some (.aload_n 0, 1, 10, none) := fe_of pg_140 rfl
set_option maxRecDepth 100000 in
theorem f_140_1 : fe 140 1 = some (.getfield 19, 3, 10, none) := fe_of pg_140 rfl
set_option maxRecDepth 100000 in
theorem f_140_4 : fe 140 4 = some (.iconst 0, 1, 10, none) := fe_of pg_140 rfl
set_option maxRecDepth 100000 in
theorem f_140_5 : fe 140 5 = some (.invokestatic 78, 3, 10, none) := fe_of pg_140 rfl
set_option maxRecDepth 100000 in
theorem f_140_8 : fe 140 8 = some (.iconst 0, 1, 10, none) := fe_of pg_140 rfl
set_option maxRecDepth 100000 in
theorem f_140_9 : fe 140 9 = some (.istore_n 1, 1, 10, none) := fe_of pg_140 rfl
set_option maxRecDepth 100000 in
theorem f_140_10 : fe 140 10 = some (.iload_n 1, 1, 10, none) := fe_of pg_140 rfl
set_option maxRecDepth 100000 in
theorem f_140_11 : fe 140 11 = some (.aload_n 0, 1, 10, none) := fe_of pg_140 rfl
set_option maxRecDepth 100000 in
theorem f_140_12 : fe 140 12 = some (.getfield 39, 3, 10, none) := fe_of pg_140 rfl
set_option maxRecDepth 100000 in
theorem f_140_15 : fe 140 15 = some (.if_icmp .gt 66, 3, 10, none) := fe_of pg_140 rfl
set_option maxRecDepth 100000 in
theorem f_140_18 : fe 140 18 = some (.aload_n 0, 1, 10, none) := fe_of pg_140 rfl
set_option maxRecDepth 100000 in
theorem f_140_19 : fe 140 19 = some (.getfield 32, 3, 10, none) := fe_of pg_140 rfl
set_option maxRecDepth 100000 in
theorem f_140_22 : fe 140 22 = some (.iload_n 1, 1, 10, none) := fe_of pg_140 rfl
set_option maxRecDepth 100000 in
theorem f_140_23 : fe 140 23 = some (.invokevirtual 82, 3, 10, none) := fe_of pg_140 rfl
set_option maxRecDepth 100000 in
theorem f_140_26 : fe 140 26 = some (.ifCond .eq 49, 3, 10, none) := fe_of pg_140 rfl
set_option maxRecDepth 100000 in
theorem f_140_29 : fe 140 29 = some (.aload_n 0, 1, 10, none) := fe_of pg_140 rfl
set_option maxRecDepth 100000 in
theorem f_140_30 : fe 140 30 = some (.getfield 22, 3, 10, none) := fe_of pg_140 rfl
set_option maxRecDepth 100000 in
theorem f_140_33 : fe 140 33 = some (.aload_n 0, 1, 10, none) := fe_of pg_140 rfl
set_option maxRecDepth 100000 in
theorem f_140_34 : fe 140 34 = some (.getfield 32, 3, 10, none) := fe_of pg_140 rfl
set_option maxRecDepth 100000 in
theorem f_140_37 : fe 140 37 = some (.invokevirtual 86, 3, 10, none) := fe_of pg_140 rfl
set_option maxRecDepth 100000 in
theorem f_140_40 : fe 140 40 = some (.aload_n 0, 1, 10, none) := fe_of pg_140 rfl
set_option maxRecDepth 100000 in
theorem f_140_41 : fe 140 41 = some (.getfield 22, 3, 10, none) := fe_of pg_140 rfl
set_option maxRecDepth 100000 in
theorem f_140_44 : fe 140 44 = some (.iload_n 1, 1, 10, none) := fe_of pg_140 rfl
set_option maxRecDepth 100000 in
theorem f_140_45 : fe 140 45 = some (.iconst 0, 1, 10, none) := fe_of pg_140 rfl
set_option maxRecDepth 100000 in
theorem f_140_46 : fe 140 46 = some (.invokevirtual 90, 3, 10, none) := fe_of pg_140 rfl
set_option maxRecDepth 100000 in
theorem f_140_49 : fe 140 49 = some (.istore_n 2, 1, 10, none) := fe_of pg_140 rfl
set_option maxRecDepth 100000 in
theorem f_140_50 : fe 140 50 = some (.iload_n 2, 1, 10, none) := fe_of pg_140 rfl
set_option maxRecDepth 100000 in
theorem f_140_51 : fe 140 51 = some (.ifCond .lt 24, 3, 10, none) := fe_of pg_140 rfl
set_option maxRecDepth 100000 in
theorem f_140_54 : fe 140 54 = some (.iload_n 2, 1, 10, none) := fe_of pg_140 rfl
set_option maxRecDepth 100000 in
theorem f_140_55 : fe 140 55 = some (.aload_n 0, 1, 10, none) := fe_of pg_140 rfl
set_option maxRecDepth 100000 in
theorem f_140_56 : fe 140 56 = some (.getfield 32, 3, 10, none) := fe_of pg_140 rfl
set_option maxRecDepth 100000 in
theorem f_140_59 : fe 140 59 = some (.getfield 72, 3, 10, none) := fe_of pg_140 rfl
set_option maxRecDepth 100000 in
theorem f_140_62 : fe 140 62 = some (.if_icmp .ge 13, 3, 10, none) := fe_of pg_140 rfl
set_option maxRecDepth 100000 in
theorem f_140_65 : fe 140 65 = some (.aload_n 0, 1, 10, none) := fe_of pg_140 rfl
set_option maxRecDepth 100000 in
theorem f_140_66 : fe 140 66 = some (.getfield 19, 3, 10, none) := fe_of pg_140 rfl
set_option maxRecDepth 100000 in
theorem f_140_69 : fe 140 69 = some (.iload_n 2, 1, 10, none) := fe_of pg_140 rfl
set_option maxRecDepth 100000 in
theorem f_140_70 : fe 140 70 = some (.dup2, 1, 10, none) := fe_of pg_140 rfl
set_option maxRecDepth 100000 in
theorem f_140_71 : fe 140 71 = some (.iaload, 1, 10, none) := fe_of pg_140 rfl
set_option maxRecDepth 100000 in
theorem f_140_72 : fe 140 72 = some (.iconst 1, 1, 10, none) := fe_of pg_140 rfl
set_option maxRecDepth 100000 in
theorem f_140_73 : fe 140 73 = some (.iadd, 1, 10, none) := fe_of pg_140 rfl
set_option maxRecDepth 100000 in
theorem f_140_74 : fe 140 74 = some (.iastore, 1, 10, none) := fe_of pg_140 rfl
set_option maxRecDepth 100000 in
theorem f_140_75 : fe 140 75 = some (.iinc 1 1, 3, 10, none) := fe_of pg_140 rfl
set_option maxRecDepth 100000 in
theorem f_140_78 : fe 140 78 = some (.goto (-68), 3, 10, none) := fe_of pg_140 rfl
set_option maxRecDepth 100000 in
theorem f_140_81 : fe 140 81 = some (.return_, 1, 10, none) := fe_of pg_140 rfl
set_option maxRecDepth 100000 in
theorem f_141_0 : fe 141 0 = some (.iconst (-1), 1, 10, some .int) := fe_of pg_141 rfl
set_option maxRecDepth 100000 in
theorem f_141_1 : fe 141 1 = some (.istore_n 3, 1, 10, some .int) := fe_of pg_141 rfl
set_option maxRecDepth 100000 in
theorem f_141_2 : fe 141 2 = some (.aload_n 0, 1, 10, some .int) := fe_of pg_141 rfl
set_option maxRecDepth 100000 in
theorem f_141_3 : fe 141 3 = some (.getfield 22, 3, 10, some .int) := fe_of pg_141 rfl
set_option maxRecDepth 100000 in
theorem f_141_6 : fe 141 6 = some (.aload_n 1, 1, 10, some .int) := fe_of pg_141 rfl
set_option maxRecDepth 100000 in
theorem f_141_7 : fe 141 7 = some (.invokevirtual 86, 3, 10, some .int) := fe_of pg_141 rfl
set_option maxRecDepth 100000 in
theorem f_141_10 : fe 141 10 = some (.iconst 0, 1, 10, some .int) := fe_of pg_141 rfl
set_option maxRecDepth 100000 in
theorem f_141_11 : fe 141 11 = some (.istore 4, 2, 10, some .int) := fe_of pg_141 rfl
set_option maxRecDepth 100000 in
theorem f_141_13 : fe 141 13 = some (.iload 4, 2, 10, some .int) := fe_of pg_141 rfl
set_option maxRecDepth 100000 in
theorem f_141_15 : fe 141 15 = some (.iconst 1, 1, 10, some .int) := fe_of pg_141 rfl
set_option maxRecDepth 100000 in
theorem f_141_16 : fe 141 16 = some (.aload_n 1, 1, 10, some .int) := fe_of pg_141 rfl
set_option maxRecDepth 100000 in
theorem f_141_17 : fe 141 17 = some (.getfield 33, 3, 10, some .int) := fe_of pg_141 rfl
set_option maxRecDepth 100000 in
theorem f_141_20 : fe 141 20 = some (.ishl, 1, 10, some .int) := fe_of pg_141 rfl
set_option maxRecDepth 100000 in
theorem f_141_21 : fe 141 21 = some (.if_icmp .ge 43, 3, 10, some .int) := fe_of pg_141 rfl
set_option maxRecDepth 100000 in
theorem f_141_24 : fe 141 24 = some (.aload_n 1, 1, 10, some .int) := fe_of pg_141 rfl
set_option maxRecDepth 100000 in
theorem f_141_25 : fe 141 25 = some (.iload 4, 2, 10, some .int) := fe_of pg_141 rfl
set_option maxRecDepth 100000 in
theorem f_141_27 : fe 141 27 = some (.invokevirtual 82, 3, 10, some .int) := fe_of pg_141 rfl
set_option maxRecDepth 100000 in
theorem f_141_30 : fe 141 30 = some (.ifCond .eq 28, 3, 10, some .int) := fe_of pg_141 rfl
set_option maxRecDepth 100000 in
theorem f_141_33 : fe 141 33 = some (.aload_n 0, 1, 10, some .int) := fe_of pg_141 rfl
set_option maxRecDepth 100000 in
theorem f_141_34 : fe 141 34 = some (.getfield 22, 3, 10, some .int) := fe_of pg_141 rfl
set_option maxRecDepth 100000 in
theorem f_141_37 : fe 141 37 = some (.iload 4, 2, 10, some .int) := fe_of pg_141 rfl
set_option maxRecDepth 100000 in
theorem f_141_39 : fe 141 39 = some (.invokevirtual 93, 3, 10, some .int) := fe_of pg_141 rfl
set_option maxRecDepth 100000 in
theorem f_141_42 : fe 141 42 = some (.iload_n 2, 1, 10, some .int) := fe_of pg_141 rfl
set_option maxRecDepth 100000 in
theorem f_141_43 : fe 141 43 = some (.if_icmp .lt 15, 3, 10, some .int) := fe_of pg_141 rfl
set_option maxRecDepth 100000 in
theorem f_141_46 : fe 141 46 = some (.iload 4, 2, 10, some .int) := fe_of pg_141 rfl
set_option maxRecDepth 100000 in
theorem f_141_48 : fe 141 48 = some (.iload_n 3, 1, 10, some .int) := fe_of pg_141 rfl
set_option maxRecDepth 100000 in
theorem f_141_49 : fe 141 49 = some (.invokestatic 46, 3, 10, some .int) := fe_of pg_141 rfl
set_option maxRecDepth 100000 in
theorem f_141_52 : fe 141 52 = some (.ifCond .eq 6, 3, 10, some .int) := fe_of pg_141 rfl
set_option maxRecDepth 100000 in
theorem f_141_55 : fe 141 55 = some (.iload 4, 2, 10, some .int) := fe_of pg_141 rfl
set_option maxRecDepth 100000 in
theorem f_141_57 : fe 141 57 = some (.istore_n 3, 1, 10, some .int) := fe_of pg_141 rfl
set_option maxRecDepth 100000 in
theorem f_141_58 : fe 141 58 = some (.iinc 4 1, 3, 10, some .int) := fe_of pg_141 rfl
set_option maxRecDepth 100000 in
theorem f_141_61 : fe 141 61 = some (.goto (-48), 3, 10, some .int) := fe_of pg_141 rfl
set_option maxRecDepth 100000 in
theorem f_141_64 : fe 141 64 = some (.iload_n 3, 1, 10, some .int) := fe_of pg_141 rfl
set_option maxRecDepth 100000 in
theorem f_141_65 : fe 141 65 = some (.ireturn, 1, 10, some .int) := fe_of pg_141 rfl
set_option maxRecDepth 100000 in
theorem f_142_0 : fe 142 0 = some (.iconst (-1), 1, 10, some .int) := fe_of pg_142 rfl
set_option maxRecDepth 100000 in
theorem f_142_1 : fe 142 1 = some (.istore_n 1, 1, 10, some .int) := fe_of pg_142 rfl
set_option maxRecDepth 100000 in
theorem f_142_2 : fe 142 2 = some (.iconst 1, 1, 10, some .int) := fe_of pg_142 rfl
set_option maxRecDepth 100000 in
theorem f_142_3 : fe 142 3 = some (.istore_n 2, 1, 10, some .int) := fe_of pg_142 rfl
set_option maxRecDepth 100000 in
theorem f_142_4 : fe 142 4 = some (.iload_n 2, 1, 10, some .int) := fe_of pg_142 rfl
set_option maxRecDepth 100000 in
theorem f_142_5 : fe 142 5 = some (.aload_n 0, 1, 10, some .int) := fe_of pg_142 rfl
set_option maxRecDepth 100000 in
theorem f_142_6 : fe 142 6 = some (.getfield 39, 3, 10, some .int) := fe_of pg_142 rfl
set_option maxRecDepth 100000 in
theorem f_142_9 : fe 142 9 = some (.if_icmp .ge 52, 3, 10, some .int) := fe_of pg_142 rfl
set_option maxRecDepth 100000 in
theorem f_142_12 : fe 142 12 = some (.aload_n 0, 1, 10, some .int) := fe_of pg_142 rfl
set_option maxRecDepth 100000 in
theorem f_142_13 : fe 142 13 = some (.getfield 9, 3, 10, some .int) := fe_of pg_142 rfl
set_option maxRecDepth 100000 in
theorem f_142_16 : fe 142 16 = some (.iload_n 2, 1, 10, some .int) := fe_of pg_142 rfl
set_option maxRecDepth 100000 in
theorem f_142_17 : fe 142 17 = some (.baload, 1, 10, some .int) := fe_of pg_142 rfl
set_option maxRecDepth 100000 in
theorem f_142_18 : fe 142 18 = some (.ifCond .eq 37, 3, 10, some .int) := fe_of pg_142 rfl
set_option maxRecDepth 100000 in
theorem f_142_21 : fe 142 21 = some (.aload_n 0, 1, 10, some .int) := fe_of pg_142 rfl
set_option maxRecDepth 100000 in
theorem f_142_22 : fe 142 22 = some (.getfield 9, 3, 10, some .int) := fe_of pg_142 rfl
set_option maxRecDepth 100000 in
theorem f_142_25 : fe 142 25 = some (.aload_n 0, 1, 10, some .int) := fe_of pg_142 rfl
set_option maxRecDepth 100000 in
theorem f_142_26 : fe 142 26 = some (.getfield 39, 3, 10, some .int) := fe_of pg_142 rfl
set_option maxRecDepth 100000 in
theorem f_142_29 : fe 142 29 = some (.iload_n 2, 1, 10, some .int) := fe_of pg_142 rfl
set_option maxRecDepth 100000 in
theorem f_142_30 : fe 142 30 = some (.ixor, 1, 10, some .int) := fe_of pg_142 rfl
set_option maxRecDepth 100000 in
theorem f_142_31 : fe 142 31 = some (.baload, 1, 10, some .int) := fe_of pg_142 rfl
set_option maxRecDepth 100000 in
theorem f_142_32 : fe 142 32 = some (.ifCond .eq 23, 3, 10, some .int) := fe_of pg_142 rfl
set_option maxRecDepth 100000 in
theorem f_142_35 : fe 142 35 = some (.iload_n 1, 1, 10, some .int) := fe_of pg_142 rfl
set_option maxRecDepth 100000 in
theorem f_142_36 : fe 142 36 = some (.iconst (-1), 1, 10, some .int) := fe_of pg_142 rfl
set_option maxRecDepth 100000 in
theorem f_142_37 : fe 142 37 = some (.if_icmp .eq 16, 3, 10, some .int) := fe_of pg_142 rfl
set_option maxRecDepth 100000 in
theorem f_142_40 : fe 142 40 = some (.aload_n 0, 1, 10, some .int) := fe_of pg_142 rfl
set_option maxRecDepth 100000 in
theorem f_142_41 : fe 142 41 = some (.iload_n 2, 1, 10, some .int) := fe_of pg_142 rfl
set_option maxRecDepth 100000 in
theorem f_142_42 : fe 142 42 = some (.invokevirtual 96, 3, 10, some .int) := fe_of pg_142 rfl
set_option maxRecDepth 100000 in
theorem f_142_45 : fe 142 45 = some (.aload_n 0, 1, 10, some .int) := fe_of pg_142 rfl
set_option maxRecDepth 100000 in
theorem f_142_46 : fe 142 46 = some (.iload_n 1, 1, 10, some .int) := fe_of pg_142 rfl
set_option maxRecDepth 100000 in
theorem f_142_47 : fe 142 47 = some (.invokevirtual 96, 3, 10, some .int) := fe_of pg_142 rfl
set_option maxRecDepth 100000 in
theorem f_142_50 : fe 142 50 = some (.if_icmp .ge 5, 3, 10, some .int) := fe_of pg_142 rfl
set_option maxRecDepth 100000 in
theorem f_142_53 : fe 142 53 = some (.iload_n 2, 1, 10, some .int) := fe_of pg_142 rfl
set_option maxRecDepth 100000 in
theorem f_142_54 : fe 142 54 = some (.istore_n 1, 1, 10, some .int) := fe_of pg_142 rfl
set_option maxRecDepth 100000 in
theorem f_142_55 : fe 142 55 = some (.iinc 2 2, 3, 10, some .int) := fe_of pg_142 rfl
set_option maxRecDepth 100000 in
theorem f_142_58 : fe 142 58 = some (.goto (-54), 3, 10, some .int) := fe_of pg_142 rfl
set_option maxRecDepth 100000 in
theorem f_142_61 : fe 142 61 = some (.iload_n 1, 1, 10, some .int) := fe_of pg_142 rfl
set_option maxRecDepth 100000 in
theorem f_142_62 : fe 142 62 = some (.ireturn, 1, 10, some .int) := fe_of pg_142 rfl
set_option maxRecDepth 100000 in
theorem f_143_0 : fe 143 0 = some (.aload_n 0, 1, 10, some .int) := fe_of pg_143 rfl
set_option maxRecDepth 100000 in
theorem f_143_1 : fe 143 1 = some (.getfield 32, 3, 10, some .int) := fe_of pg_143 rfl
set_option maxRecDepth 100000 in
theorem f_143_4 : fe 143 4 = some (.iload_n 1, 1, 10, some .int) := fe_of pg_143 rfl
set_option maxRecDepth 100000 in
theorem f_143_5 : fe 143 5 = some (.invokevirtual 56, 3, 10, some .int) := fe_of pg_143 rfl
set_option maxRecDepth 100000 in
theorem f_143_8 : fe 143 8 = some (.aload_n 0, 1, 10, some .int) := fe_of pg_143 rfl
set_option maxRecDepth 100000 in
theorem f_143_9 : fe 143 9 = some (.getfield 32, 3, 10, some .int) := fe_of pg_143 rfl
set_option maxRecDepth 100000 in
theorem f_143_12 : fe 143 12 = some (.aload_n 0, 1, 10, some .int) := fe_of pg_143 rfl
set_option maxRecDepth 100000 in
theorem f_143_13 : fe 143 13 = some (.getfield 39, 3, 10, some .int) := fe_of pg_143 rfl
set_option maxRecDepth 100000 in
theorem f_143_16 : fe 143 16 = some (.iload_n 1, 1, 10, some .int) := fe_of pg_143 rfl
set_option maxRecDepth 100000 in
theorem f_143_17 : fe 143 17 = some (.ixor, 1, 10, some .int) := fe_of pg_143 rfl
set_option maxRecDepth 100000 in
theorem f_143_18 : fe 143 18 = some (.invokevirtual 56, 3, 10, some .int) := fe_of pg_143 rfl
set_option maxRecDepth 100000 in
theorem f_143_21 : fe 143 21 = some (.isub, 1, 10, some .int) := fe_of pg_143 rfl
set_option maxRecDepth 100000 in
theorem f_143_22 : fe 143 22 = some (.invokestatic 99, 3, 10, some .int) := fe_of pg_143 rfl
set_option maxRecDepth 100000 in
theorem f_143_25 : fe 143 25 = some (.ireturn, 1, 10, some .int) := fe_of pg_143 rfl
set_option maxRecDepth 100000 in
theorem f_144_0 : fe 144 0 = some (.aload_n 0, 1, 11, none) := fe_of pg_144 rfl
set_option maxRecDepth 100000 in
theorem f_144_1 : fe 144 1 = some (.invokespecial 1, 3, 11, none) := fe_of pg_144 rfl
set_option maxRecDepth 100000 in
theorem f_144_4 : fe 144 4 = some (.aload_n 0, 1, 11, none) := fe_of pg_144 rfl
set_option maxRecDepth 100000 in
theorem f_144_5 : fe 144 5 = some (.new 7, 3, 11, none) := fe_of pg_144 rfl
set_option maxRecDepth 100000 in
theorem f_144_8 : fe 144 8 = some (.dup, 1, 11, none) := fe_of pg_144 rfl
set_option maxRecDepth 100000 in
theorem f_144_9 : fe 144 9 = some (.invokespecial 9, 3, 11, none) := fe_of pg_144 rfl
set_option maxRecDepth 100000 in
theorem f_144_12 : fe 144 12 = some (.putfield 10, 3, 11, none) := fe_of pg_144 rfl
set_option maxRecDepth 100000 in
theorem f_144_15 : fe 144 15 = some (.aload_n 0, 1, 11, none) := fe_of pg_144 rfl
set_option maxRecDepth 100000 in
theorem f_144_16 : fe 144 16 = some (.iconst 3, 1, 11, none) := fe_of pg_144 rfl
set_option maxRecDepth 100000 in
theorem f_144_17 : fe 144 17 = some (.anewarray 7, 3, 11, none) := fe_of pg_144 rfl
set_option maxRecDepth 100000 in
theorem f_144_20 : fe 144 20 = some (.putfield 16, 3, 11, none) := fe_of pg_144 rfl
set_option maxRecDepth 100000 in
theorem f_144_23 : fe 144 23 = some (.aload_n 0, 1, 11, none) := fe_of pg_144 rfl
set_option maxRecDepth 100000 in
theorem f_144_24 : fe 144 24 = some (.new 20, 3, 11, none) := fe_of pg_144 rfl
set_option maxRecDepth 100000 in
theorem f_144_27 : fe 144 27 = some (.dup, 1, 11, none) := fe_of pg_144 rfl
set_option maxRecDepth 100000 in
theorem f_144_28 : fe 144 28 = some (.invokespecial 22, 3, 11, none) := fe_of pg_144 rfl
set_option maxRecDepth 100000 in
theorem f_144_31 : fe 144 31 = some (.putfield 23, 3, 11, none) := fe_of pg_144 rfl
set_option maxRecDepth 100000 in
theorem f_144_34 : fe 144 34 = some (.aload_n 0, 1, 11, none) := fe_of pg_144 rfl
set_option maxRecDepth 100000 in
theorem f_144_35 : fe 144 35 = some (.new 27, 3, 11, none) := fe_of pg_144 rfl
set_option maxRecDepth 100000 in
theorem f_144_38 : fe 144 38 = some (.dup, 1, 11, none) := fe_of pg_144 rfl
set_option maxRecDepth 100000 in
theorem f_144_39 : fe 144 39 = some (.aload_n 0, 1, 11, none) := fe_of pg_144 rfl
set_option maxRecDepth 100000 in
theorem f_144_40 : fe 144 40 = some (.getfield 23, 3, 11, none) := fe_of pg_144 rfl
set_option maxRecDepth 100000 in
theorem f_144_43 : fe 144 43 = some (.getfield 29, 3, 11, none) := fe_of pg_144 rfl
set_option maxRecDepth 100000 in
theorem f_144_46 : fe 144 46 = some (.invokespecial 33, 3, 11, none) := fe_of pg_144 rfl
set_option maxRecDepth 100000 in
theorem f_144_49 : fe 144 49 = some (.putfield 36, 3, 11, none) := fe_of pg_144 rfl
set_option maxRecDepth 100000 in
theorem f_144_52 : fe 144 52 = some (.aload_n 0, 1, 11, none) := fe_of pg_144 rfl
set_option maxRecDepth 100000 in
theorem f_144_53 : fe 144 53 = some (.new 40, 3, 11, none) := fe_of pg_144 rfl
set_option maxRecDepth 100000 in
theorem f_144_56 : fe 144 56 = some (.dup, 1, 11, none) := fe_of pg_144 rfl
set_option maxRecDepth 100000 in
theorem f_144_57 : fe 144 57 = some (.aload_n 0, 1, 11, none) := fe_of pg_144 rfl
set_option maxRecDepth 100000 in
theorem f_144_58 : fe 144 58 = some (.getfield 23, 3, 11, none) := fe_of pg_144 rfl
set_option maxRecDepth 100000 in
theorem f_144_61 : fe 144 61 = some (.getfield 29, 3, 11, none) := fe_of pg_144 rfl
set_option maxRecDepth 100000 in
theorem f_144_64 : fe 144 64 = some (.invokespecial 42, 3, 11, none) := fe_of pg_144 rfl
set_option maxRecDepth 100000 in
theorem f_144_67 : fe 144 67 = some (.putfield 43, 3, 11, none) := fe_of pg_144 rfl
set_option maxRecDepth 100000 in
theorem f_144_70 : fe 144 70 = some (.aload_n 0, 1, 11, none) := fe_of pg_144 rfl
set_option maxRecDepth 100000 in
theorem f_144_71 : fe 144 71 = some (.new 47, 3, 11, none) := fe_of pg_144 rfl
set_option maxRecDepth 100000 in
theorem f_144_74 : fe 144 74 = some (.dup, 1, 11, none) := fe_of pg_144 rfl
set_option maxRecDepth 100000 in
theorem f_144_75 : fe 144 75 = some (.aload_n 0, 1, 11, none) := fe_of pg_144 rfl
set_option maxRecDepth 100000 in
theorem f_144_76 : fe 144 76 = some (.getfield 43, 3, 11, none) := fe_of pg_144 rfl
set_option maxRecDepth 100000 in
theorem f_144_79 : fe 144 79 = some (.invokespecial 49, 3, 11, none) := fe_of pg_144 rfl
set_option maxRecDepth 100000 in
theorem f_144_82 : fe 144 82 = some (.putfield 52, 3, 11, none) := fe_of pg_144 rfl
set_option maxRecDepth 100000 in
theorem f_144_85 : fe 144 85 = some (.aload_n 0, 1, 11, none) := fe_of pg_144 rfl
set_option maxRecDepth 100000 in
theorem f_144_86 : fe 144 86 = some (.new 56, 3, 11, none) := fe_of pg_144 rfl
set_option maxRecDepth 100000 in
theorem f_144_89 : fe 144 89 = some (.dup, 1, 11, none) := fe_of pg_144 rfl
set_option maxRecDepth 100000 in
theorem f_144_90 : fe 144 90 = some (.invokespecial 58, 3, 11, none) := fe_of pg_144 rfl
set_option maxRecDepth 100000 in
theorem f_144_93 : fe 144 93 = some (.putfield 59, 3, 11, none) := fe_of pg_144 rfl
set_option maxRecDepth 100000 in
theorem f_144_96 : fe 144 96 = some (.aload_n 0, 1, 11, none) := fe_of pg_144 rfl
set_option maxRecDepth 100000 in
theorem f_144_97 : fe 144 97 = some (.new 63, 3, 11, none) := fe_of pg_144 rfl
set_option maxRecDepth 100000 in
theorem f_144_100 : fe 144 100 = some (.dup, 1, 11, none) := fe_of pg_144 rfl
set_option maxRecDepth 100000 in
theorem f_144_101 : fe 144 101 = some (.invokespecial 65, 3, 11, none) := fe_of pg_144 rfl
set_option maxRecDepth 100000 in
theorem f_144_104 : fe 144 104 = some (.putfield 66, 3, 11, none) := fe_of pg_144 rfl
set_option maxRecDepth 100000 in
theorem f_144_107 : fe 144 107 = some (.return_, 1, 11, none) := fe_of pg_144 rfl
set_option maxRecDepth 100000 in
theorem f_145_0 : fe 145 0 = some (.aload_n 0, 1, 11, some .int) := fe_of pg_145 rfl
set_option maxRecDepth 100000 in
theorem f_145_1 : fe 145 1 = some (.getfield 10, 3, 11, some .int) := fe_of pg_145 rfl
set_option maxRecDepth 100000 in
theorem f_145_4 : fe 145 4 = some (.getfield 70, 3, 11, some .int) := fe_of pg_145 rfl
set_option maxRecDepth 100000 in
theorem f_145_7 : fe 145 7 = some (.sipush 580, 3, 11, some .int) := fe_of pg_145 rfl
set_option maxRecDepth 100000 in
theorem f_145_10 : fe 145 10 = some (.if_icmp .le 5, 3, 11, some .int) := fe_of pg_145 rfl
set_option maxRecDepth 100000 in
theorem f_145_13 : fe 145 13 = some (.iconst (-1), 1, 11, some .int) := fe_of pg_145 rfl
set_option maxRecDepth 100000 in
theorem f_145_14 : fe 145 14 = some (.ireturn, 1, 11, some .int) := fe_of pg_145 rfl
set_option maxRecDepth 100000 in
theorem f_145_15 : fe 145 15 = some (.aload_n 0, 1, 11, some .int) := fe_of pg_145 rfl
set_option maxRecDepth 100000 in
theorem f_145_16 : fe 145 16 = some (.getfield 10, 3, 11, some .int) := fe_of pg_145 rfl
set_option maxRecDepth 100000 in
theorem f_145_19 : fe 145 19 = some (.iload_n 1, 1, 11, some .int) := fe_of pg_145 rfl
set_option maxRecDepth 100000 in
theorem f_145_20 : fe 145 20 = some (.invokevirtual 74, 3, 11, some .int) := fe_of pg_145 rfl
set_option maxRecDepth 100000 in
theorem f_145_23 : fe 145 23 = some (.aload_n 0, 1, 11, some .int) := fe_of pg_145 rfl
set_option maxRecDepth 100000 in
theorem f_145_24 : fe 145 24 = some (.getfield 10, 3, 11, some .int) := fe_of pg_145 rfl
set_option maxRecDepth 100000 in
theorem f_145_27 : fe 145 27 = some (.iload_n 2, 1, 11, some .int) := fe_of pg_145 rfl
set_option maxRecDepth 100000 in
theorem f_145_28 : fe 145 28 = some (.invokevirtual 74, 3, 11, some .int) := fe_of pg_145 rfl
set_option maxRecDepth 100000 in
theorem f_145_31 : fe 145 31 = some (.aload_n 0, 1, 11, some .int) := fe_of pg_145 rfl
set_option maxRecDepth 100000 in
theorem f_145_32 : fe 145 32 = some (.getfield 10, 3, 11, some .int) := fe_of pg_145 rfl
set_option maxRecDepth 100000 in
theorem f_145_35 : fe 145 35 = some (.iload_n 3, 1, 11, some .int) := fe_of pg_145 rfl
set_option maxRecDepth 100000 in
theorem f_145_36 : fe 145 36 = some (.invokevirtual 74, 3, 11, some .int) := fe_of pg_145 rfl
set_option maxRecDepth 100000 in
theorem f_145_39 : fe 145 39 = some (.aload_n 0, 1, 11, some .int) := fe_of pg_145 rfl
set_option maxRecDepth 100000 in
theorem f_145_40 : fe 145 40 = some (.getfield 10, 3, 11, some .int) := fe_of pg_145 rfl
set_option maxRecDepth 100000 in
theorem f_145_43 : fe 145 43 = some (.iload 4, 2, 11, some .int) := fe_of pg_145 rfl
set_option maxRecDepth 100000 in
theorem f_145_45 : fe 145 45 = some (.invokevirtual 74, 3, 11, some .int) := fe_of pg_145 rfl
set_option maxRecDepth 100000 in
theorem f_145_48 : fe 145 48 = some (.aload_n 0, 1, 11, some .int) := fe_of pg_145 rfl
set_option maxRecDepth 100000 in
theorem f_145_49 : fe 145 49 = some (.getfield 10, 3, 11, some .int) := fe_of pg_145 rfl
set_option maxRecDepth 100000 in
theorem f_145_52 : fe 145 52 = some (.iload 5, 2, 11, some .int) := fe_of pg_145 rfl
set_option maxRecDepth 100000 in
theorem f_145_54 : fe 145 54 = some (.invokevirtual 74, 3, 11, some .int) := fe_of pg_145 rfl
set_option maxRecDepth 100000 in
theorem f_145_57 : fe 145 57 = some (.aload_n 0, 1, 11, some .int) := fe_of pg_145 rfl
set_option maxRecDepth 100000 in
theorem f_145_58 : fe 145 58 = some (.getfield 10, 3, 11, some .int) := fe_of pg_145 rfl
set_option maxRecDepth 100000 in
theorem f_145_61 : fe 145 61 = some (.getfield 70, 3, 11, some .int) := fe_of pg_145 rfl
set_option maxRecDepth 100000 in
theorem f_145_64 : fe 145 64 = some (.ireturn, 1, 11, some .int) := fe_of pg_145 rfl
set_option maxRecDepth 100000 in
theorem f_146_0 : fe 146 0 = some (.iload_n 1, 1, 11, some .int) := fe_of pg_146 rfl
set_option maxRecDepth 100000 in
theorem f_146_1 : fe 146 1 = some (.ifCond .lt 14, 3, 11, some .int) := fe_of pg_146 rfl
set_option maxRecDepth 100000 in
theorem f_146_4 : fe 146 4 = some (.iload_n 1, 1, 11, some .int) := fe_of pg_146 rfl
set_option maxRecDepth 100000 in
theorem f_146_5 : fe 146 5 = some (.aload_n 0, 1, 11, some .int) := fe_of pg_146 rfl
set_option maxRecDepth 100000 in
theorem f_146_6 : fe 146 6 = some (.getfield 10, 3, 11, some .int) := fe_of pg_146 rfl
set_option maxRecDepth 100000 in
theorem f_146_9 : fe 146 9 = some (.getfield 70, 3, 11, some .int) := fe_of pg_146 rfl
set_option maxRecDepth 100000 in
theorem f_146_12 : fe 146 12 = some (.if_icmp .le 5, 3, 11, some .int) := fe_of pg_146 rfl
set_option maxRecDepth 100000 in
theorem f_146_15 : fe 146 15 = some (.iconst (-1), 1, 11, some .int) := fe_of pg_146 rfl
set_option maxRecDepth 100000 in
theorem f_146_16 : fe 146 16 = some (.ireturn, 1, 11, some .int) := fe_of pg_146 rfl
set_option maxRecDepth 100000 in
theorem f_146_17 : fe 146 17 = some (.aload_n 0, 1, 11, some .int) := fe_of pg_146 rfl
set_option maxRecDepth 100000 in
theorem f_146_18 : fe 146 18 = some (.getfield 10, 3, 11, some .int) := fe_of pg_146 rfl
set_option maxRecDepth 100000 in
theorem f_146_21 : fe 146 21 = some (.iload_n 1, 1, 11, some .int) := fe_of pg_146 rfl
set_option maxRecDepth 100000 in
theorem f_146_22 : fe 146 22 = some (.putfield 70, 3, 11, some .int) := fe_of pg_146 rfl
set_option maxRecDepth 100000 in
theorem f_146_25 : fe 146 25 = some (.iload_n 1, 1, 11, some .int) := fe_of pg_146 rfl
set_option maxRecDepth 100000 in
theorem f_146_26 : fe 146 26 = some (.ireturn, 1, 11, some .int) := fe_of pg_146 rfl
set_option maxRecDepth 100000 in
theorem f_147_0 : fe 147 0 = some (.aload_n 0, 1, 11, some .int) := fe_of pg_147 rfl
set_option maxRecDepth 100000 in
theorem f_147_1 : fe 147 1 = some (.getfield 10, 3, 11, some .int) := fe_of pg_147 rfl
set_option maxRecDepth 100000 in
theorem f_147_4 : fe 147 4 = some (.getfield 70, 3, 11, some .int) := fe_of pg_147 rfl
set_option maxRecDepth 100000 in
theorem f_147_7 : fe 147 7 = some (.istore_n 3, 1, 11, some .int) := fe_of pg_147 rfl
set_option maxRecDepth 100000 in
theorem f_147_8 : fe 147 8 = some (.aload_n 0, 1, 11, some .int) := fe_of pg_147 rfl
set_option maxRecDepth 100000 in
theorem f_147_9 : fe 147 9 = some (.getfield 10, 3, 11, some .int) := fe_of pg_147 rfl
set_option maxRecDepth 100000 in
theorem f_147_12 : fe 147 12 = some (.iconst 0, 1, 11, some .int) := fe_of pg_147 rfl
set_option maxRecDepth 100000 in
theorem f_147_13 : fe 147 13 = some (.putfield 70, 3, 11, some .int) := fe_of pg_147 rfl
set_option maxRecDepth 100000 in
theorem f_147_16 : fe 147 16 = some (.aload_n 0, 1, 11, some .int) := fe_of pg_147 rfl
set_option maxRecDepth 100000 in
theorem f_147_17 : fe 147 17 = some (.getfield 10, 3, 11, some .int) := fe_of pg_147 rfl
set_option maxRecDepth 100000 in
theorem f_147_20 : fe 147 20 = some (.iconst 0, 1, 11, some .int) := fe_of pg_147 rfl
set_option maxRecDepth 100000 in
theorem f_147_21 : fe 147 21 = some (.putfield 78, 3, 11, some .int) := fe_of pg_147 rfl
set_option maxRecDepth 100000 in
theorem f_147_24 : fe 147 24 = some (.aload_n 0, 1, 11, some .int) := fe_of pg_147 rfl
set_option maxRecDepth 100000 in
theorem f_147_25 : fe 147 25 = some (.getfield 10, 3, 11, some .int) := fe_of pg_147 rfl
set_option maxRecDepth 100000 in
theorem f_147_28 : fe 147 28 = some (.iconst (-1), 1, 11, some .int) := fe_of pg_147 rfl
set_option maxRecDepth 100000 in
theorem f_147_29 : fe 147 29 = some (.putfield 81, 3, 11, some .int) := fe_of pg_147 rfl
set_option maxRecDepth 100000 in
theorem f_147_32 : fe 147 32 = some (.aload_n 0, 1, 11, some .int) := fe_of pg_147 rfl
set_option maxRecDepth 100000 in
theorem f_147_33 : fe 147 33 = some (.getfield 10, 3, 11, some .int) := fe_of pg_147 rfl
set_option maxRecDepth 100000 in
theorem f_147_36 : fe 147 36 = some (.iload_n 1, 1, 11, some .int) := fe_of pg_147 rfl
set_option maxRecDepth 100000 in
theorem f_147_37 : fe 147 37 = some (.iload_n 2, 1, 11, some .int) := fe_of pg_147 rfl
set_option maxRecDepth 100000 in
theorem f_147_38 : fe 147 38 = some (.invokevirtual 84, 3, 11, some .int) := fe_of pg_147 rfl
set_option maxRecDepth 100000 in
theorem f_147_41 : fe 147 41 = some (.ifCond .ne 6, 3, 11, some .int) := fe_of pg_147 rfl
set_option maxRecDepth 100000 in
theorem f_147_44 : fe 147 44 = some (.bipush (-2), 2, 11, some .int) := fe_of pg_147 rfl
set_option maxRecDepth 100000 in
theorem f_147_46 : fe 147 46 = some (.ireturn, 1, 11, some .int) := fe_of pg_147 rfl
set_option maxRecDepth 100000 in
theorem f_147_47 : fe 147 47 = some (.aload_n 0, 1, 11, some .int) := fe_of pg_147 rfl
set_option maxRecDepth 100000 in
theorem f_147_48 : fe 147 48 = some (.getfield 23, 3, 11, some .int) := fe_of pg_147 rfl
set_option maxRecDepth 100000 in
theorem f_147_51 : fe 147 51 = some (.aload_n 0, 1, 11, some .int) := fe_of pg_147 rfl
set_option maxRecDepth 100000 in
theorem f_147_52 : fe 147 52 = some (.getfield 10, 3, 11, some .int) := fe_of pg_147 rfl
set_option maxRecDepth 100000 in
theorem f_147_55 : fe 147 55 = some (.getfield 88, 3, 11, some .int) := fe_of pg_147 rfl
set_option maxRecDepth 100000 in
theorem f_147_58 : fe 147 58 = some (.iload_n 3, 1, 11, some .int) := fe_of pg_147 rfl
set_option maxRecDepth 100000 in
theorem f_147_59 : fe 147 59 = some (.iload_n 1, 1, 11, some .int) := fe_of pg_147 rfl
set_option maxRecDepth 100000 in
theorem f_147_60 : fe 147 60 = some (.invokevirtual 92, 3, 11, some .int) := fe_of pg_147 rfl
set_option maxRecDepth 100000 in
theorem f_147_63 : fe 147 63 = some (.aload_n 0, 1, 11, some .int) := fe_of pg_147 rfl
set_option maxRecDepth 100000 in
theorem f_147_64 : fe 147 64 = some (.getfield 10, 3, 11, some .int) := fe_of pg_147 rfl
set_option maxRecDepth 100000 in
theorem f_147_67 : fe 147 67 = some (.aload_n 0, 1, 11, some .int) := fe_of pg_147 rfl
set_option maxRecDepth 100000 in
theorem f_147_68 : fe 147 68 = some (.getfield 23, 3, 11, some .int) := fe_of pg_147 rfl
set_option maxRecDepth 100000 in
theorem f_147_71 : fe 147 71 = some (.getfield 96, 3, 11, some .int) := fe_of pg_147 rfl
set_option maxRecDepth 100000 in
theorem f_147_74 : fe 147 74 = some (.putfield 78, 3, 11, some .int) := fe_of pg_147 rfl
set_option maxRecDepth 100000 in
theorem f_147_77 : fe 147 77 = some (.aload_n 0, 1, 11, some .int) := fe_of pg_147 rfl
set_option maxRecDepth 100000 in
theorem f_147_78 : fe 147 78 = some (.getfield 10, 3, 11, some .int) := fe_of pg_147 rfl
set_option maxRecDepth 100000 in
theorem f_147_81 : fe 147 81 = some (.aload_n 0, 1, 11, some .int) := fe_of pg_147 rfl
set_option maxRecDepth 100000 in
theorem f_147_82 : fe 147 82 = some (.getfield 23, 3, 11, some .int) := fe_of pg_147 rfl
set_option maxRecDepth 100000 in
theorem f_147_85 : fe 147 85 = some (.getfield 97, 3, 11, some .int) := fe_of pg_147 rfl
set_option maxRecDepth 100000 in
theorem f_147_88 : fe 147 88 = some (.putfield 81, 3, 11, some .int) := fe_of pg_147 rfl
set_option maxRecDepth 100000 in
theorem f_147_91 : fe 147 91 = some (.aload_n 0, 1, 11, some .int) := fe_of pg_147 rfl
set_option maxRecDepth 100000 in
theorem f_147_92 : fe 147 92 = some (.getfield 23, 3, 11, some .int) := fe_of pg_147 rfl
set_option maxRecDepth 100000 in
theorem f_147_95 : fe 147 95 = some (.getfield 96, 3, 11, some .int) := fe_of pg_147 rfl
set_option maxRecDepth 100000 in
theorem f_147_98 : fe 147 98 = some (.ifCond .eq 5, 3, 11, some .int) := fe_of pg_147 rfl
set_option maxRecDepth 100000 in
theorem f_147_101 : fe 147 101 = some (.iconst (-1), 1, 11, some .int) := fe_of pg_147 rfl
set_option maxRecDepth 100000 in
theorem f_147_102 : fe 147 102 = some (.ireturn, 1, 11, some .int) := fe_of pg_147 rfl
set_option maxRecDepth 100000 in
theorem f_147_103 : fe 147 103 = some (.iload_n 2, 1, 11, some .int) := fe_of pg_147 rfl
set_option maxRecDepth 100000 in
theorem f_147_104 : fe 147 104 = some (.iconst (-1), 1, 11, some .int) := fe_of pg_147 rfl
set_option maxRecDepth 100000 in
theorem f_147_105 : fe 147 105 = some (.if_icmp .ne 15, 3, 11, some .int) := fe_of pg_147 rfl
set_option maxRecDepth 100000 in
theorem f_147_108 : fe 147 108 = some (.aload_n 0, 1, 11, some .int) := fe_of pg_147 rfl
set_option maxRecDepth 100000 in
theorem f_147_109 : fe 147 109 = some (.getfield 10, 3, 11, some .int) := fe_of pg_147 rfl
set_option maxRecDepth 100000 in
theorem f_147_112 : fe 147 112 = some (.getfield 98, 3, 11, some .int) := fe_of pg_147 rfl
set_option maxRecDepth 100000 in
theorem f_147_115 : fe 147 115 = some (.iload_n 1, 1, 11, some .int) := fe_of pg_147 rfl
set_option maxRecDepth 100000 in
theorem f_147_116 : fe 147 116 = some (.iaload, 1, 11, some .int) := fe_of pg_147 rfl
set_option maxRecDepth 100000 in
theorem f_147_117 : fe 147 117 = some (.goto 4, 3, 11, some .int) := fe_of pg_147 rfl
set_option maxRecDepth 100000 in
theorem f_147_120 : fe 147 120 = some (.iload_n 2, 1, 11, some .int) := fe_of pg_147 rfl
set_option maxRecDepth 100000 in
theorem f_147_121 : fe 147 121 = some (.istore 4, 2, 11, some .int) := fe_of pg_147 rfl
set_option maxRecDepth 100000 in
theorem f_147_123 : fe 147 123 = some (.aload_n 0, 1, 11, some .int) := fe_of pg_147 rfl
set_option maxRecDepth 100000 in
theorem f_147_124 : fe 147 124 = some (.getfield 10, 3, 11, some .int) := fe_of pg_147 rfl
set_option maxRecDepth 100000 in
theorem f_147_127 : fe 147 127 = some (.iload_n 1, 1, 11, some .int) := fe_of pg_147 rfl
set_option maxRecDepth 100000 in
theorem f_147_128 : fe 147 128 = some (.iload 4, 2, 11, some .int) := fe_of pg_147 rfl
set_option maxRecDepth 100000 in
theorem f_147_130 : fe 147 130 = some (.aload_n 0, 1, 11, some .int) := fe_of pg_147 rfl
set_option maxRecDepth 100000 in
theorem f_147_131 : fe 147 131 = some (.getfield 23, 3, 11, some .int) := fe_of pg_147 rfl
set_option maxRecDepth 100000 in
theorem f_147_134 : fe 147 134 = some (.invokevirtual 102, 3, 11, some .int) := fe_of pg_147 rfl
set_option maxRecDepth 100000 in
theorem f_147_137 : fe 147 137 = some (.iload 4, 2, 11, some .int) := fe_of pg_147 rfl
set_option maxRecDepth 100000 in
theorem f_147_139 : fe 147 139 = some (.ireturn, 1, 11, some .int) := fe_of pg_147 rfl
set_option maxRecDepth 100000 in
theorem f_148_0 : fe 148 0 = some (.iload_n 1, 1, 11, some .int) := fe_of pg_148 rfl
set_option maxRecDepth 100000 in
theorem f_148_1 : fe 148 1 = some (.lookupswitch 43 #[(0, 27), (1, 35)], 27, 11, some .int) := fe_of pg_148 rfl
set_option maxRecDepth 100000 in
theorem f_148_28 : fe 148 28 = some (.aload_n 0, 1, 11, some .int) := fe_of pg_148 rfl
set_option maxRecDepth 100000 in
theorem f_148_29 : fe 148 29 = some (.getfield 10, 3, 11, some .int) := fe_of pg_148 rfl
set_option maxRecDepth 100000 in
theorem f_148_32 : fe 148 32 = some (.getfield 78, 3, 11, some .int) := fe_of pg_148 rfl
set_option maxRecDepth 100000 in
theorem f_148_35 : fe 148 35 = some (.ireturn, 1, 11, some .int) := fe_of pg_148 rfl
set_option maxRecDepth 100000 in
theorem f_148_36 : fe 148 36 = some (.aload_n 0, 1, 11, some .int) := fe_of pg_148 rfl
set_option maxRecDepth 100000 in
theorem f_148_37 : fe 148 37 = some (.getfield 10, 3, 11, some .int) := fe_of pg_148 rfl
set_option maxRecDepth 100000 in
theorem f_148_40 : fe 148 40 = some (.getfield 81, 3, 11, some .int) := fe_of pg_148 rfl
set_option maxRecDepth 100000 in
theorem f_148_43 : fe 148 43 = some (.ireturn, 1, 11, some .int) := fe_of pg_148 rfl
set_option maxRecDepth 100000 in
theorem f_148_44 : fe 148 44 = some (.iconst (-1), 1, 11, some .int) := fe_of pg_148 rfl
set_option maxRecDepth 100000 in
theorem f_148_45 : fe 148 45 = some (.ireturn, 1, 11, some .int) := fe_of pg_148 rfl
set_option maxRecDepth 100000 in
theorem f_149_0 : fe 149 0 = some (.iload_n 1, 1, 11, some .int) := fe_of pg_149 rfl
set_option maxRecDepth 100000 in
theorem f_149_1 : fe 149 1 = some (.ifCond .lt 20, 3, 11, some .int) := fe_of pg_149 rfl
set_option maxRecDepth 100000 in
theorem f_149_4 : fe 149 4 = some (.iload_n 1, 1, 11, some .int) := fe_of pg_149 rfl
set_option maxRecDepth 100000 in
theorem f_149_5 : fe 149 5 = some (.iconst 4, 1, 11, some .int) := fe_of pg_149 rfl
set_option maxRecDepth 100000 in
theorem f_149_6 : fe 149 6 = some (.if_icmp .ge 15, 3, 11, some .int) := fe_of pg_149 rfl
set_option maxRecDepth 100000 in
theorem f_149_9 : fe 149 9 = some (.aload_n 0, 1, 11, some .int) := fe_of pg_149 rfl
set_option maxRecDepth 100000 in
theorem f_149_10 : fe 149 10 = some (.getfield 10, 3, 11, some .int) := fe_of pg_149 rfl
set_option maxRecDepth 100000 in
theorem f_149_13 : fe 149 13 = some (.getfield 98, 3, 11, some .int) := fe_of pg_149 rfl
set_option maxRecDepth 100000 in
theorem f_149_16 : fe 149 16 = some (.iload_n 1, 1, 11, some .int) := fe_of pg_149 rfl
set_option maxRecDepth 100000 in
theorem f_149_17 : fe 149 17 = some (.iaload, 1, 11, some .int) := fe_of pg_149 rfl
set_option maxRecDepth 100000 in
theorem f_149_18 : fe 149 18 = some (.goto 5, 3, 11, some .int) := fe_of pg_149 rfl
set_option maxRecDepth 100000 in
theorem f_149_21 : fe 149 21 = some (.bipush (-2), 2, 11, some .int) := fe_of pg_149 rfl
set_option maxRecDepth 100000 in
theorem f_149_23 : fe 149 23 = some (.ireturn, 1, 11, some .int) := fe_of pg_149 rfl
set_option maxRecDepth 100000 in
theorem f_150_0 : fe 150 0 = some (.iload_n 1, 1, 11, some .boolean) := fe_of pg_150 rfl
set_option maxRecDepth 100000 in
theorem f_150_1 : fe 150 1 = some (.ifCond .lt 8, 3, 11, some .boolean) := fe_of pg_150 rfl
set_option maxRecDepth 100000 in
theorem f_150_4 : fe 150 4 = some (.iload_n 1, 1, 11, some .boolean) := fe_of pg_150 rfl
set_option maxRecDepth 100000 in
theorem f_150_5 : fe 150 5 = some (.iconst 3, 1, 11, some .boolean) := fe_of pg_150 rfl
set_option maxRecDepth 100000 in
theorem f_150_6 : fe 150 6 = some (.if_icmp .lt 5, 3, 11, some .boolean) := fe_of pg_150 rfl
set_option maxRecDepth 100000 in
theorem f_150_9 : fe 150 9 = some (.iconst 0, 1, 11, some .boolean) := fe_of pg_150 rfl
set_option maxRecDepth 100000 in
theorem f_150_10 : fe 150 10 = some (.ireturn, 1, 11, some .boolean) := fe_of pg_150 rfl
set_option maxRecDepth 100000 in
theorem f_150_11 : fe 150 11 = some (.aload_n 0, 1, 11, some .boolean) := fe_of pg_150 rfl
set_option maxRecDepth 100000 in
theorem f_150_12 : fe 150 12 = some (.getfield 16, 3, 11, some .boolean) := fe_of pg_150 rfl
set_option maxRecDepth 100000 in
theorem f_150_15 : fe 150 15 = some (.iload_n 1, 1, 11, some .boolean) := fe_of pg_150 rfl
set_option maxRecDepth 100000 in
theorem f_150_16 : fe 150 16 = some (.aaload, 1, 11, some .boolean) := fe_of pg_150 rfl
set_option maxRecDepth 100000 in
theorem f_150_17 : fe 150 17 = some (.ifnonnull 16, 3, 11, some .boolean) := fe_of pg_150 rfl
set_option maxRecDepth 100000 in
theorem f_150_20 : fe 150 20 = some (.aload_n 0, 1, 11, some .boolean) := fe_of pg_150 rfl
set_option maxRecDepth 100000 in
theorem f_150_21 : fe 150 21 = some (.getfield 16, 3, 11, some .boolean) := fe_of pg_150 rfl
set_option maxRecDepth 100000 in
theorem f_150_24 : fe 150 24 = some (.iload_n 1, 1, 11, some .boolean) := fe_of pg_150 rfl
set_option maxRecDepth 100000 in
theorem f_150_25 : fe 150 25 = some (.new 7, 3, 11, some .boolean) := fe_of pg_150 rfl
set_option maxRecDepth 100000 in
theorem f_150_28 : fe 150 28 = some (.dup, 1, 11, some .boolean) := fe_of pg_150 rfl
set_option maxRecDepth 100000 in
theorem f_150_29 : fe 150 29 = some (.invokespecial 9, 3, 11, some .boolean) := fe_of pg_150 rfl
set_option maxRecDepth 100000 in
theorem f_150_32 : fe 150 32 = some (.aastore, 1, 11, some .boolean) := fe_of pg_150 rfl
set_option maxRecDepth 100000 in
theorem f_150_33 : fe 150 33 = some (.aload_n 0, 1, 11, some .boolean) := fe_of pg_150 rfl
set_option maxRecDepth 100000 in
theorem f_150_34 : fe 150 34 = some (.getfield 16, 3, 11, some .boolean) := fe_of pg_150 rfl
set_option maxRecDepth 100000 in
theorem f_150_37 : fe 150 37 = some (.iload_n 1, 1, 11, some .boolean) := fe_of pg_150 rfl
set_option maxRecDepth 100000 in
theorem f_150_38 : fe 150 38 = some (.aaload, 1, 11, some .boolean) := fe_of pg_150 rfl
set_option maxRecDepth 100000 in
theorem f_150_39 : fe 150 39 = some (.aload_n 0, 1, 11, some .boolean) := fe_of pg_150 rfl
set_option maxRecDepth 100000 in
theorem f_150_40 : fe 150 40 = some (.getfield 10, 3, 11, some .boolean) := fe_of pg_150 rfl
set_option maxRecDepth 100000 in
theorem f_150_43 : fe 150 43 = some (.invokevirtual 106, 3, 11, some .boolean) := fe_of pg_150 rfl
set_option maxRecDepth 100000 in
theorem f_150_46 : fe 150 46 = some (.iconst 1, 1, 11, some .boolean) := fe_of pg_150 rfl
set_option maxRecDepth 100000 in
theorem f_150_47 : fe 150 47 = some (.ireturn, 1, 11, some .boolean) := fe_of pg_150 rfl
set_option maxRecDepth 100000 in
theorem f_151_0 : fe 151 0 = some (.iload_n 1, 1, 11, some .boolean) := fe_of pg_151 rfl
set_option maxRecDepth 100000 in
theorem f_151_1 : fe 151 1 = some (.ifCond .lt 17, 3, 11, some .boolean) := fe_of pg_151 rfl
set_option maxRecDepth 100000 in
theorem f_151_4 : fe 151 4 = some (.iload_n 1, 1, 11, some .boolean) := fe_of pg_151 rfl
set_option maxRecDepth 100000 in
theorem f_151_5 : fe 151 5 = some (.iconst 3, 1, 11, some .boolean) := fe_of pg_151 rfl
set_option maxRecDepth 100000 in
theorem f_151_6 : fe 151 6 = some (.if_icmp .ge 12, 3, 11, some .boolean) := fe_of pg_151 rfl
set_option maxRecDepth 100000 in
theorem f_151_9 : fe 151 9 = some (.aload_n 0, 1, 11, some .boolean) := fe_of pg_151 rfl
set_option maxRecDepth 100000 in
theorem f_151_10 : fe 151 10 = some (.getfield 16, 3, 11, some .boolean) := fe_of pg_151 rfl
set_option maxRecDepth 100000 in
theorem f_151_13 : fe 151 13 = some (.iload_n 1, 1, 11, some .boolean) := fe_of pg_151 rfl
set_option maxRecDepth 100000 in
theorem f_151_14 : fe 151 14 = some (.aaload, 1, 11, some .boolean) := fe_of pg_151 rfl
set_option maxRecDepth 100000 in
theorem f_151_15 : fe 151 15 = some (.ifnonnull 5, 3, 11, some .boolean) := fe_of pg_151 rfl
set_option maxRecDepth 100000 in
theorem f_151_18 : fe 151 18 = some (.iconst 0, 1, 11, some .boolean) := fe_of pg_151 rfl
set_option maxRecDepth 100000 in
theorem f_151_19 : fe 151 19 = some (.ireturn, 1, 11, some .boolean) := fe_of pg_151 rfl
set_option maxRecDepth 100000 in
theorem f_151_20 : fe 151 20 = some (.aload_n 0, 1, 11, some .boolean) := fe_of pg_151 rfl
set_option maxRecDepth 100000 in
theorem f_151_21 : fe 151 21 = some (.getfield 10, 3, 11, some .boolean) := fe_of pg_151 rfl
set_option maxRecDepth 100000 in
theorem f_151_24 : fe 151 24 = some (.aload_n 0, 1, 11, some .boolean) := fe_of pg_151 rfl
set_option maxRecDepth 100000 in
theorem f_151_25 : fe 151 25 = some (.getfield 16, 3, 11, some .boolean) := fe_of pg_151 rfl
set_option maxRecDepth 100000 in
theorem f_151_28 : fe 151 28 = some (.iload_n 1, 1, 11, some .boolean) := fe_of pg_151 rfl
set_option maxRecDepth 100000 in
theorem f_151_29 : fe 151 29 = some (.aaload, 1, 11, some .boolean) := fe_of pg_151 rfl
set_option maxRecDepth 100000 in
theorem f_151_30 : fe 151 30 = some (.invokevirtual 106, 3, 11, some .boolean) := fe_of pg_151 rfl
set_option maxRecDepth 100000 in
theorem f_151_33 : fe 151 33 = some (.iconst 1, 1, 11, some .boolean) := fe_of pg_151 rfl
set_option maxRecDepth 100000 in
theorem f_151_34 : fe 151 34 = some (.ireturn, 1, 11, some .boolean) := fe_of pg_151 rfl
set_option maxRecDepth 100000 in
theorem f_152_0 : fe 152 0 = some (.aload_n 0, 1, 11, some .int) := fe_of pg_152 rfl
set_option maxRecDepth 100000 in
theorem f_152_1 : fe 152 1 = some (.iload_n 1, 1, 11, some .int) := fe_of pg_152 rfl
set_option maxRecDepth 100000 in
theorem f_152_2 : fe 152 2 = some (.invokevirtual 110, 3, 11, some .int) := fe_of pg_152 rfl
set_option maxRecDepth 100000 in
theorem f_152_5 : fe 152 5 = some (.astore_n 3, 1, 11, some .int) := fe_of pg_152 rfl
set_option maxRecDepth 100000 in
theorem f_152_6 : fe 152 6 = some (.aload_n 3, 1, 11, some .int) := fe_of pg_152 rfl
set_option maxRecDepth 100000 in
theorem f_152_7 : fe 152 7 = some (.ifnonnull 7, 3, 11, some .int) := fe_of pg_152 rfl
set_option maxRecDepth 100000 in
theorem f_152_10 : fe 152 10 = some (.iconst (-1), 1, 11, some .int) := fe_of pg_152 rfl
set_option maxRecDepth 100000 in
theorem f_152_11 : fe 152 11 = some (.goto 8, 3, 11, some .int) := fe_of pg_152 rfl
set_option maxRecDepth 100000 in
theorem f_152_14 : fe 152 14 = some (.aload_n 3, 1, 11, some .int) := fe_of pg_152 rfl
set_option maxRecDepth 100000 in
theorem f_152_15 : fe 152 15 = some (.iload_n 2, 1, 11, some .int) := fe_of pg_152 rfl
set_option maxRecDepth 100000 in
theorem f_152_16 : fe 152 16 = some (.invokevirtual 114, 3, 11, some .int) := fe_of pg_152 rfl
set_option maxRecDepth 100000 in
theorem f_152_19 : fe 152 19 = some (.ireturn, 1, 11, some .int) := fe_of pg_152 rfl
set_option maxRecDepth 100000 in
theorem f_153_0 : fe 153 0 = some (.aload_n 0, 1, 11, some .int) := fe_of pg_153 rfl
set_option maxRecDepth 100000 in
theorem f_153_1 : fe 153 1 = some (.iload_n 1, 1, 11, some .int) := fe_of pg_153 rfl
set_option maxRecDepth 100000 in
theorem f_153_2 : fe 153 2 = some (.invokevirtual 120, 3, 11, some .int) := fe_of pg_153 rfl
set_option maxRecDepth 100000 in
theorem f_153_5 : fe 153 5 = some (.astore 4, 2, 11, some .int) := fe_of pg_153 rfl
set_option maxRecDepth 100000 in
theorem f_153_7 : fe 153 7 = some (.aload 4, 2, 11, some .int) := fe_of pg_153 rfl
set_option maxRecDepth 100000 in
theorem f_153_9 : fe 153 9 = some (.ifnonnull 8, 3, 11, some .int) := fe_of pg_153 rfl
set_option maxRecDepth 100000 in
theorem f_153_12 : fe 153 12 = some (.bipush (-2), 2, 11, some .int) := fe_of pg_153 rfl
set_option maxRecDepth 100000 in
theorem f_153_14 : fe 153 14 = some (.goto 10, 3, 11, some .int) := fe_of pg_153 rfl
set_option maxRecDepth 100000 in
theorem f_153_17 : fe 153 17 = some (.aload 4, 2, 11, some .int) := fe_of pg_153 rfl
set_option maxRecDepth 100000 in
theorem f_153_19 : fe 153 19 = some (.iload_n 2, 1, 11, some .int) := fe_of pg_153 rfl
set_option maxRecDepth 100000 in
theorem f_153_20 : fe 153 20 = some (.iload_n 3, 1, 11, some .int) := fe_of pg_153 rfl
set_option maxRecDepth 100000 in
theorem f_153_21 : fe 153 21 = some (.invokevirtual 124, 3, 11, some .int) := fe_of pg_153 rfl
set_option maxRecDepth 100000 in
theorem f_153_24 : fe 153 24 = some (.ireturn, 1, 11, some .int) := fe_of pg_153 rfl
set_option maxRecDepth 100000 in
theorem f_154_0 : fe 154 0 = some (.aload_n 0, 1, 11, some .int) := fe_of pg_154 rfl
set_option maxRecDepth 100000 in
theorem f_154_1 : fe 154 1 = some (.iload_n 1, 1, 11, some .int) := fe_of pg_154 rfl
set_option maxRecDepth 100000 in
theorem f_154_2 : fe 154 2 = some (.invokevirtual 110, 3, 11, some .int) := fe_of pg_154 rfl
set_option maxRecDepth 100000 in
theorem f_154_5 : fe 154 5 = some (.astore_n 3, 1, 11, some .int) := fe_of pg_154 rfl
set_option maxRecDepth 100000 in
theorem f_154_6 : fe 154 6 = some (.aload_n 0, 1, 11, some .int) := fe_of pg_154 rfl
set_option maxRecDepth 100000 in
theorem f_154_7 : fe 154 7 = some (.iload_n 2, 1, 11, some .int) := fe_of pg_154 rfl
set_option maxRecDepth 100000 in
theorem f_154_8 : fe 154 8 = some (.invokevirtual 120, 3, 11, some .int) := fe_of pg_154 rfl
set_option maxRecDepth 100000 in
theorem f_154_11 : fe 154 11 = some (.astore 4, 2, 11, some .int) := fe_of pg_154 rfl
set_option maxRecDepth 100000 in
theorem f_154_13 : fe 154 13 = some (.aload_n 3, 1, 11, some .int) := fe_of pg_154 rfl
set_option maxRecDepth 100000 in
theorem f_154_14 : fe 154 14 = some (.ifnull 8, 3, 11, some .int) := fe_of pg_154 rfl
set_option maxRecDepth 100000 in
theorem f_154_17 : fe 154 17 = some (.aload 4, 2, 11, some .int) := fe_of pg_154 rfl
set_option maxRecDepth 100000 in
theorem f_154_19 : fe 154 19 = some (.ifnonnull 5, 3, 11, some .int) := fe_of pg_154 rfl
set_option maxRecDepth 100000 in
theorem f_154_22 : fe 154 22 = some (.iconst (-1), 1, 11, some .int) := fe_of pg_154 rfl
set_option maxRecDepth 100000 in
theorem f_154_23 : fe 154 23 = some (.ireturn, 1, 11, some .int) := fe_of pg_154 rfl
set_option maxRecDepth 100000 in
theorem f_154_24 : fe 154 24 = some (.aload_n 0, 1, 11, some .int) := fe_of pg_154 rfl
set_option maxRecDepth 100000 in
theorem f_154_25 : fe 154 25 = some (.getfield 36, 3, 11, some .int) := fe_of pg_154 rfl
set_option maxRecDepth 100000 in
theorem f_154_28 : fe 154 28 = some (.aload_n 3, 1, 11, some .int) := fe_of pg_154 rfl
set_option maxRecDepth 100000 in
theorem f_154_29 : fe 154 29 = some (.invokevirtual 129, 3, 11, some .int) := fe_of pg_154 rfl
set_option maxRecDepth 100000 in
theorem f_154_32 : fe 154 32 = some (.aload_n 0, 1, 11, some .int) := fe_of pg_154 rfl
set_option maxRecDepth 100000 in
theorem f_154_33 : fe 154 33 = some (.getfield 36, 3, 11, some .int) := fe_of pg_154 rfl
set_option maxRecDepth 100000 in
theorem f_154_36 : fe 154 36 = some (.aload 4, 2, 11, some .int) := fe_of pg_154 rfl
set_option maxRecDepth 100000 in
theorem f_154_38 : fe 154 38 = some (.aload 4, 2, 11, some .int) := fe_of pg_154 rfl
set_option maxRecDepth 100000 in
theorem f_154_40 : fe 154 40 = some (.getfield 132, 3, 11, some .int) := fe_of pg_154 rfl
set_option maxRecDepth 100000 in
theorem f_154_43 : fe 154 43 = some (.invokevirtual 135, 3, 11, some .int) := fe_of pg_154 rfl
set_option maxRecDepth 100000 in
theorem f_154_46 : fe 154 46 = some (.ireturn, 1, 11, some .int) := fe_of pg_154 rfl
set_option maxRecDepth 100000 in
theorem f_155_0 : fe 155 0 = some (.aload_n 0, 1, 11, some .int) := fe_of pg_155 rfl
set_option maxRecDepth 100000 in
theorem f_155_1 : fe 155 1 = some (.iload_n 1, 1, 11, some .int) := fe_of pg_155 rfl
set_option maxRecDepth 100000 in
theorem f_155_2 : fe 155 2 = some (.invokevirtual 110, 3, 11, some .int) := fe_of pg_155 rfl
set_option maxRecDepth 100000 in
theorem f_155_5 : fe 155 5 = some (.astore 5, 2, 11, some .int) := fe_of pg_155 rfl
set_option maxRecDepth 100000 in
theorem f_155_7 : fe 155 7 = some (.aload_n 0, 1, 11, some .int) := fe_of pg_155 rfl
set_option maxRecDepth 100000 in
theorem f_155_8 : fe 155 8 = some (.iload_n 2, 1, 11, some .int) := fe_of pg_155 rfl
set_option maxRecDepth 100000 in
theorem f_155_9 : fe 155 9 = some (.invokevirtual 120, 3, 11, some .int) := fe_of pg_155 rfl
set_option maxRecDepth 100000 in
theorem f_155_12 : fe 155 12 = some (.astore 6, 2, 11, some .int) := fe_of pg_155 rfl
set_option maxRecDepth 100000 in
theorem f_155_14 : fe 155 14 = some (.aload 5, 2, 11, some .int) := fe_of pg_155 rfl
set_option maxRecDepth 100000 in
theorem f_155_16 : fe 155 16 = some (.ifnull 21, 3, 11, some .int) := fe_of pg_155 rfl
set_option maxRecDepth 100000 in
theorem f_155_19 : fe 155 19 = some (.aload 6, 2, 11, some .int) := fe_of pg_155 rfl
set_option maxRecDepth 100000 in
theorem f_155_21 : fe 155 21 = some (.ifnull 16, 3, 11, some .int) := fe_of pg_155 rfl
set_option maxRecDepth 100000 in
theorem f_155_24 : fe 155 24 = some (.iload_n 3, 1, 11, some .int) := fe_of pg_155 rfl
set_option maxRecDepth 100000 in
theorem f_155_25 : fe 155 25 = some (.ifCond .lt 12, 3, 11, some .int) := fe_of pg_155 rfl
set_option maxRecDepth 100000 in
theorem f_155_28 : fe 155 28 = some (.iload_n 3, 1, 11, some .int) := fe_of pg_155 rfl
set_option maxRecDepth 100000 in
theorem f_155_29 : fe 155 29 = some (.aload 6, 2, 11, some .int) := fe_of pg_155 rfl
set_option maxRecDepth 100000 in
theorem f_155_31 : fe 155 31 = some (.getfield 132, 3, 11, some .int) := fe_of pg_155 rfl
set_option maxRecDepth 100000 in
theorem f_155_34 : fe 155 34 = some (.if_icmp .le 6, 3, 11, some .int) := fe_of pg_155 rfl
set_option maxRecDepth 100000 in
theorem f_155_37 : fe 155 37 = some (.bipush (-2), 2, 11, some .int) := fe_of pg_155 rfl
set_option maxRecDepth 100000 in
theorem f_155_39 : fe 155 39 = some (.ireturn, 1, 11, some .int) := fe_of pg_155 rfl
set_option maxRecDepth 100000 in
theorem f_155_40 : fe 155 40 = some (.aload_n 0, 1, 11, some .int) := fe_of pg_155 rfl
set_option maxRecDepth 100000 in
theorem f_155_41 : fe 155 41 = some (.getfield 36, 3, 11, some .int) := fe_of pg_155 rfl
set_option maxRecDepth 100000 in
theorem f_155_44 : fe 155 44 = some (.aload 5, 2, 11, some .int) := fe_of pg_155 rfl
set_option maxRecDepth 100000 in
theorem f_155_46 : fe 155 46 = some (.invokevirtual 129, 3, 11, some .int) := fe_of pg_155 rfl
set_option maxRecDepth 100000 in
theorem f_155_49 : fe 155 49 = some (.aload_n 0, 1, 11, some .int) := fe_of pg_155 rfl
set_option maxRecDepth 100000 in
theorem f_155_50 : fe 155 50 = some (.getfield 36, 3, 11, some .int) := fe_of pg_155 rfl
set_option maxRecDepth 100000 in
theorem f_155_53 : fe 155 53 = some (.aload 6, 2, 11, some .int) := fe_of pg_155 rfl
set_option maxRecDepth 100000 in
theorem f_155_55 : fe 155 55 = some (.iload_n 3, 1, 11, some .int) := fe_of pg_155 rfl
set_option maxRecDepth 100000 in
theorem f_155_56 : fe 155 56 = some (.invokevirtual 135, 3, 11, some .int) := fe_of pg_155 rfl
set_option maxRecDepth 100000 in
theorem f_155_59 : fe 155 59 = some (.iload_n 3, 1, 11, some .int) := fe_of pg_155 rfl
set_option maxRecDepth 100000 in
theorem f_155_60 : fe 155 60 = some (.if_icmp .ge 8, 3, 11, some .int) := fe_of pg_155 rfl
set_option maxRecDepth 100000 in
theorem f_155_63 : fe 155 63 = some (.bipush (-2), 2, 11, some .int) := fe_of pg_155 rfl
set_option maxRecDepth 100000 in
theorem f_155_65 : fe 155 65 = some (.goto 12, 3, 11, some .int) := fe_of pg_155 rfl
set_option maxRecDepth 100000 in
theorem f_155_68 : fe 155 68 = some (.aload_n 0, 1, 11, some .int) := fe_of pg_155 rfl
set_option maxRecDepth 100000 in
theorem f_155_69 : fe 155 69 = some (.getfield 36, 3, 11, some .int) := fe_of pg_155 rfl
set_option maxRecDepth 100000 in
theorem f_155_72 : fe 155 72 = some (.iload 4, 2, 11, some .int) := fe_of pg_155 rfl
set_option maxRecDepth 100000 in
theorem f_155_74 : fe 155 74 = some (.invokevirtual 139, 3, 11, some .int) := fe_of pg_155 rfl
set_option maxRecDepth 100000 in
theorem f_155_77 : fe 155 77 = some (.ireturn, 1, 11, some .int) := fe_of pg_155 rfl
set_option maxRecDepth 100000 in
theorem f_156_0 : fe 156 0 = some (.aload_n 0, 1, 11, some .int) := fe_of pg_156 rfl
set_option maxRecDepth 100000 in
theorem f_156_1 : fe 156 1 = some (.iload_n 1, 1, 11, some .int) := fe_of pg_156 rfl
set_option maxRecDepth 100000 in
theorem f_156_2 : fe 156 2 = some (.invokevirtual 110, 3, 11, some .int) := fe_of pg_156 rfl
set_option maxRecDepth 100000 in
theorem f_156_5 : fe 156 5 = some (.astore 5, 2, 11, some .int) := fe_of pg_156 rfl
set_option maxRecDepth 100000 in
theorem f_156_7 : fe 156 7 = some (.aload 5, 2, 11, some .int) := fe_of pg_156 rfl
set_option maxRecDepth 100000 in
theorem f_156_9 : fe 156 9 = some (.ifnull 21, 3, 11, some .int) := fe_of pg_156 rfl
set_option maxRecDepth 100000 in
theorem f_156_12 : fe 156 12 = some (.aload 5, 2, 11, some .int) := fe_of pg_156 rfl
set_option maxRecDepth 100000 in
theorem f_156_14 : fe 156 14 = some (.getfield 140, 3, 11, some .int) := fe_of pg_156 rfl
set_option maxRecDepth 100000 in
theorem f_156_17 : fe 156 17 = some (.ifCond .eq 13, 3, 11, some .int) := fe_of pg_156 rfl
set_option maxRecDepth 100000 in
theorem f_156_20 : fe 156 20 = some (.iload_n 3, 1, 11, some .int) := fe_of pg_156 rfl
set_option maxRecDepth 100000 in
theorem f_156_21 : fe 156 21 = some (.ifCond .lt 9, 3, 11, some .int) := fe_of pg_156 rfl
set_option maxRecDepth 100000 in
theorem f_156_24 : fe 156 24 = some (.iload_n 3, 1, 11, some .int) := fe_of pg_156 rfl
set_option maxRecDepth 100000 in
theorem f_156_25 : fe 156 25 = some (.bipush 60, 2, 11, some .int) := fe_of pg_156 rfl
set_option maxRecDepth 100000 in
theorem f_156_27 : fe 156 27 = some (.if_icmp .le 6, 3, 11, some .int) := fe_of pg_156 rfl
set_option maxRecDepth 100000 in
theorem f_156_30 : fe 156 30 = some (.bipush (-2), 2, 11, some .int) := fe_of pg_156 rfl
set_option maxRecDepth 100000 in
theorem f_156_32 : fe 156 32 = some (.ireturn, 1, 11, some .int) := fe_of pg_156 rfl
set_option maxRecDepth 100000 in
theorem f_156_33 : fe 156 33 = some (.aload_n 0, 1, 11, some .int) := fe_of pg_156 rfl
set_option maxRecDepth 100000 in
theorem f_156_34 : fe 156 34 = some (.getfield 36, 3, 11, some .int) := fe_of pg_156 rfl
set_option maxRecDepth 100000 in
theorem f_156_37 : fe 156 37 = some (.aload 5, 2, 11, some .int) := fe_of pg_156 rfl
set_option maxRecDepth 100000 in
theorem f_156_39 : fe 156 39 = some (.invokevirtual 129, 3, 11, some .int) := fe_of pg_156 rfl
set_option maxRecDepth 100000 in
theorem f_156_42 : fe 156 42 = some (.aload_n 0, 1, 11, some .int) := fe_of pg_156 rfl
set_option maxRecDepth 100000 in
theorem f_156_43 : fe 156 43 = some (.getfield 36, 3, 11, some .int) := fe_of pg_156 rfl
set_option maxRecDepth 100000 in
theorem f_156_46 : fe 156 46 = some (.iload_n 2, 1, 11, some .int) := fe_of pg_156 rfl
set_option maxRecDepth 100000 in
theorem f_156_47 : fe 156 47 = some (.iload_n 3, 1, 11, some .int) := fe_of pg_156 rfl
set_option maxRecDepth 100000 in
theorem f_156_48 : fe 156 48 = some (.invokevirtual 143, 3, 11, some .int) := fe_of pg_156 rfl
set_option maxRecDepth 100000 in
theorem f_156_51 : fe 156 51 = some (.aload_n 0, 1, 11, some .int) := fe_of pg_156 rfl
set_option maxRecDepth 100000 in
theorem f_156_52 : fe 156 52 = some (.getfield 36, 3, 11, some .int) := fe_of pg_156 rfl
set_option maxRecDepth 100000 in
theorem f_156_55 : fe 156 55 = some (.iload 4, 2, 11, some .int) := fe_of pg_156 rfl
set_option maxRecDepth 100000 in
theorem f_156_57 : fe 156 57 = some (.invokevirtual 139, 3, 11, some .int) := fe_of pg_156 rfl
set_option maxRecDepth 100000 in
theorem f_156_60 : fe 156 60 = some (.ireturn, 1, 11, some .int) := fe_of pg_156 rfl
set_option maxRecDepth 100000 in
theorem f_157_0 : fe 157 0 = some (.aload_n 0, 1, 11, some .int) := fe_of pg_157 rfl
set_option maxRecDepth 100000 in
theorem f_157_1 : fe 157 1 = some (.iload_n 1, 1, 11, some .int) := fe_of pg_157 rfl
set_option maxRecDepth 100000 in
theorem f_157_2 : fe 157 2 = some (.invokevirtual 110, 3, 11, some .int) := fe_of pg_157 rfl
set_option maxRecDepth 100000 in
theorem f_157_5 : fe 157 5 = some (.astore 5, 2, 11, some .int) := fe_of pg_157 rfl
set_option maxRecDepth 100000 in
theorem f_157_7 : fe 157 7 = some (.aload 5, 2, 11, some .int) := fe_of pg_157 rfl
set_option maxRecDepth 100000 in
theorem f_157_9 : fe 157 9 = some (.ifnull 21, 3, 11, some .int) := fe_of pg_157 rfl
set_option maxRecDepth 100000 in
theorem f_157_12 : fe 157 12 = some (.iload_n 2, 1, 11, some .int) := fe_of pg_157 rfl
set_option maxRecDepth 100000 in
theorem f_157_13 : fe 157 13 = some (.ifCond .lt 17, 3, 11, some .int) := fe_of pg_157 rfl
set_option maxRecDepth 100000 in
theorem f_157_16 : fe 157 16 = some (.iload_n 3, 1, 11, some .int) := fe_of pg_157 rfl
set_option maxRecDepth 100000 in
theorem f_157_17 : fe 157 17 = some (.iload_n 2, 1, 11, some .int) := fe_of pg_157 rfl
set_option maxRecDepth 100000 in
theorem f_157_18 : fe 157 18 = some (.if_icmp .le 12, 3, 11, some .int) := fe_of pg_157 rfl
set_option maxRecDepth 100000 in
theorem f_157_21 : fe 157 21 = some (.iload_n 3, 1, 11, some .int) := fe_of pg_157 rfl
set_option maxRecDepth 100000 in
theorem f_157_22 : fe 157 22 = some (.aload 5, 2, 11, some .int) := fe_of pg_157 rfl
set_option maxRecDepth 100000 in
theorem f_157_24 : fe 157 24 = some (.getfield 147, 3, 11, some .int) := fe_of pg_157 rfl
set_option maxRecDepth 100000 in
theorem f_157_27 : fe 157 27 = some (.if_icmp .le 5, 3, 11, some .int) := fe_of pg_157 rfl
set_option maxRecDepth 100000 in
theorem f_157_30 : fe 157 30 = some (.iconst (-1), 1, 11, some .int) := fe_of pg_157 rfl
set_option maxRecDepth 100000 in
theorem f_157_31 : fe 157 31 = some (.ireturn, 1, 11, some .int) := fe_of pg_157 rfl
set_option maxRecDepth 100000 in
theorem f_157_32 : fe 157 32 = some (.iload 4, 2, 11, some .int) := fe_of pg_157 rfl
set_option maxRecDepth 100000 in
theorem f_157_34 : fe 157 34 = some (.tableswitch 58 0 2 #[26, 38, 50], 26, 11, some .int) := fe_of pg_157 rfl
set_option maxRecDepth 100000 in
theorem f_157_60 : fe 157 60 = some (.aload 5, 2, 11, some .int) := fe_of pg_157 rfl
set_option maxRecDepth 100000 in
theorem f_157_62 : fe 157 62 = some (.iload_n 3, 1, 11, some .int) := fe_of pg_157 rfl
set_option maxRecDepth 100000 in
theorem f_157_63 : fe 157 63 = some (.iload_n 2, 1, 11, some .int) := fe_of pg_157 rfl
set_option maxRecDepth 100000 in
theorem f_157_64 : fe 157 64 = some (.isub, 1, 11, some .int) := fe_of pg_157 rfl
set_option maxRecDepth 100000 in
theorem f_157_65 : fe 157 65 = some (.invokevirtual 150, 3, 11, some .int) := fe_of pg_157 rfl
set_option maxRecDepth 100000 in
theorem f_157_68 : fe 157 68 = some (.bipush 16, 2, 11, some .int) := fe_of pg_157 rfl
set_option maxRecDepth 100000 in
theorem f_157_70 : fe 157 70 = some (.idiv, 1, 11, some .int) := fe_of pg_157 rfl
set_option maxRecDepth 100000 in
theorem f_157_71 : fe 157 71 = some (.ireturn, 1, 11, some .int) := fe_of pg_157 rfl
set_option maxRecDepth 100000 in
theorem f_157_72 : fe 157 72 = some (.aload 5, 2, 11, some .int) := fe_of pg_157 rfl
set_option maxRecDepth 100000 in
theorem f_157_74 : fe 157 74 = some (.iload_n 3, 1, 11, some .int) := fe_of pg_157 rfl
set_option maxRecDepth 100000 in
theorem f_157_75 : fe 157 75 = some (.iload_n 2, 1, 11, some .int) := fe_of pg_157 rfl
set_option maxRecDepth 100000 in
theorem f_157_76 : fe 157 76 = some (.isub, 1, 11, some .int) := fe_of pg_157 rfl
set_option maxRecDepth 100000 in
theorem f_157_77 : fe 157 77 = some (.invokevirtual 150, 3, 11, some .int) := fe_of pg_157 rfl
set_option maxRecDepth 100000 in
theorem f_157_80 : fe 157 80 = some (.bipush 16, 2, 11, some .int) := fe_of pg_157 rfl
set_option maxRecDepth 100000 in
theorem f_157_82 : fe 157 82 = some (.irem, 1, 11, some .int) := fe_of pg_157 rfl
set_option maxRecDepth 100000 in
theorem f_157_83 : fe 157 83 = some (.ireturn, 1, 11, some .int) := fe_of pg_157 rfl
set_option maxRecDepth 100000 in
theorem f_157_84 : fe 157 84 = some (.aload 5, 2, 11, some .int) := fe_of pg_157 rfl
set_option maxRecDepth 100000 in
theorem f_157_86 : fe 157 86 = some (.iload_n 2, 1, 11, some .int) := fe_of pg_157 rfl
set_option maxRecDepth 100000 in
theorem f_157_87 : fe 157 87 = some (.iload_n 3, 1, 11, some .int) := fe_of pg_157 rfl
set_option maxRecDepth 100000 in
theorem f_157_88 : fe 157 88 = some (.invokevirtual 153, 3, 11, some .int) := fe_of pg_157 rfl
set_option maxRecDepth 100000 in
theorem f_157_91 : fe 157 91 = some (.ireturn, 1, 11, some .int) := fe_of pg_157 rfl
set_option maxRecDepth 100000 in
theorem f_157_92 : fe 157 92 = some (.iconst (-1), 1, 11, some .int) := fe_of pg_157 rfl
set_option maxRecDepth 100000 in
theorem f_157_93 : fe 157 93 = some (.ireturn, 1, 11, some .int) := fe_of pg_157 rfl
set_option maxRecDepth 100000 in
theorem f_158_0 : fe 158 0 = some (.aload_n 0, 1, 11, some .int) := fe_of pg_158 rfl
set_option maxRecDepth 100000 in
theorem f_158_1 : fe 158 1 = some (.iload_n 1, 1, 11, some .int) := fe_of pg_158 rfl
set_option maxRecDepth 100000 in
theorem f_158_2 : fe 158 2 = some (.invokevirtual 110, 3, 11, some .int) := fe_of pg_158 rfl
set_option maxRecDepth 100000 in
theorem f_158_5 : fe 158 5 = some (.astore_n 3, 1, 11, some .int) := fe_of pg_158 rfl
set_option maxRecDepth 100000 in
theorem f_158_6 : fe 158 6 = some (.aload_n 3, 1, 11, some .int) := fe_of pg_158 rfl
set_option maxRecDepth 100000 in
theorem f_158_7 : fe 158 7 = some (.ifnonnull 7, 3, 11, some .int) := fe_of pg_158 rfl
set_option maxRecDepth 100000 in
theorem f_158_10 : fe 158 10 = some (.iconst (-1), 1, 11, some .int) := fe_of pg_158 rfl
set_option maxRecDepth 100000 in
theorem f_158_11 : fe 158 11 = some (.goto 8, 3, 11, some .int) := fe_of pg_158 rfl
set_option maxRecDepth 100000 in
theorem f_158_14 : fe 158 14 = some (.aload_n 3, 1, 11, some .int) := fe_of pg_158 rfl
set_option maxRecDepth 100000 in
theorem f_158_15 : fe 158 15 = some (.iload_n 2, 1, 11, some .int) := fe_of pg_158 rfl
set_option maxRecDepth 100000 in
theorem f_158_16 : fe 158 16 = some (.invokevirtual 156, 3, 11, some .int) := fe_of pg_158 rfl
set_option maxRecDepth 100000 in
theorem f_158_19 : fe 158 19 = some (.ireturn, 1, 11, some .int) := fe_of pg_158 rfl
set_option maxRecDepth 100000 in
theorem f_159_0 : fe 159 0 = some (.aload_n 0, 1, 11, some .int) := fe_of pg_159 rfl
set_option maxRecDepth 100000 in
theorem f_159_1 : fe 159 1 = some (.iload_n 1, 1, 11, some .int) := fe_of pg_159 rfl
set_option maxRecDepth 100000 in
theorem f_159_2 : fe 159 2 = some (.invokevirtual 110, 3, 11, some .int) := fe_of pg_159 rfl
set_option maxRecDepth 100000 in
theorem f_159_5 : fe 159 5 = some (.astore 4, 2, 11, some .int) := fe_of pg_159 rfl
set_option maxRecDepth 100000 in
theorem f_159_7 : fe 159 7 = some (.aload 4, 2, 11, some .int) := fe_of pg_159 rfl
set_option maxRecDepth 100000 in
theorem f_159_9 : fe 159 9 = some (.ifnull 25, 3, 11, some .int) := fe_of pg_159 rfl
set_option maxRecDepth 100000 in
theorem f_159_12 : fe 159 12 = some (.aload 4, 2, 11, some .int) := fe_of pg_159 rfl
set_option maxRecDepth 100000 in
theorem f_159_14 : fe 159 14 = some (.iload_n 2, 1, 11, some .int) := fe_of pg_159 rfl
set_option maxRecDepth 100000 in
theorem f_159_15 : fe 159 15 = some (.invokevirtual 159, 3, 11, some .int) := fe_of pg_159 rfl
set_option maxRecDepth 100000 in
theorem f_159_18 : fe 159 18 = some (.ifCond .eq 16, 3, 11, some .int) := fe_of pg_159 rfl
set_option maxRecDepth 100000 in
theorem f_159_21 : fe 159 21 = some (.iload_n 3, 1, 11, some .int) := fe_of pg_159 rfl
set_option maxRecDepth 100000 in
theorem f_159_22 : fe 159 22 = some (.ifCond .lt 12, 3, 11, some .int) := fe_of pg_159 rfl
set_option maxRecDepth 100000 in
theorem f_159_25 : fe 159 25 = some (.iload_n 3, 1, 11, some .int) := fe_of pg_159 rfl
set_option maxRecDepth 100000 in
theorem f_159_26 : fe 159 26 = some (.aload 4, 2, 11, some .int) := fe_of pg_159 rfl
set_option maxRecDepth 100000 in
theorem f_159_28 : fe 159 28 = some (.getfield 147, 3, 11, some .int) := fe_of pg_159 rfl
set_option maxRecDepth 100000 in
theorem f_159_31 : fe 159 31 = some (.if_icmp .le 5, 3, 11, some .int) := fe_of pg_159 rfl
set_option maxRecDepth 100000 in
theorem f_159_34 : fe 159 34 = some (.iconst (-1), 1, 11, some .int) := fe_of pg_159 rfl
set_option maxRecDepth 100000 in
theorem f_159_35 : fe 159 35 = some (.ireturn, 1, 11, some .int) := fe_of pg_159 rfl
set_option maxRecDepth 100000 in
theorem f_159_36 : fe 159 36 = some (.aload_n 0, 1, 11, some .int) := fe_of pg_159 rfl
set_option maxRecDepth 100000 in
theorem f_159_37 : fe 159 37 = some (.getfield 43, 3, 11, some .int) := fe_of pg_159 rfl
set_option maxRecDepth 100000 in
theorem f_159_40 : fe 159 40 = some (.aload 4, 2, 11, some .int) := fe_of pg_159 rfl
set_option maxRecDepth 100000 in
theorem f_159_42 : fe 159 42 = some (.invokevirtual 163, 3, 11, some .int) := fe_of pg_159 rfl
set_option maxRecDepth 100000 in
theorem f_159_45 : fe 159 45 = some (.aload_n 0, 1, 11, some .int) := fe_of pg_159 rfl
set_option maxRecDepth 100000 in
theorem f_159_46 : fe 159 46 = some (.getfield 43, 3, 11, some .int) := fe_of pg_159 rfl
set_option maxRecDepth 100000 in
theorem f_159_49 : fe 159 49 = some (.iload_n 2, 1, 11, some .int) := fe_of pg_159 rfl
set_option maxRecDepth 100000 in
theorem f_159_50 : fe 159 50 = some (.iload_n 3, 1, 11, some .int) := fe_of pg_159 rfl
set_option maxRecDepth 100000 in
theorem f_159_51 : fe 159 51 = some (.invokevirtual 164, 3, 11, some .int) := fe_of pg_159 rfl
set_option maxRecDepth 100000 in
theorem f_159_54 : fe 159 54 = some (.ireturn, 1, 11, some .int) := fe_of pg_159 rfl
set_option maxRecDepth 100000 in
theorem f_160_0 : fe 160 0 = some (.aload_n 0, 1, 11, some .int) := fe_of pg_160 rfl
set_option maxRecDepth 100000 in
theorem f_160_1 : fe 160 1 = some (.iload_n 1, 1, 11, some .int) := fe_of pg_160 rfl
set_option maxRecDepth 100000 in
theorem f_160_2 : fe 160 2 = some (.invokevirtual 110, 3, 11, some .int) := fe_of pg_160 rfl
set_option maxRecDepth 100000 in
theorem f_160_5 : fe 160 5 = some (.astore 4, 2, 11, some .int) := fe_of pg_160 rfl
set_option maxRecDepth 100000 in
theorem f_160_7 : fe 160 7 = some (.aload 4, 2, 11, some .int) := fe_of pg_160 rfl
set_option maxRecDepth 100000 in
theorem f_160_9 : fe 160 9 = some (.ifnull 12, 3, 11, some .int) := fe_of pg_160 rfl
set_option maxRecDepth 100000 in
theorem f_160_12 : fe 160 12 = some (.aload 4, 2, 11, some .int) := fe_of pg_160 rfl
set_option maxRecDepth 100000 in
theorem f_160_14 : fe 160 14 = some (.iload_n 2, 1, 11, some .int) := fe_of pg_160 rfl
set_option maxRecDepth 100000 in
theorem f_160_15 : fe 160 15 = some (.invokevirtual 159, 3, 11, some .int) := fe_of pg_160 rfl
set_option maxRecDepth 100000 in
theorem f_160_18 : fe 160 18 = some (.ifCond .ne 6, 3, 11, some .int) := fe_of pg_160 rfl
set_option maxRecDepth 100000 in
theorem f_160_21 : fe 160 21 = some (.bipush (-2), 2, 11, some .int) := fe_of pg_160 rfl
set_option maxRecDepth 100000 in
theorem f_160_23 : fe 160 23 = some (.ireturn, 1, 11, some .int) := fe_of pg_160 rfl
set_option maxRecDepth 100000 in
theorem f_160_24 : fe 160 24 = some (.iload_n 3, 1, 11, some .int) := fe_of pg_160 rfl
set_option maxRecDepth 100000 in
theorem f_160_25 : fe 160 25 = some (.iconst (-1), 1, 11, some .int) := fe_of pg_160 rfl
set_option maxRecDepth 100000 in
theorem f_160_26 : fe 160 26 = some (.if_icmp .ne 14, 3, 11, some .int) := fe_of pg_160 rfl
set_option maxRecDepth 100000 in
theorem f_160_29 : fe 160 29 = some (.aload_n 0, 1, 11, some .int) := fe_of pg_160 rfl
set_option maxRecDepth 100000 in
theorem f_160_30 : fe 160 30 = some (.getfield 43, 3, 11, some .int) := fe_of pg_160 rfl
set_option maxRecDepth 100000 in
theorem f_160_33 : fe 160 33 = some (.aload 4, 2, 11, some .int) := fe_of pg_160 rfl
set_option maxRecDepth 100000 in
theorem f_160_35 : fe 160 35 = some (.iload_n 2, 1, 11, some .int) := fe_of pg_160 rfl
set_option maxRecDepth 100000 in
theorem f_160_36 : fe 160 36 = some (.invokevirtual 167, 3, 11, some .int) := fe_of pg_160 rfl
set_option maxRecDepth 100000 in
theorem f_160_39 : fe 160 39 = some (.ireturn, 1, 11, some .int) := fe_of pg_160 rfl
set_option maxRecDepth 100000 in
theorem f_160_40 : fe 160 40 = some (.iload_n 3, 1, 11, some .int) := fe_of pg_160 rfl
set_option maxRecDepth 100000 in
theorem f_160_41 : fe 160 41 = some (.ifCond .lt 20, 3, 11, some .int) := fe_of pg_160 rfl
set_option maxRecDepth 100000 in
theorem f_160_44 : fe 160 44 = some (.iload_n 3, 1, 11, some .int) := fe_of pg_160 rfl
set_option maxRecDepth 100000 in
theorem f_160_45 : fe 160 45 = some (.aload 4, 2, 11, some .int) := fe_of pg_160 rfl
set_option maxRecDepth 100000 in
theorem f_160_47 : fe 160 47 = some (.getfield 140, 3, 11, some .int) := fe_of pg_160 rfl
set_option maxRecDepth 100000 in
theorem f_160_50 : fe 160 50 = some (.if_icmp .ge 11, 3, 11, some .int) := fe_of pg_160 rfl
set_option maxRecDepth 100000 in
theorem f_160_53 : fe 160 53 = some (.iload_n 2, 1, 11, some .int) := fe_of pg_160 rfl
set_option maxRecDepth 100000 in
theorem f_160_54 : fe 160 54 = some (.iload_n 3, 1, 11, some .int) := fe_of pg_160 rfl
set_option maxRecDepth 100000 in
theorem f_160_55 : fe 160 55 = some (.invokestatic 171, 3, 11, some .int) := fe_of pg_160 rfl
set_option maxRecDepth 100000 in
theorem f_160_58 : fe 160 58 = some (.ifCond .ne 6, 3, 11, some .int) := fe_of pg_160 rfl
set_option maxRecDepth 100000 in
theorem f_160_61 : fe 160 61 = some (.bipush (-2), 2, 11, some .int) := fe_of pg_160 rfl
set_option maxRecDepth 100000 in
theorem f_160_63 : fe 160 63 = some (.ireturn, 1, 11, some .int) := fe_of pg_160 rfl
set_option maxRecDepth 100000 in
theorem f_160_64 : fe 160 64 = some (.aload_n 0, 1, 11, some .int) := fe_of pg_160 rfl
set_option maxRecDepth 100000 in
theorem f_160_65 : fe 160 65 = some (.getfield 43, 3, 11, some .int) := fe_of pg_160 rfl
set_option maxRecDepth 100000 in
theorem f_160_68 : fe 160 68 = some (.aload 4, 2, 11, some .int) := fe_of pg_160 rfl
set_option maxRecDepth 100000 in
theorem f_160_70 : fe 160 70 = some (.iload_n 2, 1, 11, some .int) := fe_of pg_160 rfl
set_option maxRecDepth 100000 in
theorem f_160_71 : fe 160 71 = some (.iload_n 3, 1, 11, some .int) := fe_of pg_160 rfl
set_option maxRecDepth 100000 in
theorem f_160_72 : fe 160 72 = some (.invokevirtual 174, 3, 11, some .int) := fe_of pg_160 rfl
set_option maxRecDepth 100000 in
theorem f_160_75 : fe 160 75 = some (.ireturn, 1, 11, some .int) := fe_of pg_160 rfl
set_option maxRecDepth 100000 in
theorem f_161_0 : fe 161 0 = some (.aload_n 0, 1, 11, some .int) := fe_of pg_161 rfl
set_option maxRecDepth 100000 in
theorem f_161_1 : fe 161 1 = some (.iload_n 1, 1, 11, some .int) := fe_of pg_161 rfl
set_option maxRecDepth 100000 in
theorem f_161_2 : fe 161 2 = some (.iload_n 2, 1, 11, some .int) := fe_of pg_161 rfl
set_option maxRecDepth 100000 in
theorem f_161_3 : fe 161 3 = some (.invokevirtual 178, 3, 11, some .int) := fe_of pg_161 rfl
set_option maxRecDepth 100000 in
theorem f_161_6 : fe 161 6 = some (.astore_n 3, 1, 11, some .int) := fe_of pg_161 rfl
set_option maxRecDepth 100000 in
theorem f_161_7 : fe 161 7 = some (.aload_n 3, 1, 11, some .int) := fe_of pg_161 rfl
set_option maxRecDepth 100000 in
theorem f_161_8 : fe 161 8 = some (.ifnonnull 7, 3, 11, some .int) := fe_of pg_161 rfl
set_option maxRecDepth 100000 in
theorem f_161_11 : fe 161 11 = some (.iconst (-1), 1, 11, some .int) := fe_of pg_161 rfl
set_option maxRecDepth 100000 in
theorem f_161_12 : fe 161 12 = some (.goto 13, 3, 11, some .int) := fe_of pg_161 rfl
set_option maxRecDepth 100000 in
theorem f_161_15 : fe 161 15 = some (.aload_n 0, 1, 11, some .int) := fe_of pg_161 rfl
set_option maxRecDepth 100000 in
theorem f_161_16 : fe 161 16 = some (.getfield 43, 3, 11, some .int) := fe_of pg_161 rfl
set_option maxRecDepth 100000 in
theorem f_161_19 : fe 161 19 = some (.aload_n 3, 1, 11, some .int) := fe_of pg_161 rfl
set_option maxRecDepth 100000 in
theorem f_161_20 : fe 161 20 = some (.iload_n 2, 1, 11, some .int) := fe_of pg_161 rfl
set_option maxRecDepth 100000 in
theorem f_161_21 : fe 161 21 = some (.iload_n 2, 1, 11, some .int) := fe_of pg_161 rfl
set_option maxRecDepth 100000 in
theorem f_161_22 : fe 161 22 = some (.invokevirtual 182, 3, 11, some .int) := fe_of pg_161 rfl
set_option maxRecDepth 100000 in
theorem f_161_25 : fe 161 25 = some (.ireturn, 1, 11, some .int) := fe_of pg_161 rfl
set_option maxRecDepth 100000 in
theorem f_162_0 : fe 162 0 = some (.aload_n 0, 1, 11, some .int) := fe_of pg_162 rfl
set_option maxRecDepth 100000 in
theorem f_162_1 : fe 162 1 = some (.iload_n 1, 1, 11, some .int) := fe_of pg_162 rfl
set_option maxRecDepth 100000 in
theorem f_162_2 : fe 162 2 = some (.iload_n 2, 1, 11, some .int) := fe_of pg_162 rfl
set_option maxRecDepth 100000 in
theorem f_162_3 : fe 162 3 = some (.invokevirtual 178, 3, 11, some .int) := fe_of pg_162 rfl
set_option maxRecDepth 100000 in
theorem f_162_6 : fe 162 6 = some (.astore 4, 2, 11, some .int) := fe_of pg_162 rfl
set_option maxRecDepth 100000 in
theorem f_162_8 : fe 162 8 = some (.aload 4, 2, 11, some .int) := fe_of pg_162 rfl
set_option maxRecDepth 100000 in
theorem f_162_10 : fe 162 10 = some (.ifnull 18, 3, 11, some .int) := fe_of pg_162 rfl
set_option maxRecDepth 100000 in
theorem f_162_13 : fe 162 13 = some (.aload 4, 2, 11, some .int) := fe_of pg_162 rfl
set_option maxRecDepth 100000 in
theorem f_162_15 : fe 162 15 = some (.iload_n 3, 1, 11, some .int) := fe_of pg_162 rfl
set_option maxRecDepth 100000 in
theorem f_162_16 : fe 162 16 = some (.invokevirtual 185, 3, 11, some .int) := fe_of pg_162 rfl
set_option maxRecDepth 100000 in
theorem f_162_19 : fe 162 19 = some (.ifCond .eq 9, 3, 11, some .int) := fe_of pg_162 rfl
set_option maxRecDepth 100000 in
theorem f_162_22 : fe 162 22 = some (.iload_n 2, 1, 11, some .int) := fe_of pg_162 rfl
set_option maxRecDepth 100000 in
theorem f_162_23 : fe 162 23 = some (.iload_n 3, 1, 11, some .int) := fe_of pg_162 rfl
set_option maxRecDepth 100000 in
theorem f_162_24 : fe 162 24 = some (.iand, 1, 11, some .int) := fe_of pg_162 rfl
set_option maxRecDepth 100000 in
theorem f_162_25 : fe 162 25 = some (.ifCond .eq 5, 3, 11, some .int) := fe_of pg_162 rfl
set_option maxRecDepth 100000 in
theorem f_162_28 : fe 162 28 = some (.iconst (-1), 1, 11, some .int) := fe_of pg_162 rfl
set_option maxRecDepth 100000 in
theorem f_162_29 : fe 162 29 = some (.ireturn, 1, 11, some .int) := fe_of pg_162 rfl
set_option maxRecDepth 100000 in
theorem f_162_30 : fe 162 30 = some (.aload_n 0, 1, 11, some .int) := fe_of pg_162 rfl
set_option maxRecDepth 100000 in
theorem f_162_31 : fe 162 31 = some (.getfield 43, 3, 11, some .int) := fe_of pg_162 rfl
set_option maxRecDepth 100000 in
theorem f_162_34 : fe 162 34 = some (.aload 4, 2, 11, some .int) := fe_of pg_162 rfl
set_option maxRecDepth 100000 in
theorem f_162_36 : fe 162 36 = some (.iload_n 2, 1, 11, some .int) := fe_of pg_162 rfl
set_option maxRecDepth 100000 in
theorem f_162_37 : fe 162 37 = some (.iload_n 3, 1, 11, some .int) := fe_of pg_162 rfl
set_option maxRecDepth 100000 in
theorem f_162_38 : fe 162 38 = some (.invokevirtual 182, 3, 11, some .int) := fe_of pg_162 rfl
set_option maxRecDepth 100000 in
theorem f_162_41 : fe 162 41 = some (.ireturn, 1, 11, some .int) := fe_of pg_162 rfl
set_option maxRecDepth 100000 in
theorem f_163_0 : fe 163 0 = some (.aload_n 0, 1, 11, some .int) := fe_of pg_163 rfl
set_option maxRecDepth 100000 in
theorem f_163_1 : fe 163 1 = some (.iload_n 1, 1, 11, some .int) := fe_of pg_163 rfl
set_option maxRecDepth 100000 in
theorem f_163_2 : fe 163 2 = some (.iload_n 2, 1, 11, some .int) := fe_of pg_163 rfl
set_option maxRecDepth 100000 in
theorem f_163_3 : fe 163 3 = some (.invokevirtual 178, 3, 11, some .int) := fe_of pg_163 rfl
set_option maxRecDepth 100000 in
theorem f_163_6 : fe 163 6 = some (.astore_n 3, 1, 11, some .int) := fe_of pg_163 rfl
set_option maxRecDepth 100000 in
theorem f_163_7 : fe 163 7 = some (.aload_n 3, 1, 11, some .int) := fe_of pg_163 rfl
set_option maxRecDepth 100000 in
theorem f_163_8 : fe 163 8 = some (.ifnonnull 7, 3, 11, some .int) := fe_of pg_163 rfl
set_option maxRecDepth 100000 in
theorem f_163_11 : fe 163 11 = some (.iconst (-1), 1, 11, some .int) := fe_of pg_163 rfl
set_option maxRecDepth 100000 in
theorem f_163_12 : fe 163 12 = some (.goto 12, 3, 11, some .int) := fe_of pg_163 rfl
set_option maxRecDepth 100000 in
theorem f_163_15 : fe 163 15 = some (.aload_n 0, 1, 11, some .int) := fe_of pg_163 rfl
set_option maxRecDepth 100000 in
theorem f_163_16 : fe 163 16 = some (.getfield 43, 3, 11, some .int) := fe_of pg_163 rfl
set_option maxRecDepth 100000 in
theorem f_163_19 : fe 163 19 = some (.aload_n 3, 1, 11, some .int) := fe_of pg_163 rfl
set_option maxRecDepth 100000 in
theorem f_163_20 : fe 163 20 = some (.iload_n 2, 1, 11, some .int) := fe_of pg_163 rfl
set_option maxRecDepth 100000 in
theorem f_163_21 : fe 163 21 = some (.invokevirtual 188, 3, 11, some .int) := fe_of pg_163 rfl
set_option maxRecDepth 100000 in
theorem f_163_24 : fe 163 24 = some (.ireturn, 1, 11, some .int) := fe_of pg_163 rfl
set_option maxRecDepth 100000 in
theorem f_164_0 : fe 164 0 = some (.aload_n 0, 1, 11, some .int) := fe_of pg_164 rfl
set_option maxRecDepth 100000 in
theorem f_164_1 : fe 164 1 = some (.iload_n 1, 1, 11, some .int) := fe_of pg_164 rfl
set_option maxRecDepth 100000 in
theorem f_164_2 : fe 164 2 = some (.iload_n 2, 1, 11, some .int) := fe_of pg_164 rfl
set_option maxRecDepth 100000 in
theorem f_164_3 : fe 164 3 = some (.invokevirtual 178, 3, 11, some .int) := fe_of pg_164 rfl
set_option maxRecDepth 100000 in
theorem f_164_6 : fe 164 6 = some (.astore_n 3, 1, 11, some .int) := fe_of pg_164 rfl
set_option maxRecDepth 100000 in
theorem f_164_7 : fe 164 7 = some (.aload_n 3, 1, 11, some .int) := fe_of pg_164 rfl
set_option maxRecDepth 100000 in
theorem f_164_8 : fe 164 8 = some (.ifnonnull 7, 3, 11, some .int) := fe_of pg_164 rfl
set_option maxRecDepth 100000 in
theorem f_164_11 : fe 164 11 = some (.iconst (-1), 1, 11, some .int) := fe_of pg_164 rfl
set_option maxRecDepth 100000 in
theorem f_164_12 : fe 164 12 = some (.goto 12, 3, 11, some .int) := fe_of pg_164 rfl
set_option maxRecDepth 100000 in
theorem f_164_15 : fe 164 15 = some (.aload_n 0, 1, 11, some .int) := fe_of pg_164 rfl
set_option maxRecDepth 100000 in
theorem f_164_16 : fe 164 16 = some (.getfield 43, 3, 11, some .int) := fe_of pg_164 rfl
set_option maxRecDepth 100000 in
theorem f_164_19 : fe 164 19 = some (.aload_n 3, 1, 11, some .int) := fe_of pg_164 rfl
set_option maxRecDepth 100000 in
theorem f_164_20 : fe 164 20 = some (.iload_n 2, 1, 11, some .int) := fe_of pg_164 rfl
set_option maxRecDepth 100000 in
theorem f_164_21 : fe 164 21 = some (.invokevirtual 191, 3, 11, some .int) := fe_of pg_164 rfl
set_option maxRecDepth 100000 in
theorem f_164_24 : fe 164 24 = some (.ireturn, 1, 11, some .int) := fe_of pg_164 rfl
set_option maxRecDepth 100000 in
theorem f_165_0 : fe 165 0 = some (.aload_n 0, 1, 11, some .int) := fe_of pg_165 rfl
set_option maxRecDepth 100000 in
theorem f_165_1 : fe 165 1 = some (.iload_n 1, 1, 11, some .int) := fe_of pg_165 rfl
set_option maxRecDepth 100000 in
theorem f_165_2 : fe 165 2 = some (.iload_n 2, 1, 11, some .int) := fe_of pg_165 rfl
set_option maxRecDepth 100000 in
theorem f_165_3 : fe 165 3 = some (.invokevirtual 178, 3, 11, some .int) := fe_of pg_165 rfl
set_option maxRecDepth 100000 in
theorem f_165_6 : fe 165 6 = some (.astore_n 3, 1, 11, some .int) := fe_of pg_165 rfl
set_option maxRecDepth 100000 in
theorem f_165_7 : fe 165 7 = some (.aload_n 3, 1, 11, some .int) := fe_of pg_165 rfl
set_option maxRecDepth 100000 in
theorem f_165_8 : fe 165 8 = some (.ifnonnull 7, 3, 11, some .int) := fe_of pg_165 rfl
set_option maxRecDepth 100000 in
theorem f_165_11 : fe 165 11 = some (.iconst (-1), 1, 11, some .int) := fe_of pg_165 rfl
set_option maxRecDepth 100000 in
theorem f_165_12 : fe 165 12 = some (.goto 12, 3, 11, some .int) := fe_of pg_165 rfl
set_option maxRecDepth 100000 in
theorem f_165_15 : fe 165 15 = some (.aload_n 0, 1, 11, some .int) := fe_of pg_165 rfl
set_option maxRecDepth 100000 in
theorem f_165_16 : fe 165 16 = some (.getfield 43, 3, 11, some .int) := fe_of pg_165 rfl
set_option maxRecDepth 100000 in
theorem f_165_19 : fe 165 19 = some (.aload_n 3, 1, 11, some .int) := fe_of pg_165 rfl
set_option maxRecDepth 100000 in
theorem f_165_20 : fe 165 20 = some (.iload_n 2, 1, 11, some .int) := fe_of pg_165 rfl
set_option maxRecDepth 100000 in
theorem f_165_21 : fe 165 21 = some (.invokevirtual 194, 3, 11, some .int) := fe_of pg_165 rfl
set_option maxRecDepth 100000 in
theorem f_165_24 : fe 165 24 = some (.ireturn, 1, 11, some .int) := fe_of pg_165 rfl
set_option maxRecDepth 100000 in
theorem f_166_0 : fe 166 0 = some (.aload_n 0, 1, 11, some .int) := fe_of pg_166 rfl
set_option maxRecDepth 100000 in
theorem f_166_1 : fe 166 1 = some (.iload_n 1, 1, 11, some .int) := fe_of pg_166 rfl
set_option maxRecDepth 100000 in
theorem f_166_2 : fe 166 2 = some (.iload_n 2, 1, 11, some .int) := fe_of pg_166 rfl
set_option maxRecDepth 100000 in
theorem f_166_3 : fe 166 3 = some (.invokevirtual 178, 3, 11, some .int) := fe_of pg_166 rfl
set_option maxRecDepth 100000 in
theorem f_166_6 : fe 166 6 = some (.astore 4, 2, 11, some .int) := fe_of pg_166 rfl
set_option maxRecDepth 100000 in
theorem f_166_8 : fe 166 8 = some (.aload 4, 2, 11, some .int) := fe_of pg_166 rfl
set_option maxRecDepth 100000 in
theorem f_166_10 : fe 166 10 = some (.ifnonnull 7, 3, 11, some .int) := fe_of pg_166 rfl
set_option maxRecDepth 100000 in
theorem f_166_13 : fe 166 13 = some (.iconst (-1), 1, 11, some .int) := fe_of pg_166 rfl
set_option maxRecDepth 100000 in
theorem f_166_14 : fe 166 14 = some (.goto 14, 3, 11, some .int) := fe_of pg_166 rfl
set_option maxRecDepth 100000 in
theorem f_166_17 : fe 166 17 = some (.aload_n 0, 1, 11, some .int) := fe_of pg_166 rfl
set_option maxRecDepth 100000 in
theorem f_166_18 : fe 166 18 = some (.getfield 43, 3, 11, some .int) := fe_of pg_166 rfl
set_option maxRecDepth 100000 in
theorem f_166_21 : fe 166 21 = some (.aload 4, 2, 11, some .int) := fe_of pg_166 rfl
set_option maxRecDepth 100000 in
theorem f_166_23 : fe 166 23 = some (.iload_n 2, 1, 11, some .int) := fe_of pg_166 rfl
set_option maxRecDepth 100000 in
theorem f_166_24 : fe 166 24 = some (.iload_n 3, 1, 11, some .int) := fe_of pg_166 rfl
set_option maxRecDepth 100000 in
theorem f_166_25 : fe 166 25 = some (.invokevirtual 197, 3, 11, some .int) := fe_of pg_166 rfl
set_option maxRecDepth 100000 in
theorem f_166_28 : fe 166 28 = some (.ireturn, 1, 11, some .int) := fe_of pg_166 rfl
set_option maxRecDepth 100000 in
theorem f_167_0 : fe 167 0 = some (.aload_n 0, 1, 11, some .long) := fe_of pg_167 rfl
set_option maxRecDepth 100000 in
theorem f_167_1 : fe 167 1 = some (.iload_n 1, 1, 11, some .long) := fe_of pg_167 rfl
set_option maxRecDepth 100000 in
theorem f_167_2 : fe 167 2 = some (.iload_n 2, 1, 11, some .long) := fe_of pg_167 rfl
set_option maxRecDepth 100000 in
theorem f_167_3 : fe 167 3 = some (.invokevirtual 178, 3, 11, some .long) := fe_of pg_167 rfl
set_option maxRecDepth 100000 in
theorem f_167_6 : fe 167 6 = some (.astore_n 3, 1, 11, some .long) := fe_of pg_167 rfl
set_option maxRecDepth 100000 in
theorem f_167_7 : fe 167 7 = some (.aload_n 3, 1, 11, some .long) := fe_of pg_167 rfl
set_option maxRecDepth 100000 in
theorem f_167_8 : fe 167 8 = some (.ifnonnull 9, 3, 11, some .long) := fe_of pg_167 rfl
set_option maxRecDepth 100000 in
theorem f_167_11 : fe 167 11 = some (.ldc2_w 201, 3, 11, some .long) := fe_of pg_167 rfl
set_option maxRecDepth 100000 in
theorem f_167_14 : fe 167 14 = some (.goto 12, 3, 11, some .long) := fe_of pg_167 rfl
set_option maxRecDepth 100000 in
theorem f_167_17 : fe 167 17 = some (.aload_n 0, 1, 11, some .long) := fe_of pg_167 rfl
set_option maxRecDepth 100000 in
theorem f_167_18 : fe 167 18 = some (.getfield 43, 3, 11, some .long) := fe_of pg_167 rfl
set_option maxRecDepth 100000 in
theorem f_167_21 : fe 167 21 = some (.aload_n 3, 1, 11, some .long) := fe_of pg_167 rfl
set_option maxRecDepth 100000 in
theorem f_167_22 : fe 167 22 = some (.iload_n 2, 1, 11, some .long) := fe_of pg_167 rfl
set_option maxRecDepth 100000 in
theorem f_167_23 : fe 167 23 = some (.invokevirtual 203, 3, 11, some .long) := fe_of pg_167 rfl
set_option maxRecDepth 100000 in
theorem f_167_26 : fe 167 26 = some (.lreturn, 1, 11, some .long) := fe_of pg_167 rfl
set_option maxRecDepth 100000 in
theorem f_168_0 : fe 168 0 = some (.aload_n 0, 1, 11, some .int) := fe_of pg_168 rfl
set_option maxRecDepth 100000 in
theorem f_168_1 : fe 168 1 = some (.iload_n 1, 1, 11, some .int) := fe_of pg_168 rfl
set_option maxRecDepth 100000 in
theorem f_168_2 : fe 168 2 = some (.iload_n 2, 1, 11, some .int) := fe_of pg_168 rfl
set_option maxRecDepth 100000 in
theorem f_168_3 : fe 168 3 = some (.invokevirtual 178, 3, 11, some .int) := fe_of pg_168 rfl
set_option maxRecDepth 100000 in
theorem f_168_6 : fe 168 6 = some (.astore 5, 2, 11, some .int) := fe_of pg_168 rfl
set_option maxRecDepth 100000 in
theorem f_168_8 : fe 168 8 = some (.aload 5, 2, 11, some .int) := fe_of pg_168 rfl
set_option maxRecDepth 100000 in
theorem f_168_10 : fe 168 10 = some (.ifnull 17, 3, 11, some .int) := fe_of pg_168 rfl
set_option maxRecDepth 100000 in
theorem f_168_13 : fe 168 13 = some (.iload_n 2, 1, 11, some .int) := fe_of pg_168 rfl
set_option maxRecDepth 100000 in
theorem f_168_14 : fe 168 14 = some (.ifCond .eq 13, 3, 11, some .int) := fe_of pg_168 rfl
set_option maxRecDepth 100000 in
theorem f_168_17 : fe 168 17 = some (.iload_n 3, 1, 11, some .int) := fe_of pg_168 rfl
set_option maxRecDepth 100000 in
theorem f_168_18 : fe 168 18 = some (.ifCond .lt 9, 3, 11, some .int) := fe_of pg_168 rfl
set_option maxRecDepth 100000 in
theorem f_168_21 : fe 168 21 = some (.iload_n 3, 1, 11, some .int) := fe_of pg_168 rfl
set_option maxRecDepth 100000 in
theorem f_168_22 : fe 168 22 = some (.bipush 9, 2, 11, some .int) := fe_of pg_168 rfl
set_option maxRecDepth 100000 in
theorem f_168_24 : fe 168 24 = some (.if_icmp .le 5, 3, 11, some .int) := fe_of pg_168 rfl
set_option maxRecDepth 100000 in
theorem f_168_27 : fe 168 27 = some (.iconst (-1), 1, 11, some .int) := fe_of pg_168 rfl
set_option maxRecDepth 100000 in
theorem f_168_28 : fe 168 28 = some (.ireturn, 1, 11, some .int) := fe_of pg_168 rfl
set_option maxRecDepth 100000 in
theorem f_168_29 : fe 168 29 = some (.aload_n 0, 1, 11, some .int) := fe_of pg_168 rfl
set_option maxRecDepth 100000 in
theorem f_168_30 : fe 168 30 = some (.getfield 59, 3, 11, some .int) := fe_of pg_168 rfl
set_option maxRecDepth 100000 in
theorem f_168_33 : fe 168 33 = some (.aload 5, 2, 11, some .int) := fe_of pg_168 rfl
set_option maxRecDepth 100000 in
theorem f_168_35 : fe 168 35 = some (.iload_n 2, 1, 11, some .int) := fe_of pg_168 rfl
set_option maxRecDepth 100000 in
theorem f_168_36 : fe 168 36 = some (.iload_n 3, 1, 11, some .int) := fe_of pg_168 rfl
set_option maxRecDepth 100000 in
theorem f_168_37 : fe 168 37 = some (.invokevirtual 207, 3, 11, some .int) := fe_of pg_168 rfl
set_option maxRecDepth 100000 in
theorem f_168_40 : fe 168 40 = some (.aload_n 0, 1, 11, some .int) := fe_of pg_168 rfl
set_option maxRecDepth 100000 in
theorem f_168_41 : fe 168 41 = some (.getfield 59, 3, 11, some .int) := fe_of pg_168 rfl
set_option maxRecDepth 100000 in
theorem f_168_44 : fe 168 44 = some (.iload 4, 2, 11, some .int) := fe_of pg_168 rfl
set_option maxRecDepth 100000 in
theorem f_168_46 : fe 168 46 = some (.invokevirtual 211, 3, 11, some .int) := fe_of pg_168 rfl
set_option maxRecDepth 100000 in
theorem f_168_49 : fe 168 49 = some (.ireturn, 1, 11, some .int) := fe_of pg_168 rfl
set_option maxRecDepth 100000 in
theorem f_169_0 : fe 169 0 = some (.aload_n 0, 1, 11, some .int) := fe_of pg_169 rfl
set_option maxRecDepth 100000 in
theorem f_169_1 : fe 169 1 = some (.iload_n 1, 1, 11, some .int) := fe_of pg_169 rfl
set_option maxRecDepth 100000 in
theorem f_169_2 : fe 169 2 = some (.invokevirtual 110, 3, 11, some .int) := fe_of pg_169 rfl
set_option maxRecDepth 100000 in
theorem f_169_5 : fe 169 5 = some (.astore 4, 2, 11, some .int) := fe_of pg_169 rfl
set_option maxRecDepth 100000 in
theorem f_169_7 : fe 169 7 = some (.aload 4, 2, 11, some .int) := fe_of pg_169 rfl
set_option maxRecDepth 100000 in
theorem f_169_9 : fe 169 9 = some (.ifnull 25, 3, 11, some .int) := fe_of pg_169 rfl
set_option maxRecDepth 100000 in
theorem f_169_12 : fe 169 12 = some (.aload 4, 2, 11, some .int) := fe_of pg_169 rfl
set_option maxRecDepth 100000 in
theorem f_169_14 : fe 169 14 = some (.iload_n 2, 1, 11, some .int) := fe_of pg_169 rfl
set_option maxRecDepth 100000 in
theorem f_169_15 : fe 169 15 = some (.invokevirtual 159, 3, 11, some .int) := fe_of pg_169 rfl
set_option maxRecDepth 100000 in
theorem f_169_18 : fe 169 18 = some (.ifCond .eq 16, 3, 11, some .int) := fe_of pg_169 rfl
set_option maxRecDepth 100000 in
theorem f_169_21 : fe 169 21 = some (.iload_n 2, 1, 11, some .int) := fe_of pg_169 rfl
set_option maxRecDepth 100000 in
theorem f_169_22 : fe 169 22 = some (.ifCond .eq 12, 3, 11, some .int) := fe_of pg_169 rfl
set_option maxRecDepth 100000 in
theorem f_169_25 : fe 169 25 = some (.iload_n 2, 1, 11, some .int) := fe_of pg_169 rfl
set_option maxRecDepth 100000 in
theorem f_169_26 : fe 169 26 = some (.invokestatic 212, 3, 11, some .int) := fe_of pg_169 rfl
set_option maxRecDepth 100000 in
theorem f_169_29 : fe 169 29 = some (.iconst 2, 1, 11, some .int) := fe_of pg_169 rfl
set_option maxRecDepth 100000 in
theorem f_169_30 : fe 169 30 = some (.irem, 1, 11, some .int) := fe_of pg_169 rfl
set_option maxRecDepth 100000 in
theorem f_169_31 : fe 169 31 = some (.ifCond .eq 5, 3, 11, some .int) := fe_of pg_169 rfl
set_option maxRecDepth 100000 in
theorem f_169_34 : fe 169 34 = some (.iconst (-1), 1, 11, some .int) := fe_of pg_169 rfl
set_option maxRecDepth 100000 in
theorem f_169_35 : fe 169 35 = some (.ireturn, 1, 11, some .int) := fe_of pg_169 rfl
set_option maxRecDepth 100000 in
theorem f_169_36 : fe 169 36 = some (.aload_n 0, 1, 11, some .int) := fe_of pg_169 rfl
set_option maxRecDepth 100000 in
theorem f_169_37 : fe 169 37 = some (.getfield 59, 3, 11, some .int) := fe_of pg_169 rfl
set_option maxRecDepth 100000 in
theorem f_169_40 : fe 169 40 = some (.aload 4, 2, 11, some .int) := fe_of pg_169 rfl
set_option maxRecDepth 100000 in
theorem f_169_42 : fe 169 42 = some (.iload_n 2, 1, 11, some .int) := fe_of pg_169 rfl
set_option maxRecDepth 100000 in
theorem f_169_43 : fe 169 43 = some (.invokevirtual 217, 3, 11, some .int) := fe_of pg_169 rfl
set_option maxRecDepth 100000 in
theorem f_169_46 : fe 169 46 = some (.istore 5, 2, 11, some .int) := fe_of pg_169 rfl
set_option maxRecDepth 100000 in
theorem f_169_48 : fe 169 48 = some (.iload_n 3, 1, 11, some .int) := fe_of pg_169 rfl
set_option maxRecDepth 100000 in
theorem f_169_49 : fe 169 49 = some (.ifCond .eq 18, 3, 11, some .int) := fe_of pg_169 rfl
set_option maxRecDepth 100000 in
theorem f_169_52 : fe 169 52 = some (.aload_n 0, 1, 11, some .int) := fe_of pg_169 rfl
set_option maxRecDepth 100000 in
theorem f_169_53 : fe 169 53 = some (.getfield 59, 3, 11, some .int) := fe_of pg_169 rfl
set_option maxRecDepth 100000 in
theorem f_169_56 : fe 169 56 = some (.aload 4, 2, 11, some .int) := fe_of pg_169 rfl
set_option maxRecDepth 100000 in
theorem f_169_58 : fe 169 58 = some (.iload_n 2, 1, 11, some .int) := fe_of pg_169 rfl
set_option maxRecDepth 100000 in
theorem f_169_59 : fe 169 59 = some (.iload 5, 2, 11, some .int) := fe_of pg_169 rfl
set_option maxRecDepth 100000 in
theorem f_169_61 : fe 169 61 = some (.invokevirtual 220, 3, 11, some .int) := fe_of pg_169 rfl
set_option maxRecDepth 100000 in
theorem f_169_64 : fe 169 64 = some (.goto 5, 3, 11, some .int) := fe_of pg_169 rfl
set_option maxRecDepth 100000 in
theorem f_169_67 : fe 169 67 = some (.iload 5, 2, 11, some .int) := fe_of pg_169 rfl
set_option maxRecDepth 100000 in
theorem f_169_69 : fe 169 69 = some (.ireturn, 1, 11, some .int) := fe_of pg_169 rfl
set_option maxRecDepth 100000 in
theorem f_170_0 : fe 170 0 = some (.aload_n 0, 1, 11, some .int) := fe_of pg_170 rfl
set_option maxRecDepth 100000 in
theorem f_170_1 : fe 170 1 = some (.iload_n 1, 1, 11, some .int) := fe_of pg_170 rfl
set_option maxRecDepth 100000 in
theorem f_170_2 : fe 170 2 = some (.invokevirtual 110, 3, 11, some .int) := fe_of pg_170 rfl
set_option maxRecDepth 100000 in
theorem f_170_5 : fe 170 5 = some (.astore_n 3, 1, 11, some .int) := fe_of pg_170 rfl
set_option maxRecDepth 100000 in
theorem f_170_6 : fe 170 6 = some (.aload_n 3, 1, 11, some .int) := fe_of pg_170 rfl
set_option maxRecDepth 100000 in
theorem f_170_7 : fe 170 7 = some (.ifnull 12, 3, 11, some .int) := fe_of pg_170 rfl
set_option maxRecDepth 100000 in
theorem f_170_10 : fe 170 10 = some (.iload_n 2, 1, 11, some .int) := fe_of pg_170 rfl
set_option maxRecDepth 100000 in
theorem f_170_11 : fe 170 11 = some (.ifCond .lt 8, 3, 11, some .int) := fe_of pg_170 rfl
set_option maxRecDepth 100000 in
theorem f_170_14 : fe 170 14 = some (.iload_n 2, 1, 11, some .int) := fe_of pg_170 rfl
set_option maxRecDepth 100000 in
theorem f_170_15 : fe 170 15 = some (.iconst 4, 1, 11, some .int) := fe_of pg_170 rfl
set_option maxRecDepth 100000 in
theorem f_170_16 : fe 170 16 = some (.if_icmp .le 5, 3, 11, some .int) := fe_of pg_170 rfl
set_option maxRecDepth 100000 in
theorem f_170_19 : fe 170 19 = some (.iconst (-1), 1, 11, some .int) := fe_of pg_170 rfl
set_option maxRecDepth 100000 in
theorem f_170_20 : fe 170 20 = some (.ireturn, 1, 11, some .int) := fe_of pg_170 rfl
set_option maxRecDepth 100000 in
theorem f_170_21 : fe 170 21 = some (.aload_n 0, 1, 11, some .int) := fe_of pg_170 rfl
set_option maxRecDepth 100000 in
theorem f_170_22 : fe 170 22 = some (.getfield 52, 3, 11, some .int) := fe_of pg_170 rfl
set_option maxRecDepth 100000 in
theorem f_170_25 : fe 170 25 = some (.aload_n 3, 1, 11, some .int) := fe_of pg_170 rfl
set_option maxRecDepth 100000 in
theorem f_170_26 : fe 170 26 = some (.invokevirtual 223, 3, 11, some .int) := fe_of pg_170 rfl
set_option maxRecDepth 100000 in
theorem f_170_29 : fe 170 29 = some (.iload_n 2, 1, 11, some .int) := fe_of pg_170 rfl
set_option maxRecDepth 100000 in
theorem f_170_30 : fe 170 30 = some (.tableswitch 62 0 3 #[30, 38, 46, 54], 30, 11, some .int) := fe_of pg_170 rfl
set_option maxRecDepth 100000 in
theorem f_170_60 : fe 170 60 = some (.aload_n 0, 1, 11, some .int) := fe_of pg_170 rfl
set_option maxRecDepth 100000 in
theorem f_170_61 : fe 170 61 = some (.getfield 52, 3, 11, some .int) := fe_of pg_170 rfl
set_option maxRecDepth 100000 in
theorem f_170_64 : fe 170 64 = some (.invokevirtual 224, 3, 11, some .int) := fe_of pg_170 rfl
set_option maxRecDepth 100000 in
theorem f_170_67 : fe 170 67 = some (.ireturn, 1, 11, some .int) := fe_of pg_170 rfl
set_option maxRecDepth 100000 in
theorem f_170_68 : fe 170 68 = some (.aload_n 0, 1, 11, some .int) := fe_of pg_170 rfl
set_option maxRecDepth 100000 in
theorem f_170_69 : fe 170 69 = some (.getfield 52, 3, 11, some .int) := fe_of pg_170 rfl
set_option maxRecDepth 100000 in
theorem f_170_72 : fe 170 72 = some (.invokevirtual 228, 3, 11, some .int) := fe_of pg_170 rfl
set_option maxRecDepth 100000 in
theorem f_170_75 : fe 170 75 = some (.ireturn, 1, 11, some .int) := fe_of pg_170 rfl
set_option maxRecDepth 100000 in
theorem f_170_76 : fe 170 76 = some (.aload_n 0, 1, 11, some .int) := fe_of pg_170 rfl
set_option maxRecDepth 100000 in
theorem f_170_77 : fe 170 77 = some (.getfield 52, 3, 11, some .int) := fe_of pg_170 rfl
set_option maxRecDepth 100000 in
theorem f_170_80 : fe 170 80 = some (.invokevirtual 231, 3, 11, some .int) := fe_of pg_170 rfl
set_option maxRecDepth 100000 in
theorem f_170_83 : fe 170 83 = some (.ireturn, 1, 11, some .int) := fe_of pg_170 rfl
set_option maxRecDepth 100000 in
theorem f_170_84 : fe 170 84 = some (.aload_n 0, 1, 11, some .int) := fe_of pg_170 rfl
set_option maxRecDepth 100000 in
theorem f_170_85 : fe 170 85 = some (.getfield 52, 3, 11, some .int) := fe_of pg_170 rfl
set_option maxRecDepth 100000 in
theorem f_170_88 : fe 170 88 = some (.invokevirtual 234, 3, 11, some .int) := fe_of pg_170 rfl
set_option maxRecDepth 100000 in
theorem f_170_91 : fe 170 91 = some (.ireturn, 1, 11, some .int) := fe_of pg_170 rfl
set_option maxRecDepth 100000 in
theorem f_170_92 : fe 170 92 = some (.aload_n 0, 1, 11, some .int) := fe_of pg_170 rfl
set_option maxRecDepth 100000 in
theorem f_170_93 : fe 170 93 = some (.getfield 52, 3, 11, some .int) := fe_of pg_170 rfl
set_option maxRecDepth 100000 in
theorem f_170_96 : fe 170 96 = some (.invokevirtual 237, 3, 11, some .int) := fe_of pg_170 rfl
set_option maxRecDepth 100000 in
theorem f_170_99 : fe 170 99 = some (.ireturn, 1, 11, some .int) := fe_of pg_170 rfl
set_option maxRecDepth 100000 in
theorem f_171_0 : fe 171 0 = some (.aload_n 0, 1, 11, some .int) := fe_of pg_171 rfl
set_option maxRecDepth 100000 in
theorem f_171_1 : fe 171 1 = some (.iload_n 1, 1, 11, some .int) := fe_of pg_171 rfl
set_option maxRecDepth 100000 in
theorem f_171_2 : fe 171 2 = some (.invokevirtual 110, 3, 11, some .int) := fe_of pg_171 rfl
set_option maxRecDepth 100000 in
theorem f_171_5 : fe 171 5 = some (.astore_n 3, 1, 11, some .int) := fe_of pg_171 rfl
set_option maxRecDepth 100000 in
theorem f_171_6 : fe 171 6 = some (.aload_n 3, 1, 11, some .int) := fe_of pg_171 rfl
set_option maxRecDepth 100000 in
theorem f_171_7 : fe 171 7 = some (.ifnull 15, 3, 11, some .int) := fe_of pg_171 rfl
set_option maxRecDepth 100000 in
theorem f_171_10 : fe 171 10 = some (.iload_n 2, 1, 11, some .int) := fe_of pg_171 rfl
set_option maxRecDepth 100000 in
theorem f_171_11 : fe 171 11 = some (.ifCond .lt 11, 3, 11, some .int) := fe_of pg_171 rfl
set_option maxRecDepth 100000 in
theorem f_171_14 : fe 171 14 = some (.iload_n 2, 1, 11, some .int) := fe_of pg_171 rfl
set_option maxRecDepth 100000 in
theorem f_171_15 : fe 171 15 = some (.aload_n 3, 1, 11, some .int) := fe_of pg_171 rfl
set_option maxRecDepth 100000 in
theorem f_171_16 : fe 171 16 = some (.getfield 147, 3, 11, some .int) := fe_of pg_171 rfl
set_option maxRecDepth 100000 in
theorem f_171_19 : fe 171 19 = some (.if_icmp .lt 5, 3, 11, some .int) := fe_of pg_171 rfl
set_option maxRecDepth 100000 in
theorem f_171_22 : fe 171 22 = some (.iconst (-1), 1, 11, some .int) := fe_of pg_171 rfl
set_option maxRecDepth 100000 in
theorem f_171_23 : fe 171 23 = some (.ireturn, 1, 11, some .int) := fe_of pg_171 rfl
set_option maxRecDepth 100000 in
theorem f_171_24 : fe 171 24 = some (.aload_n 0, 1, 11, some .int) := fe_of pg_171 rfl
set_option maxRecDepth 100000 in
theorem f_171_25 : fe 171 25 = some (.getfield 52, 3, 11, some .int) := fe_of pg_171 rfl
set_option maxRecDepth 100000 in
theorem f_171_28 : fe 171 28 = some (.aload_n 3, 1, 11, some .int) := fe_of pg_171 rfl
set_option maxRecDepth 100000 in
theorem f_171_29 : fe 171 29 = some (.aload_n 3, 1, 11, some .int) := fe_of pg_171 rfl
set_option maxRecDepth 100000 in
theorem f_171_30 : fe 171 30 = some (.getfield 240, 3, 11, some .int) := fe_of pg_171 rfl
set_option maxRecDepth 100000 in
theorem f_171_33 : fe 171 33 = some (.iload_n 2, 1, 11, some .int) := fe_of pg_171 rfl
set_option maxRecDepth 100000 in
theorem f_171_34 : fe 171 34 = some (.iaload, 1, 11, some .int) := fe_of pg_171 rfl
set_option maxRecDepth 100000 in
theorem f_171_35 : fe 171 35 = some (.invokevirtual 243, 3, 11, some .int) := fe_of pg_171 rfl
set_option maxRecDepth 100000 in
theorem f_171_38 : fe 171 38 = some (.ireturn, 1, 11, some .int) := fe_of pg_171 rfl
set_option maxRecDepth 100000 in
theorem f_172_0 : fe 172 0 = some (.aload_n 0, 1, 11, some .int) := fe_of pg_172 rfl
set_option maxRecDepth 100000 in
theorem f_172_1 : fe 172 1 = some (.iload_n 1, 1, 11, some .int) := fe_of pg_172 rfl
set_option maxRecDepth 100000 in
theorem f_172_2 : fe 172 2 = some (.invokevirtual 110, 3, 11, some .int) := fe_of pg_172 rfl
set_option maxRecDepth 100000 in
theorem f_172_5 : fe 172 5 = some (.astore_n 3, 1, 11, some .int) := fe_of pg_172 rfl
set_option maxRecDepth 100000 in
theorem f_172_6 : fe 172 6 = some (.aload_n 3, 1, 11, some .int) := fe_of pg_172 rfl
set_option maxRecDepth 100000 in
theorem f_172_7 : fe 172 7 = some (.ifnull 12, 3, 11, some .int) := fe_of pg_172 rfl
set_option maxRecDepth 100000 in
theorem f_172_10 : fe 172 10 = some (.iload_n 2, 1, 11, some .int) := fe_of pg_172 rfl
set_option maxRecDepth 100000 in
theorem f_172_11 : fe 172 11 = some (.ifCond .lt 8, 3, 11, some .int) := fe_of pg_172 rfl
set_option maxRecDepth 100000 in
theorem f_172_14 : fe 172 14 = some (.iload_n 2, 1, 11, some .int) := fe_of pg_172 rfl
set_option maxRecDepth 100000 in
theorem f_172_15 : fe 172 15 = some (.iconst 2, 1, 11, some .int) := fe_of pg_172 rfl
set_option maxRecDepth 100000 in
theorem f_172_16 : fe 172 16 = some (.if_icmp .le 6, 3, 11, some .int) := fe_of pg_172 rfl
set_option maxRecDepth 100000 in
theorem f_172_19 : fe 172 19 = some (.bipush (-2), 2, 11, some .int) := fe_of pg_172 rfl
set_option maxRecDepth 100000 in
theorem f_172_21 : fe 172 21 = some (.ireturn, 1, 11, some .int) := fe_of pg_172 rfl
set_option maxRecDepth 100000 in
theorem f_172_22 : fe 172 22 = some (.aload_n 0, 1, 11, some .int) := fe_of pg_172 rfl
set_option maxRecDepth 100000 in
theorem f_172_23 : fe 172 23 = some (.getfield 52, 3, 11, some .int) := fe_of pg_172 rfl
set_option maxRecDepth 100000 in
theorem f_172_26 : fe 172 26 = some (.aload_n 3, 1, 11, some .int) := fe_of pg_172 rfl
set_option maxRecDepth 100000 in
theorem f_172_27 : fe 172 27 = some (.invokevirtual 223, 3, 11, some .int) := fe_of pg_172 rfl
set_option maxRecDepth 100000 in
theorem f_172_30 : fe 172 30 = some (.iload_n 2, 1, 11, some .int) := fe_of pg_172 rfl
set_option maxRecDepth 100000 in
theorem f_172_31 : fe 172 31 = some (.lookupswitch 41 #[(0, 25), (1, 33)], 25, 11, some .int) := fe_of pg_172 rfl
set_option maxRecDepth 100000 in
theorem f_172_56 : fe 172 56 = some (.aload_n 0, 1, 11, some .int) := fe_of pg_172 rfl
set_option maxRecDepth 100000 in
theorem f_172_57 : fe 172 57 = some (.getfield 52, 3, 11, some .int) := fe_of pg_172 rfl
set_option maxRecDepth 100000 in
theorem f_172_60 : fe 172 60 = some (.invokevirtual 246, 3, 11, some .int) := fe_of pg_172 rfl
set_option maxRecDepth 100000 in
theorem f_172_63 : fe 172 63 = some (.ireturn, 1, 11, some .int) := fe_of pg_172 rfl
set_option maxRecDepth 100000 in
theorem f_172_64 : fe 172 64 = some (.aload_n 0, 1, 11, some .int) := fe_of pg_172 rfl
set_option maxRecDepth 100000 in
theorem f_172_65 : fe 172 65 = some (.getfield 52, 3, 11, some .int) := fe_of pg_172 rfl
set_option maxRecDepth 100000 in
theorem f_172_68 : fe 172 68 = some (.invokevirtual 249, 3, 11, some .int) := fe_of pg_172 rfl
set_option maxRecDepth 100000 in
theorem f_172_71 : fe 172 71 = some (.ireturn, 1, 11, some .int) := fe_of pg_172 rfl
set_option maxRecDepth 100000 in
theorem f_172_72 : fe 172 72 = some (.aload_n 0, 1, 11, some .int) := fe_of pg_172 rfl
set_option maxRecDepth 100000 in
theorem f_172_73 : fe 172 73 = some (.getfield 52, 3, 11, some .int) := fe_of pg_172 rfl
set_option maxRecDepth 100000 in
theorem f_172_76 : fe 172 76 = some (.invokevirtual 252, 3, 11, some .int) := fe_of pg_172 rfl
set_option maxRecDepth 100000 in
theorem f_172_79 : fe 172 79 = some (.ireturn, 1, 11, some .int) := fe_of pg_172 rfl
set_option maxRecDepth 100000 in
theorem f_173_0 : fe 173 0 = some (.aload_n 0, 1, 11, some .int) := fe_of pg_173 rfl
set_option maxRecDepth 100000 in
theorem f_173_1 : fe 173 1 = some (.iload_n 1, 1, 11, some .int) := fe_of pg_173 rfl
set_option maxRecDepth 100000 in
theorem f_173_2 : fe 173 2 = some (.invokevirtual 110, 3, 11, some .int) := fe_of pg_173 rfl
set_option maxRecDepth 100000 in
theorem f_173_5 : fe 173 5 = some (.astore_n 3, 1, 11, some .int) := fe_of pg_173 rfl
set_option maxRecDepth 100000 in
theorem f_173_6 : fe 173 6 = some (.aload_n 3, 1, 11, some .int) := fe_of pg_173 rfl
set_option maxRecDepth 100000 in
theorem f_173_7 : fe 173 7 = some (.ifnonnull 5, 3, 11, some .int) := fe_of pg_173 rfl
set_option maxRecDepth 100000 in
theorem f_173_10 : fe 173 10 = some (.iconst (-1), 1, 11, some .int) := fe_of pg_173 rfl
set_option maxRecDepth 100000 in
theorem f_173_11 : fe 173 11 = some (.ireturn, 1, 11, some .int) := fe_of pg_173 rfl
set_option maxRecDepth 100000 in
theorem f_173_12 : fe 173 12 = some (.aload_n 0, 1, 11, some .int) := fe_of pg_173 rfl
set_option maxRecDepth 100000 in
theorem f_173_13 : fe 173 13 = some (.getfield 52, 3, 11, some .int) := fe_of pg_173 rfl
set_option maxRecDepth 100000 in
theorem f_173_16 : fe 173 16 = some (.aload_n 3, 1, 11, some .int) := fe_of pg_173 rfl
set_option maxRecDepth 100000 in
theorem f_173_17 : fe 173 17 = some (.invokevirtual 223, 3, 11, some .int) := fe_of pg_173 rfl
set_option maxRecDepth 100000 in
theorem f_173_20 : fe 173 20 = some (.aload_n 0, 1, 11, some .int) := fe_of pg_173 rfl
set_option maxRecDepth 100000 in
theorem f_173_21 : fe 173 21 = some (.getfield 52, 3, 11, some .int) := fe_of pg_173 rfl
set_option maxRecDepth 100000 in
theorem f_173_24 : fe 173 24 = some (.invokevirtual 255, 3, 11, some .int) := fe_of pg_173 rfl
set_option maxRecDepth 100000 in
theorem f_173_27 : fe 173 27 = some (.istore 4, 2, 11, some .int) := fe_of pg_173 rfl
set_option maxRecDepth 100000 in
theorem f_173_29 : fe 173 29 = some (.iload_n 2, 1, 11, some .int) := fe_of pg_173 rfl
set_option maxRecDepth 100000 in
theorem f_173_30 : fe 173 30 = some (.ifCond .ne 9, 3, 11, some .int) := fe_of pg_173 rfl
set_option maxRecDepth 100000 in
theorem f_173_33 : fe 173 33 = some (.iload 4, 2, 11, some .int) := fe_of pg_173 rfl
set_option maxRecDepth 100000 in
theorem f_173_35 : fe 173 35 = some (.iconst (-1), 1, 11, some .int) := fe_of pg_173 rfl
set_option maxRecDepth 100000 in
theorem f_173_36 : fe 173 36 = some (.if_icmp .ne 8, 3, 11, some .int) := fe_of pg_173 rfl
set_option maxRecDepth 100000 in
theorem f_173_39 : fe 173 39 = some (.iload 4, 2, 11, some .int) := fe_of pg_173 rfl
set_option maxRecDepth 100000 in
theorem f_173_41 : fe 173 41 = some (.goto 12, 3, 11, some .int) := fe_of pg_173 rfl
set_option maxRecDepth 100000 in
theorem f_173_44 : fe 173 44 = some (.aload_n 0, 1, 11, some .int) := fe_of pg_173 rfl
set_option maxRecDepth 100000 in
theorem f_173_45 : fe 173 45 = some (.getfield 52, 3, 11, some .int) := fe_of pg_173 rfl
set_option maxRecDepth 100000 in
theorem f_173_48 : fe 173 48 = some (.iload 4, 2, 11, some .int) := fe_of pg_173 rfl
set_option maxRecDepth 100000 in
theorem f_173_50 : fe 173 50 = some (.invokevirtual 258, 3, 11, some .int) := fe_of pg_173 rfl
set_option maxRecDepth 100000 in
theorem f_173_53 : fe 173 53 = some (.ireturn, 1, 11, some .int) := fe_of pg_173 rfl
set_option maxRecDepth 100000 in
theorem f_174_0 : fe 174 0 = some (.aload_n 0, 1, 11, some .int) := fe_of pg_174 rfl
set_option maxRecDepth 100000 in
theorem f_174_1 : fe 174 1 = some (.iload_n 1, 1, 11, some .int) := fe_of pg_174 rfl
set_option maxRecDepth 100000 in
theorem f_174_2 : fe 174 2 = some (.invokevirtual 261, 3, 11, some .int) := fe_of pg_174 rfl
set_option maxRecDepth 100000 in
theorem f_174_5 : fe 174 5 = some (.astore_n 3, 1, 11, some .int) := fe_of pg_174 rfl
set_option maxRecDepth 100000 in
theorem f_174_6 : fe 174 6 = some (.aload_n 3, 1, 11, some .int) := fe_of pg_174 rfl
set_option maxRecDepth 100000 in
theorem f_174_7 : fe 174 7 = some (.ifnonnull 7, 3, 11, some .int) := fe_of pg_174 rfl
set_option maxRecDepth 100000 in
theorem f_174_10 : fe 174 10 = some (.iconst (-1), 1, 11, some .int) := fe_of pg_174 rfl
set_option maxRecDepth 100000 in
theorem f_174_11 : fe 174 11 = some (.goto 8, 3, 11, some .int) := fe_of pg_174 rfl
set_option maxRecDepth 100000 in
theorem f_174_14 : fe 174 14 = some (.aload_n 3, 1, 11, some .int) := fe_of pg_174 rfl
set_option maxRecDepth 100000 in
theorem f_174_15 : fe 174 15 = some (.iload_n 2, 1, 11, some .int) := fe_of pg_174 rfl
set_option maxRecDepth 100000 in
theorem f_174_16 : fe 174 16 = some (.invokevirtual 265, 3, 11, some .int) := fe_of pg_174 rfl
set_option maxRecDepth 100000 in
theorem f_174_19 : fe 174 19 = some (.ireturn, 1, 11, some .int) := fe_of pg_174 rfl
set_option maxRecDepth 100000 in
theorem f_175_0 : fe 175 0 = some (.aload_n 0, 1, 11, some .int) := fe_of pg_175 rfl
set_option maxRecDepth 100000 in
theorem f_175_1 : fe 175 1 = some (.iload_n 1, 1, 11, some .int) := fe_of pg_175 rfl
set_option maxRecDepth 100000 in
theorem f_175_2 : fe 175 2 = some (.invokevirtual 261, 3, 11, some .int) := fe_of pg_175 rfl
set_option maxRecDepth 100000 in
theorem f_175_5 : fe 175 5 = some (.astore_n 3, 1, 11, some .int) := fe_of pg_175 rfl
set_option maxRecDepth 100000 in
theorem f_175_6 : fe 175 6 = some (.aload_n 3, 1, 11, some .int) := fe_of pg_175 rfl
set_option maxRecDepth 100000 in
theorem f_175_7 : fe 175 7 = some (.ifnonnull 5, 3, 11, some .int) := fe_of pg_175 rfl
set_option maxRecDepth 100000 in
theorem f_175_10 : fe 175 10 = some (.iconst (-1), 1, 11, some .int) := fe_of pg_175 rfl
set_option maxRecDepth 100000 in
theorem f_175_11 : fe 175 11 = some (.ireturn, 1, 11, some .int) := fe_of pg_175 rfl
set_option maxRecDepth 100000 in
theorem f_175_12 : fe 175 12 = some (.aload_n 3, 1, 11, some .int) := fe_of pg_175 rfl
set_option maxRecDepth 100000 in
theorem f_175_13 : fe 175 13 = some (.invokevirtual 268, 3, 11, some .int) := fe_of pg_175 rfl
set_option maxRecDepth 100000 in
theorem f_175_16 : fe 175 16 = some (.aload_n 3, 1, 11, some .int) := fe_of pg_175 rfl
set_option maxRecDepth 100000 in
theorem f_175_17 : fe 175 17 = some (.iload_n 2, 1, 11, some .int) := fe_of pg_175 rfl
set_option maxRecDepth 100000 in
theorem f_175_18 : fe 175 18 = some (.invokevirtual 271, 3, 11, some .int) := fe_of pg_175 rfl
set_option maxRecDepth 100000 in
theorem f_175_21 : fe 175 21 = some (.ireturn, 1, 11, some .int) := fe_of pg_175 rfl
set_option maxRecDepth 100000 in
theorem f_176_0 : fe 176 0 = some (.aload_n 0, 1, 11, some .int) := fe_of pg_176 rfl
set_option maxRecDepth 100000 in
theorem f_176_1 : fe 176 1 = some (.iload_n 1, 1, 11, some .int) := fe_of pg_176 rfl
set_option maxRecDepth 100000 in
theorem f_176_2 : fe 176 2 = some (.invokevirtual 274, 3, 11, some .int) := fe_of pg_176 rfl
set_option maxRecDepth 100000 in
theorem f_176_5 : fe 176 5 = some (.astore 4, 2, 11, some .int) := fe_of pg_176 rfl
set_option maxRecDepth 100000 in
theorem f_176_7 : fe 176 7 = some (.aload 4, 2, 11, some .int) := fe_of pg_176 rfl
set_option maxRecDepth 100000 in
theorem f_176_9 : fe 176 9 = some (.ifnonnull 8, 3, 11, some .int) := fe_of pg_176 rfl
set_option maxRecDepth 100000 in
theorem f_176_12 : fe 176 12 = some (.bipush (-2), 2, 11, some .int) := fe_of pg_176 rfl
set_option maxRecDepth 100000 in
theorem f_176_14 : fe 176 14 = some (.goto 10, 3, 11, some .int) := fe_of pg_176 rfl
set_option maxRecDepth 100000 in
theorem f_176_17 : fe 176 17 = some (.aload 4, 2, 11, some .int) := fe_of pg_176 rfl
set_option maxRecDepth 100000 in
theorem f_176_19 : fe 176 19 = some (.iload_n 2, 1, 11, some .int) := fe_of pg_176 rfl
set_option maxRecDepth 100000 in
theorem f_176_20 : fe 176 20 = some (.iload_n 3, 1, 11, some .int) := fe_of pg_176 rfl
set_option maxRecDepth 100000 in
theorem f_176_21 : fe 176 21 = some (.invokevirtual 278, 3, 11, some .int) := fe_of pg_176 rfl
set_option maxRecDepth 100000 in
theorem f_176_24 : fe 176 24 = some (.ireturn, 1, 11, some .int) := fe_of pg_176 rfl
set_option maxRecDepth 100000 in
theorem f_177_0 : fe 177 0 = some (.aload_n 0, 1, 11, some .int) := fe_of pg_177 rfl
set_option maxRecDepth 100000 in
theorem f_177_1 : fe 177 1 = some (.iload_n 1, 1, 11, some .int) := fe_of pg_177 rfl
set_option maxRecDepth 100000 in
theorem f_177_2 : fe 177 2 = some (.invokevirtual 274, 3, 11, some .int) := fe_of pg_177 rfl
set_option maxRecDepth 100000 in
theorem f_177_5 : fe 177 5 = some (.astore_n 3, 1, 11, some .int) := fe_of pg_177 rfl
set_option maxRecDepth 100000 in
theorem f_177_6 : fe 177 6 = some (.aload_n 3, 1, 11, some .int) := fe_of pg_177 rfl
set_option maxRecDepth 100000 in
theorem f_177_7 : fe 177 7 = some (.ifnonnull 6, 3, 11, some .int) := fe_of pg_177 rfl
set_option maxRecDepth 100000 in
theorem f_177_10 : fe 177 10 = some (.bipush (-2), 2, 11, some .int) := fe_of pg_177 rfl
set_option maxRecDepth 100000 in
theorem f_177_12 : fe 177 12 = some (.ireturn, 1, 11, some .int) := fe_of pg_177 rfl
set_option maxRecDepth 100000 in
theorem f_177_13 : fe 177 13 = some (.aload_n 3, 1, 11, some .int) := fe_of pg_177 rfl
set_option maxRecDepth 100000 in
theorem f_177_14 : fe 177 14 = some (.getfield 281, 3, 11, some .int) := fe_of pg_177 rfl
set_option maxRecDepth 100000 in
theorem f_177_17 : fe 177 17 = some (.ifCond .ne 11, 3, 11, some .int) := fe_of pg_177 rfl
set_option maxRecDepth 100000 in
theorem f_177_20 : fe 177 20 = some (.aload_n 0, 1, 11, some .int) := fe_of pg_177 rfl
set_option maxRecDepth 100000 in
theorem f_177_21 : fe 177 21 = some (.getfield 66, 3, 11, some .int) := fe_of pg_177 rfl
set_option maxRecDepth 100000 in
theorem f_177_24 : fe 177 24 = some (.aload_n 3, 1, 11, some .int) := fe_of pg_177 rfl
set_option maxRecDepth 100000 in
theorem f_177_25 : fe 177 25 = some (.invokevirtual 285, 3, 11, some .int) := fe_of pg_177 rfl
set_option maxRecDepth 100000 in
theorem f_177_28 : fe 177 28 = some (.aload_n 3, 1, 11, some .int) := fe_of pg_177 rfl
set_option maxRecDepth 100000 in
theorem f_177_29 : fe 177 29 = some (.iload_n 2, 1, 11, some .int) := fe_of pg_177 rfl
set_option maxRecDepth 100000 in
theorem f_177_30 : fe 177 30 = some (.invokevirtual 289, 3, 11, some .int) := fe_of pg_177 rfl
set_option maxRecDepth 100000 in
theorem f_177_33 : fe 177 33 = some (.ireturn, 1, 11, some .int) := fe_of pg_177 rfl
set_option maxRecDepth 100000 in
theorem f_178_0 : fe 178 0 = some (.iload_n 1, 1, 11, some (.object "GriefTram$Line")) := fe_of pg_178 rfl
set_option maxRecDepth 100000 in
theorem f_178_1 : fe 178 1 = some (.ifCond .lt 28, 3, 11, some (.object "GriefTram$Line")) := fe_of pg_178 rfl
set_option maxRecDepth 100000 in
theorem f_178_4 : fe 178 4 = some (.iload_n 1, 1, 11, some (.object "GriefTram$Line")) := fe_of pg_178 rfl
set_option maxRecDepth 100000 in
theorem f_178_5 : fe 178 5 = some (.aload_n 0, 1, 11, some (.object "GriefTram$Line")) := fe_of pg_178 rfl
set_option maxRecDepth 100000 in
theorem f_178_6 : fe 178 6 = some (.getfield 10, 3, 11, some (.object "GriefTram$Line")) := fe_of pg_178 rfl
set_option maxRecDepth 100000 in
theorem f_178_9 : fe 178 9 = some (.getfield 98, 3, 11, some (.object "GriefTram$Line")) := fe_of pg_178 rfl
set_option maxRecDepth 100000 in
theorem f_178_12 : fe 178 12 = some (.iconst 0, 1, 11, some (.object "GriefTram$Line")) := fe_of pg_178 rfl
set_option maxRecDepth 100000 in
theorem f_178_13 : fe 178 13 = some (.iaload, 1, 11, some (.object "GriefTram$Line")) := fe_of pg_178 rfl
set_option maxRecDepth 100000 in
theorem f_178_14 : fe 178 14 = some (.if_icmp .ge 15, 3, 11, some (.object "GriefTram$Line")) := fe_of pg_178 rfl
set_option maxRecDepth 100000 in
theorem f_178_17 : fe 178 17 = some (.aload_n 0, 1, 11, some (.object "GriefTram$Line")) := fe_of pg_178 rfl
set_option maxRecDepth 100000 in
theorem f_178_18 : fe 178 18 = some (.getfield 10, 3, 11, some (.object "GriefTram$Line")) := fe_of pg_178 rfl
set_option maxRecDepth 100000 in
theorem f_178_21 : fe 178 21 = some (.getfield 292, 3, 11, some (.object "GriefTram$Line")) := fe_of pg_178 rfl
set_option maxRecDepth 100000 in
theorem f_178_24 : fe 178 24 = some (.iload_n 1, 1, 11, some (.object "GriefTram$Line")) := fe_of pg_178 rfl
set_option maxRecDepth 100000 in
theorem f_178_25 : fe 178 25 = some (.aaload, 1, 11, some (.object "GriefTram$Line")) := fe_of pg_178 rfl
set_option maxRecDepth 100000 in
theorem f_178_26 : fe 178 26 = some (.goto 4, 3, 11, some (.object "GriefTram$Line")) := fe_of pg_178 rfl
set_option maxRecDepth 100000 in
theorem f_178_29 : fe 178 29 = some (.aconst_null, 1, 11, some (.object "GriefTram$Line")) := fe_of pg_178 rfl
set_option maxRecDepth 100000 in
theorem f_178_30 : fe 178 30 = some (.areturn, 1, 11, some (.object "GriefTram$Line")) := fe_of pg_178 rfl
set_option maxRecDepth 100000 in
theorem f_179_0 : fe 179 0 = some (.aload_n 0, 1, 11, some (.object "GriefTram$Line")) := fe_of pg_179 rfl
set_option maxRecDepth 100000 in
theorem f_179_1 : fe 179 1 = some (.iload_n 1, 1, 11, some (.object "GriefTram$Line")) := fe_of pg_179 rfl
set_option maxRecDepth 100000 in
theorem f_179_2 : fe 179 2 = some (.invokevirtual 110, 3, 11, some (.object "GriefTram$Line")) := fe_of pg_179 rfl
set_option maxRecDepth 100000 in
theorem f_179_5 : fe 179 5 = some (.astore_n 3, 1, 11, some (.object "GriefTram$Line")) := fe_of pg_179 rfl
set_option maxRecDepth 100000 in
theorem f_179_6 : fe 179 6 = some (.aload_n 3, 1, 11, some (.object "GriefTram$Line")) := fe_of pg_179 rfl
set_option maxRecDepth 100000 in
theorem f_179_7 : fe 179 7 = some (.ifnull 15, 3, 11, some (.object "GriefTram$Line")) := fe_of pg_179 rfl
set_option maxRecDepth 100000 in
theorem f_179_10 : fe 179 10 = some (.aload_n 3, 1, 11, some (.object "GriefTram$Line")) := fe_of pg_179 rfl
set_option maxRecDepth 100000 in
theorem f_179_11 : fe 179 11 = some (.iload_n 2, 1, 11, some (.object "GriefTram$Line")) := fe_of pg_179 rfl
set_option maxRecDepth 100000 in
theorem f_179_12 : fe 179 12 = some (.invokevirtual 185, 3, 11, some (.object "GriefTram$Line")) := fe_of pg_179 rfl
set_option maxRecDepth 100000 in
theorem f_179_15 : fe 179 15 = some (.ifCond .eq 7, 3, 11, some (.object "GriefTram$Line")) := fe_of pg_179 rfl
set_option maxRecDepth 100000 in
theorem f_179_18 : fe 179 18 = some (.aload_n 3, 1, 11, some (.object "GriefTram$Line")) := fe_of pg_179 rfl
set_option maxRecDepth 100000 in
theorem f_179_19 : fe 179 19 = some (.goto 4, 3, 11, some (.object "GriefTram$Line")) := fe_of pg_179 rfl
set_option maxRecDepth 100000 in
theorem f_179_22 : fe 179 22 = some (.aconst_null, 1, 11, some (.object "GriefTram$Line")) := fe_of pg_179 rfl
set_option maxRecDepth 100000 in
theorem f_179_23 : fe 179 23 = some (.areturn, 1, 11, some (.object "GriefTram$Line")) := fe_of pg_179 rfl
set_option maxRecDepth 100000 in
theorem f_180_0 : fe 180 0 = some (.iload_n 1, 1, 11, some (.object "GriefTram$Ride")) := fe_of pg_180 rfl
set_option maxRecDepth 100000 in
theorem f_180_1 : fe 180 1 = some (.ifCond .lt 28, 3, 11, some (.object "GriefTram$Ride")) := fe_of pg_180 rfl
set_option maxRecDepth 100000 in
theorem f_180_4 : fe 180 4 = some (.iload_n 1, 1, 11, some (.object "GriefTram$Ride")) := fe_of pg_180 rfl
set_option maxRecDepth 100000 in
theorem f_180_5 : fe 180 5 = some (.aload_n 0, 1, 11, some (.object "GriefTram$Ride")) := fe_of pg_180 rfl
set_option maxRecDepth 100000 in
theorem f_180_6 : fe 180 6 = some (.getfield 10, 3, 11, some (.object "GriefTram$Ride")) := fe_of pg_180 rfl
set_option maxRecDepth 100000 in
theorem f_180_9 : fe 180 9 = some (.getfield 98, 3, 11, some (.object "GriefTram$Ride")) := fe_of pg_180 rfl
set_option maxRecDepth 100000 in
theorem f_180_12 : fe 180 12 = some (.iconst 1, 1, 11, some (.object "GriefTram$Ride")) := fe_of pg_180 rfl
set_option maxRecDepth 100000 in
theorem f_180_13 : fe 180 13 = some (.iaload, 1, 11, some (.object "GriefTram$Ride")) := fe_of pg_180 rfl
set_option maxRecDepth 100000 in
theorem f_180_14 : fe 180 14 = some (.if_icmp .ge 15, 3, 11, some (.object "GriefTram$Ride")) := fe_of pg_180 rfl
set_option maxRecDepth 100000 in
theorem f_180_17 : fe 180 17 = some (.aload_n 0, 1, 11, some (.object "GriefTram$Ride")) := fe_of pg_180 rfl
set_option maxRecDepth 100000 in
theorem f_180_18 : fe 180 18 = some (.getfield 10, 3, 11, some (.object "GriefTram$Ride")) := fe_of pg_180 rfl
set_option maxRecDepth 100000 in
theorem f_180_21 : fe 180 21 = some (.getfield 296, 3, 11, some (.object "GriefTram$Ride")) := fe_of pg_180 rfl
set_option maxRecDepth 100000 in
theorem f_180_24 : fe 180 24 = some (.iload_n 1, 1, 11, some (.object "GriefTram$Ride")) := fe_of pg_180 rfl
set_option maxRecDepth 100000 in
theorem f_180_25 : fe 180 25 = some (.aaload, 1, 11, some (.object "GriefTram$Ride")) := fe_of pg_180 rfl
set_option maxRecDepth 100000 in
theorem f_180_26 : fe 180 26 = some (.goto 4, 3, 11, some (.object "GriefTram$Ride")) := fe_of pg_180 rfl
set_option maxRecDepth 100000 in
theorem f_180_29 : fe 180 29 = some (.aconst_null, 1, 11, some (.object "GriefTram$Ride")) := fe_of pg_180 rfl
set_option maxRecDepth 100000 in
theorem f_180_30 : fe 180 30 = some (.areturn, 1, 11, some (.object "GriefTram$Ride")) := fe_of pg_180 rfl
set_option maxRecDepth 100000 in
theorem f_181_0 : fe 181 0 = some (.iload_n 1, 1, 11, some (.object "GriefTram$Flow")) := fe_of pg_181 rfl
set_option maxRecDepth 100000 in
theorem f_181_1 : fe 181 1 = some (.ifCond .lt 28, 3, 11, some (.object "GriefTram$Flow")) := fe_of pg_181 rfl
set_option maxRecDepth 100000 in
theorem f_181_4 : fe 181 4 = some (.iload_n 1, 1, 11, some (.object "GriefTram$Flow")) := fe_of pg_181 rfl
set_option maxRecDepth 100000 in
theorem f_181_5 : fe 181 5 = some (.aload_n 0, 1, 11, some (.object "GriefTram$Flow")) := fe_of pg_181 rfl
set_option maxRecDepth 100000 in
theorem f_181_6 : fe 181 6 = some (.getfield 10, 3, 11, some (.object "GriefTram$Flow")) := fe_of pg_181 rfl
set_option maxRecDepth 100000 in
theorem f_181_9 : fe 181 9 = some (.getfield 98, 3, 11, some (.object "GriefTram$Flow")) := fe_of pg_181 rfl
set_option maxRecDepth 100000 in
theorem f_181_12 : fe 181 12 = some (.iconst 2, 1, 11, some (.object "GriefTram$Flow")) := fe_of pg_181 rfl
set_option maxRecDepth 100000 in
theorem f_181_13 : fe 181 13 = some (.iaload, 1, 11, some (.object "GriefTram$Flow")) := fe_of pg_181 rfl
set_option maxRecDepth 100000 in
theorem f_181_14 : fe 181 14 = some (.if_icmp .ge 15, 3, 11, some (.object "GriefTram$Flow")) := fe_of pg_181 rfl
set_option maxRecDepth 100000 in
theorem f_181_17 : fe 181 17 = some (.aload_n 0, 1, 11, some (.object "GriefTram$Flow")) := fe_of pg_181 rfl
set_option maxRecDepth 100000 in
theorem f_181_18 : fe 181 18 = some (.getfield 10, 3, 11, some (.object "GriefTram$Flow")) := fe_of pg_181 rfl
set_option maxRecDepth 100000 in
theorem f_181_21 : fe 181 21 = some (.getfield 300, 3, 11, some (.object "GriefTram$Flow")) := fe_of pg_181 rfl
set_option maxRecDepth 100000 in
theorem f_181_24 : fe 181 24 = some (.iload_n 1, 1, 11, some (.object "GriefTram$Flow")) := fe_of pg_181 rfl
set_option maxRecDepth 100000 in
theorem f_181_25 : fe 181 25 = some (.aaload, 1, 11, some (.object "GriefTram$Flow")) := fe_of pg_181 rfl
set_option maxRecDepth 100000 in
theorem f_181_26 : fe 181 26 = some (.goto 4, 3, 11, some (.object "GriefTram$Flow")) := fe_of pg_181 rfl
set_option maxRecDepth 100000 in
theorem f_181_29 : fe 181 29 = some (.aconst_null, 1, 11, some (.object "GriefTram$Flow")) := fe_of pg_181 rfl
set_option maxRecDepth 100000 in
theorem f_181_30 : fe 181 30 = some (.areturn, 1, 11, some (.object "GriefTram$Flow")) := fe_of pg_181 rfl
set_option maxRecDepth 100000 in
theorem f_182_0 : fe 182 0 = some (.iload_n 1, 1, 11, some (.object "GriefTram$Sight")) := fe_of pg_182 rfl
set_option maxRecDepth 100000 in
theorem f_182_1 : fe 182 1 = some (.ifCond .lt 28, 3, 11, some (.object "GriefTram$Sight")) := fe_of pg_182 rfl
set_option maxRecDepth 100000 in
theorem f_182_4 : fe 182 4 = some (.iload_n 1, 1, 11, some (.object "GriefTram$Sight")) := fe_of pg_182 rfl
set_option maxRecDepth 100000 in
theorem f_182_5 : fe 182 5 = some (.aload_n 0, 1, 11, some (.object "GriefTram$Sight")) := fe_of pg_182 rfl
set_option maxRecDepth 100000 in
theorem f_182_6 : fe 182 6 = some (.getfield 10, 3, 11, some (.object "GriefTram$Sight")) := fe_of pg_182 rfl
set_option maxRecDepth 100000 in
theorem f_182_9 : fe 182 9 = some (.getfield 98, 3, 11, some (.object "GriefTram$Sight")) := fe_of pg_182 rfl
set_option maxRecDepth 100000 in
theorem f_182_12 : fe 182 12 = some (.iconst 3, 1, 11, some (.object "GriefTram$Sight")) := fe_of pg_182 rfl
set_option maxRecDepth 100000 in
theorem f_182_13 : fe 182 13 = some (.iaload, 1, 11, some (.object "GriefTram$Sight")) := fe_of pg_182 rfl
set_option maxRecDepth 100000 in
theorem f_182_14 : fe 182 14 = some (.if_icmp .ge 15, 3, 11, some (.object "GriefTram$Sight")) := fe_of pg_182 rfl
set_option maxRecDepth 100000 in
theorem f_182_17 : fe 182 17 = some (.aload_n 0, 1, 11, some (.object "GriefTram$Sight")) := fe_of pg_182 rfl
set_option maxRecDepth 100000 in
theorem f_182_18 : fe 182 18 = some (.getfield 10, 3, 11, some (.object "GriefTram$Sight")) := fe_of pg_182 rfl
set_option maxRecDepth 100000 in
theorem f_182_21 : fe 182 21 = some (.getfield 304, 3, 11, some (.object "GriefTram$Sight")) := fe_of pg_182 rfl
set_option maxRecDepth 100000 in
theorem f_182_24 : fe 182 24 = some (.iload_n 1, 1, 11, some (.object "GriefTram$Sight")) := fe_of pg_182 rfl
set_option maxRecDepth 100000 in
theorem f_182_25 : fe 182 25 = some (.aaload, 1, 11, some (.object "GriefTram$Sight")) := fe_of pg_182 rfl
set_option maxRecDepth 100000 in
theorem f_182_26 : fe 182 26 = some (.goto 4, 3, 11, some (.object "GriefTram$Sight")) := fe_of pg_182 rfl
set_option maxRecDepth 100000 in
theorem f_182_29 : fe 182 29 = some (.aconst_null, 1, 11, some (.object "GriefTram$Sight")) := fe_of pg_182 rfl
set_option maxRecDepth 100000 in
theorem f_182_30 : fe 182 30 = some (.areturn, 1, 11, some (.object "GriefTram$Sight")) := fe_of pg_182 rfl
set_option maxRecDepth 100000 in
theorem f_183_0 : fe 183 0 = some (.iload_n 0, 1, 11, some .boolean) := fe_of pg_183 rfl
set_option maxRecDepth 100000 in
theorem f_183_1 : fe 183 1 = some (.iload_n 1, 1, 11, some .boolean) := fe_of pg_183 rfl
set_option maxRecDepth 100000 in
theorem f_183_2 : fe 183 2 = some (.ishr, 1, 11, some .boolean) := fe_of pg_183 rfl
set_option maxRecDepth 100000 in
theorem f_183_3 : fe 183 3 = some (.iconst 1, 1, 11, some .boolean) := fe_of pg_183 rfl
set_option maxRecDepth 100000 in
theorem f_183_4 : fe 183 4 = some (.iand, 1, 11, some .boolean) := fe_of pg_183 rfl
set_option maxRecDepth 100000 in
theorem f_183_5 : fe 183 5 = some (.ifCond .eq 7, 3, 11, some .boolean) := fe_of pg_183 rfl
set_option maxRecDepth 100000 in
theorem f_183_8 : fe 183 8 = some (.iconst 1, 1, 11, some .boolean) := fe_of pg_183 rfl
set_option maxRecDepth 100000 in
theorem f_183_9 : fe 183 9 = some (.goto 4, 3, 11, some .boolean) := fe_of pg_183 rfl
set_option maxRecDepth 100000 in
theorem f_183_12 : fe 183 12 = some (.iconst 0, 1, 11, some .boolean) := fe_of pg_183 rfl
set_option maxRecDepth 100000 in
theorem f_183_13 : fe 183 13 = some (.ireturn, 1, 11, some .boolean) := fe_of pg_183 rfl
set_option maxRecDepth 100000 in
theorem f_184_0 : fe 184 0 = some (.iload_n 1, 1, 11, some .int) := fe_of pg_184 rfl
set_option maxRecDepth 100000 in
theorem f_184_1 : fe 184 1 = some (.iload_n 2, 1, 11, some .int) := fe_of pg_184 rfl
set_option maxRecDepth 100000 in
theorem f_184_2 : fe 184 2 = some (.iload_n 0, 1, 11, some .int) := fe_of pg_184 rfl
set_option maxRecDepth 100000 in
theorem f_184_3 : fe 184 3 = some (.invokestatic 308, 3, 11, some .int) := fe_of pg_184 rfl
set_option maxRecDepth 100000 in
theorem f_184_6 : fe 184 6 = some (.invokestatic 313, 3, 11, some .int) := fe_of pg_184 rfl
set_option maxRecDepth 100000 in
theorem f_184_9 : fe 184 9 = some (.ireturn, 1, 11, some .int) := fe_of pg_184 rfl
set_option maxRecDepth 100000 in
theorem f_185_0 : fe 185 0 = some (.iconst 0, 1, 11, none) := fe_of pg_185 rfl
set_option maxRecDepth 100000 in
theorem f_185_1 : fe 185 1 = some (.istore_n 2, 1, 11, none) := fe_of pg_185 rfl
set_option maxRecDepth 100000 in
theorem f_185_2 : fe 185 2 = some (.iload_n 2, 1, 11, none) := fe_of pg_185 rfl
set_option maxRecDepth 100000 in
theorem f_185_3 : fe 185 3 = some (.aload_n 0, 1, 11, none) := fe_of pg_185 rfl
set_option maxRecDepth 100000 in
theorem f_185_4 : fe 185 4 = some (.arraylength, 1, 11, none) := fe_of pg_185 rfl
set_option maxRecDepth 100000 in
theorem f_185_5 : fe 185 5 = some (.if_icmp .ge 13, 3, 11, none) := fe_of pg_185 rfl
set_option maxRecDepth 100000 in
theorem f_185_8 : fe 185 8 = some (.aload_n 0, 1, 11, none) := fe_of pg_185 rfl
set_option maxRecDepth 100000 in
theorem f_185_9 : fe 185 9 = some (.iload_n 2, 1, 11, none) := fe_of pg_185 rfl
set_option maxRecDepth 100000 in
theorem f_185_10 : fe 185 10 = some (.iload_n 1, 1, 11, none) := fe_of pg_185 rfl
set_option maxRecDepth 100000 in
theorem f_185_11 : fe 185 11 = some (.iastore, 1, 11, none) := fe_of pg_185 rfl
set_option maxRecDepth 100000 in
theorem f_185_12 : fe 185 12 = some (.iinc 2 1, 3, 11, none) := fe_of pg_185 rfl
set_option maxRecDepth 100000 in
theorem f_185_15 : fe 185 15 = some (.goto (-13), 3, 11, none) := fe_of pg_185 rfl
set_option maxRecDepth 100000 in
theorem f_185_18 : fe 185 18 = some (.return_, 1, 11, none) := fe_of pg_185 rfl
set_option maxRecDepth 100000 in
theorem f_186_0 : fe 186 0 = some (.aload_n 0, 1, 11, none) := fe_of pg_186 rfl
set_option maxRecDepth 100000 in
theorem f_186_1 : fe 186 1 = some (.iconst 0, 1, 11, none) := fe_of pg_186 rfl
set_option maxRecDepth 100000 in
theorem f_186_2 : fe 186 2 = some (.aload_n 1, 1, 11, none) := fe_of pg_186 rfl
set_option maxRecDepth 100000 in
theorem f_186_3 : fe 186 3 = some (.iconst 0, 1, 11, none) := fe_of pg_186 rfl
set_option maxRecDepth 100000 in
theorem f_186_4 : fe 186 4 = some (.aload_n 0, 1, 11, none) := fe_of pg_186 rfl
set_option maxRecDepth 100000 in
theorem f_186_5 : fe 186 5 = some (.arraylength, 1, 11, none) := fe_of pg_186 rfl
set_option maxRecDepth 100000 in
theorem f_186_6 : fe 186 6 = some (.aload_n 1, 1, 11, none) := fe_of pg_186 rfl
set_option maxRecDepth 100000 in
theorem f_186_7 : fe 186 7 = some (.arraylength, 1, 11, none) := fe_of pg_186 rfl
set_option maxRecDepth 100000 in
theorem f_186_8 : fe 186 8 = some (.invokestatic 308, 3, 11, none) := fe_of pg_186 rfl
set_option maxRecDepth 100000 in
theorem f_186_11 : fe 186 11 = some (.invokestatic 316, 3, 11, none) := fe_of pg_186 rfl
set_option maxRecDepth 100000 in
theorem f_186_14 : fe 186 14 = some (.return_, 1, 11, none) := fe_of pg_186 rfl
set_option maxRecDepth 100000 in
theorem f_187_0 : fe 187 0 = some (.aload_n 0, 1, 11, none) := fe_of pg_187 rfl
set_option maxRecDepth 100000 in
theorem f_187_1 : fe 187 1 = some (.iload_n 1, 1, 11, none) := fe_of pg_187 rfl
set_option maxRecDepth 100000 in
theorem f_187_2 : fe 187 2 = some (.iaload, 1, 11, none) := fe_of pg_187 rfl
set_option maxRecDepth 100000 in
theorem f_187_3 : fe 187 3 = some (.aload_n 0, 1, 11, none) := fe_of pg_187 rfl
set_option maxRecDepth 100000 in
theorem f_187_4 : fe 187 4 = some (.iload_n 2, 1, 11, none) := fe_of pg_187 rfl
set_option maxRecDepth 100000 in
theorem f_187_5 : fe 187 5 = some (.iaload, 1, 11, none) := fe_of pg_187 rfl
set_option maxRecDepth 100000 in
theorem f_187_6 : fe 187 6 = some (.isub, 1, 11, none) := fe_of pg_187 rfl
set_option maxRecDepth 100000 in
theorem f_187_7 : fe 187 7 = some (.istore_n 3, 1, 11, none) := fe_of pg_187 rfl
set_option maxRecDepth 100000 in
theorem f_187_8 : fe 187 8 = some (.iload_n 3, 1, 11, none) := fe_of pg_187 rfl
set_option maxRecDepth 100000 in
theorem f_187_9 : fe 187 9 = some (.iconst 2, 1, 11, none) := fe_of pg_187 rfl
set_option maxRecDepth 100000 in
theorem f_187_10 : fe 187 10 = some (.if_icmp .lt 20, 3, 11, none) := fe_of pg_187 rfl
set_option maxRecDepth 100000 in
theorem f_187_13 : fe 187 13 = some (.aload_n 0, 1, 11, none) := fe_of pg_187 rfl
set_option maxRecDepth 100000 in
theorem f_187_14 : fe 187 14 = some (.iload_n 1, 1, 11, none) := fe_of pg_187 rfl
set_option maxRecDepth 100000 in
theorem f_187_15 : fe 187 15 = some (.dup2, 1, 11, none) := fe_of pg_187 rfl
set_option maxRecDepth 100000 in
theorem f_187_16 : fe 187 16 = some (.iaload, 1, 11, none) := fe_of pg_187 rfl
set_option maxRecDepth 100000 in
theorem f_187_17 : fe 187 17 = some (.iconst 1, 1, 11, none) := fe_of pg_187 rfl
set_option maxRecDepth 100000 in
theorem f_187_18 : fe 187 18 = some (.isub, 1, 11, none) := fe_of pg_187 rfl
set_option maxRecDepth 100000 in
theorem f_187_19 : fe 187 19 = some (.iastore, 1, 11, none) := fe_of pg_187 rfl
set_option maxRecDepth 100000 in
theorem f_187_20 : fe 187 20 = some (.aload_n 0, 1, 11, none) := fe_of pg_187 rfl
set_option maxRecDepth 100000 in
theorem f_187_21 : fe 187 21 = some (.iload_n 2, 1, 11, none) := fe_of pg_187 rfl
set_option maxRecDepth 100000 in
theorem f_187_22 : fe 187 22 = some (.dup2, 1, 11, none) := fe_of pg_187 rfl
set_option maxRecDepth 100000 in
theorem f_187_23 : fe 187 23 = some (.iaload, 1, 11, none) := fe_of pg_187 rfl
set_option maxRecDepth 100000 in
theorem f_187_24 : fe 187 24 = some (.iconst 1, 1, 11, none) := fe_of pg_187 rfl
set_option maxRecDepth 100000 in
theorem f_187_25 : fe 187 25 = some (.iadd, 1, 11, none) := fe_of pg_187 rfl
set_option maxRecDepth 100000 in
theorem f_187_26 : fe 187 26 = some (.iastore, 1, 11, none) := fe_of pg_187 rfl
set_option maxRecDepth 100000 in
theorem f_187_27 : fe 187 27 = some (.goto 23, 3, 11, none) := fe_of pg_187 rfl
set_option maxRecDepth 100000 in
theorem f_187_30 : fe 187 30 = some (.iload_n 3, 1, 11, none) := fe_of pg_187 rfl
set_option maxRecDepth 100000 in
theorem f_187_31 : fe 187 31 = some (.bipush (-2), 2, 11, none) := fe_of pg_187 rfl
set_option maxRecDepth 100000 in
theorem f_187_33 : fe 187 33 = some (.if_icmp .gt 17, 3, 11, none) := fe_of pg_187 rfl
set_option maxRecDepth 100000 in
theorem f_187_36 : fe 187 36 = some (.aload_n 0, 1, 11, none) := fe_of pg_187 rfl
set_option maxRecDepth 100000 in
theorem f_187_37 : fe 187 37 = some (.iload_n 1, 1, 11, none) := fe_of pg_187 rfl
set_option maxRecDepth 100000 in
theorem f_187_38 : fe 187 38 = some (.dup2, 1, 11, none) := fe_of pg_187 rfl
set_option maxRecDepth 100000 in
theorem f_187_39 : fe 187 39 = some (.iaload, 1, 11, none) := fe_of pg_187 rfl
set_option maxRecDepth 100000 in
theorem f_187_40 : fe 187 40 = some (.iconst 1, 1, 11, none) := fe_of pg_187 rfl
set_option maxRecDepth 100000 in
theorem f_187_41 : fe 187 41 = some (.iadd, 1, 11, none) := fe_of pg_187 rfl
set_option maxRecDepth 100000 in
theorem f_187_42 : fe 187 42 = some (.iastore, 1, 11, none) := fe_of pg_187 rfl
set_option maxRecDepth 100000 in
theorem f_187_43 : fe 187 43 = some (.aload_n 0, 1, 11, none) := fe_of pg_187 rfl
set_option maxRecDepth 100000 in
theorem f_187_44 : fe 187 44 = some (.iload_n 2, 1, 11, none) := fe_of pg_187 rfl
set_option maxRecDepth 100000 in
theorem f_187_45 : fe 187 45 = some (.dup2, 1, 11, none) := fe_of pg_187 rfl
set_option maxRecDepth 100000 in
theorem f_187_46 : fe 187 46 = some (.iaload, 1, 11, none) := fe_of pg_187 rfl
set_option maxRecDepth 100000 in
theorem f_187_47 : fe 187 47 = some (.iconst 1, 1, 11, none) := fe_of pg_187 rfl
set_option maxRecDepth 100000 in
theorem f_187_48 : fe 187 48 = some (.isub, 1, 11, none) := fe_of pg_187 rfl
set_option maxRecDepth 100000 in
theorem f_187_49 : fe 187 49 = some (.iastore, 1, 11, none) := fe_of pg_187 rfl
set_option maxRecDepth 100000 in
theorem f_187_50 : fe 187 50 = some (.return_, 1, 11, none) := fe_of pg_187 rfl
set_option maxRecDepth 100000 in
theorem f_324_0 : fe 324 0 = some (.aload_n 0, 1, 14, some .int) := fe_of pg_324 rfl
set_option maxRecDepth 100000 in
theorem f_324_1 : fe 324 1 = some (.getfield 9, 3, 14, some .int) := fe_of pg_324 rfl
set_option maxRecDepth 100000 in
theorem f_324_4 : fe 324 4 = some (.arraylength, 1, 14, some .int) := fe_of pg_324 rfl
set_option maxRecDepth 100000 in
theorem f_324_5 : fe 324 5 = some (.aload_n 0, 1, 14, some .int) := fe_of pg_324 rfl
set_option maxRecDepth 100000 in
theorem f_324_6 : fe 324 6 = some (.invokevirtual 335, 3, 14, some .int) := fe_of pg_324 rfl
set_option maxRecDepth 100000 in
theorem f_324_9 : fe 324 9 = some (.ishr, 1, 14, some .int) := fe_of pg_324 rfl
set_option maxRecDepth 100000 in
theorem f_324_10 : fe 324 10 = some (.ireturn, 1, 14, some .int) := fe_of pg_324 rfl
set_option maxRecDepth 100000 in
theorem f_325_0 : fe 325 0 = some (.aload_n 0, 1, 14, some .char) := fe_of pg_325 rfl
set_option maxRecDepth 100000 in
theorem f_325_1 : fe 325 1 = some (.invokevirtual 492, 3, 14, some .char) := fe_of pg_325 rfl
set_option maxRecDepth 100000 in
theorem f_325_4 : fe 325 4 = some (.ifCond .eq 12, 3, 14, some .char) := fe_of pg_325 rfl
set_option maxRecDepth 100000 in
theorem f_325_7 : fe 325 7 = some (.aload_n 0, 1, 14, some .char) := fe_of pg_325 rfl
set_option maxRecDepth 100000 in
theorem f_325_8 : fe 325 8 = some (.getfield 9, 3, 14, some .char) := fe_of pg_325 rfl
set_option maxRecDepth 100000 in
theorem f_325_11 : fe 325 11 = some (.iload_n 1, 1, 14, some .char) := fe_of pg_325 rfl
set_option maxRecDepth 100000 in
theorem f_325_12 : fe 325 12 = some (.invokestatic 495, 3, 14, some .char) := fe_of pg_325 rfl
set_option maxRecDepth 100000 in
theorem f_325_15 : fe 325 15 = some (.ireturn, 1, 14, some .char) := fe_of pg_325 rfl
set_option maxRecDepth 100000 in
theorem f_325_16 : fe 325 16 = some (.aload_n 0, 1, 14, some .char) := fe_of pg_325 rfl
set_option maxRecDepth 100000 in
theorem f_325_17 : fe 325 17 = some (.getfield 9, 3, 14, some .char) := fe_of pg_325 rfl
set_option maxRecDepth 100000 in
theorem f_325_20 : fe 325 20 = some (.iload_n 1, 1, 14, some .char) := fe_of pg_325 rfl
set_option maxRecDepth 100000 in
theorem f_325_21 : fe 325 21 = some (.invokestatic 498, 3, 14, some .char) := fe_of pg_325 rfl
set_option maxRecDepth 100000 in
theorem f_325_24 : fe 325 24 = some (.ireturn, 1, 14, some .char) := fe_of pg_325 rfl
set_option maxRecDepth 100000 in
theorem f_326_0 : fe 326 0 = some (.getstatic 38, 3, 14, some .byte) := fe_of pg_326 rfl
set_option maxRecDepth 100000 in
theorem f_326_3 : fe 326 3 = some (.ifCond .eq 10, 3, 14, some .byte) := fe_of pg_326 rfl
set_option maxRecDepth 100000 in
theorem f_326_6 : fe 326 6 = some (.aload_n 0, 1, 14, some .byte) := fe_of pg_326 rfl
set_option maxRecDepth 100000 in
theorem f_326_7 : fe 326 7 = some (.getfield 15, 3, 14, some .byte) := fe_of pg_326 rfl
set_option maxRecDepth 100000 in
theorem f_326_10 : fe 326 10 = some (.goto 4, 3, 14, some .byte) := fe_of pg_326 rfl
set_option maxRecDepth 100000 in
theorem f_326_13 : fe 326 13 = some (.iconst 1, 1, 14, some .byte) := fe_of pg_326 rfl
set_option maxRecDepth 100000 in
theorem f_326_14 : fe 326 14 = some (.ireturn, 1, 14, some .byte) := fe_of pg_326 rfl
set_option maxRecDepth 100000 in
theorem f_327_0 : fe 327 0 = some (.getstatic 38, 3, 14, some .boolean) := fe_of pg_327 rfl
set_option maxRecDepth 100000 in
theorem f_327_3 : fe 327 3 = some (.ifCond .eq 14, 3, 14, some .boolean) := fe_of pg_327 rfl
set_option maxRecDepth 100000 in
theorem f_327_6 : fe 327 6 = some (.aload_n 0, 1, 14, some .boolean) := fe_of pg_327 rfl
set_option maxRecDepth 100000 in
theorem f_327_7 : fe 327 7 = some (.getfield 15, 3, 14, some .boolean) := fe_of pg_327 rfl
set_option maxRecDepth 100000 in
theorem f_327_10 : fe 327 10 = some (.ifCond .ne 7, 3, 14, some .boolean) := fe_of pg_327 rfl
set_option maxRecDepth 100000 in
theorem f_327_13 : fe 327 13 = some (.iconst 1, 1, 14, some .boolean) := fe_of pg_327 rfl
set_option maxRecDepth 100000 in
theorem f_327_14 : fe 327 14 = some (.goto 4, 3, 14, some .boolean) := fe_of pg_327 rfl
set_option maxRecDepth 100000 in
theorem f_327_17 : fe 327 17 = some (.iconst 0, 1, 14, some .boolean) := fe_of pg_327 rfl
set_option maxRecDepth 100000 in
theorem f_327_18 : fe 327 18 = some (.ireturn, 1, 14, some .boolean) := fe_of pg_327 rfl
set_option maxRecDepth 100000 in
theorem f_328_0 : fe 328 0 = some (.iload_n 0, 1, 14, none) := fe_of pg_328 rfl
set_option maxRecDepth 100000 in
theorem f_328_1 : fe 328 1 = some (.iload_n 1, 1, 14, none) := fe_of pg_328 rfl
set_option maxRecDepth 100000 in
theorem f_328_2 : fe 328 2 = some (.getstatic 1053, 3, 14, none) := fe_of pg_328 rfl
set_option maxRecDepth 100000 in
theorem f_328_5 : fe 328 5 = some (.invokestatic 1059, 3, 14, none) := fe_of pg_328 rfl
set_option maxRecDepth 100000 in
theorem f_328_8 : fe 328 8 = some (.pop, 1, 14, none) := fe_of pg_328 rfl
set_option maxRecDepth 100000 in
theorem f_328_9 : fe 328 9 = some (.return_, 1, 14, none) := fe_of pg_328 rfl
set_option maxRecDepth 100000 in
theorem f_329_0 : fe 329 0 = some (.iload_n 1, 1, 15, some .char) := fe_of pg_329 rfl
set_option maxRecDepth 100000 in
theorem f_329_1 : fe 329 1 = some (.aload_n 0, 1, 15, some .char) := fe_of pg_329 rfl
set_option maxRecDepth 100000 in
theorem f_329_2 : fe 329 2 = some (.arraylength, 1, 15, some .char) := fe_of pg_329 rfl
set_option maxRecDepth 100000 in
theorem f_329_3 : fe 329 3 = some (.invokestatic 9, 3, 15, some .char) := fe_of pg_329 rfl
set_option maxRecDepth 100000 in
theorem f_329_6 : fe 329 6 = some (.aload_n 0, 1, 15, some .char) := fe_of pg_329 rfl
set_option maxRecDepth 100000 in
theorem f_329_7 : fe 329 7 = some (.iload_n 1, 1, 15, some .char) := fe_of pg_329 rfl
set_option maxRecDepth 100000 in
theorem f_329_8 : fe 329 8 = some (.baload, 1, 15, some .char) := fe_of pg_329 rfl
set_option maxRecDepth 100000 in
theorem f_329_9 : fe 329 9 = some (.sipush 255, 3, 15, some .char) := fe_of pg_329 rfl
set_option maxRecDepth 100000 in
theorem f_329_12 : fe 329 12 = some (.iand, 1, 15, some .char) := fe_of pg_329 rfl
set_option maxRecDepth 100000 in
theorem f_329_13 : fe 329 13 = some (.i2c, 1, 15, some .char) := fe_of pg_329 rfl
set_option maxRecDepth 100000 in
theorem f_329_14 : fe 329 14 = some (.ireturn, 1, 15, some .char) := fe_of pg_329 rfl
set_option maxRecDepth 100000 in
theorem f_330_0 : fe 330 0 = some (.iload_n 0, 1, 16, some .int) := fe_of pg_330 rfl
set_option maxRecDepth 100000 in
theorem f_330_1 : fe 330 1 = some (.ifCond .lt 8, 3, 16, some .int) := fe_of pg_330 rfl
set_option maxRecDepth 100000 in
theorem f_330_4 : fe 330 4 = some (.iload_n 0, 1, 16, some .int) := fe_of pg_330 rfl
set_option maxRecDepth 100000 in
theorem f_330_5 : fe 330 5 = some (.iload_n 1, 1, 16, some .int) := fe_of pg_330 rfl
set_option maxRecDepth 100000 in
theorem f_330_6 : fe 330 6 = some (.if_icmp .lt 10, 3, 16, some .int) := fe_of pg_330 rfl
set_option maxRecDepth 100000 in
theorem f_330_9 : fe 330 9 = some (.aload_n 2, 1, 16, some .int) := fe_of pg_330 rfl
set_option maxRecDepth 100000 in
theorem f_330_10 : fe 330 10 = some (.iload_n 0, 1, 16, some .int) := fe_of pg_330 rfl
set_option maxRecDepth 100000 in
theorem f_330_11 : fe 330 11 = some (.iload_n 1, 1, 16, some .int) := fe_of pg_330 rfl
set_option maxRecDepth 100000 in
theorem f_330_12 : fe 330 12 = some (.invokestatic 95, 3, 16, some .int) := fe_of pg_330 rfl
set_option maxRecDepth 100000 in
theorem f_330_15 : fe 330 15 = some (.athrow, 1, 16, some .int) := fe_of pg_330 rfl
set_option maxRecDepth 100000 in
theorem f_330_16 : fe 330 16 = some (.iload_n 0, 1, 16, some .int) := fe_of pg_330 rfl
set_option maxRecDepth 100000 in
theorem f_330_17 : fe 330 17 = some (.ireturn, 1, 16, some .int) := fe_of pg_330 rfl
set_option maxRecDepth 100000 in
theorem f_322_0 : fe 322 0 = some (.iload_n 0, 1, 17, some .int) := fe_of pg_322 rfl
set_option maxRecDepth 100000 in
theorem f_322_1 : fe 322 1 = some (.iconst (-1), 1, 17, some .int) := fe_of pg_322 rfl
set_option maxRecDepth 100000 in
theorem f_322_2 : fe 322 2 = some (.ixor, 1, 17, some .int) := fe_of pg_322 rfl
set_option maxRecDepth 100000 in
theorem f_322_3 : fe 322 3 = some (.iload_n 0, 1, 17, some .int) := fe_of pg_322 rfl
set_option maxRecDepth 100000 in
theorem f_322_4 : fe 322 4 = some (.iconst 1, 1, 17, some .int) := fe_of pg_322 rfl
set_option maxRecDepth 100000 in
theorem f_322_5 : fe 322 5 = some (.isub, 1, 17, some .int) := fe_of pg_322 rfl
set_option maxRecDepth 100000 in
theorem f_322_6 : fe 322 6 = some (.iand, 1, 17, some .int) := fe_of pg_322 rfl
set_option maxRecDepth 100000 in
theorem f_322_7 : fe 322 7 = some (.istore_n 0, 1, 17, some .int) := fe_of pg_322 rfl
set_option maxRecDepth 100000 in
theorem f_322_8 : fe 322 8 = some (.iload_n 0, 1, 17, some .int) := fe_of pg_322 rfl
set_option maxRecDepth 100000 in
theorem f_322_9 : fe 322 9 = some (.ifCond .gt 8, 3, 17, some .int) := fe_of pg_322 rfl
set_option maxRecDepth 100000 in
theorem f_322_12 : fe 322 12 = some (.iload_n 0, 1, 17, some .int) := fe_of pg_322 rfl
set_option maxRecDepth 100000 in
theorem f_322_13 : fe 322 13 = some (.bipush 32, 2, 17, some .int) := fe_of pg_322 rfl
set_option maxRecDepth 100000 in
theorem f_322_15 : fe 322 15 = some (.iand, 1, 17, some .int) := fe_of pg_322 rfl
set_option maxRecDepth 100000 in
theorem f_322_16 : fe 322 16 = some (.ireturn, 1, 17, some .int) := fe_of pg_322 rfl
set_option maxRecDepth 100000 in
theorem f_322_17 : fe 322 17 = some (.iconst 1, 1, 17, some .int) := fe_of pg_322 rfl
set_option maxRecDepth 100000 in
theorem f_322_18 : fe 322 18 = some (.istore_n 1, 1, 17, some .int) := fe_of pg_322 rfl
set_option maxRecDepth 100000 in
theorem f_322_19 : fe 322 19 = some (.iload_n 0, 1, 17, some .int) := fe_of pg_322 rfl
set_option maxRecDepth 100000 in
theorem f_322_20 : fe 322 20 = some (.ldc_w 264, 3, 17, some .int) := fe_of pg_322 rfl
set_option maxRecDepth 100000 in
theorem f_322_23 : fe 322 23 = some (.if_icmp .le 11, 3, 17, some .int) := fe_of pg_322 rfl
set_option maxRecDepth 100000 in
theorem f_322_26 : fe 322 26 = some (.iinc 1 16, 3, 17, some .int) := fe_of pg_322 rfl
set_option maxRecDepth 100000 in
theorem f_322_29 : fe 322 29 = some (.iload_n 0, 1, 17, some .int) := fe_of pg_322 rfl
set_option maxRecDepth 100000 in
theorem f_322_30 : fe 322 30 = some (.bipush 16, 2, 17, some .int) := fe_of pg_322 rfl
set_option maxRecDepth 100000 in
theorem f_322_32 : fe 322 32 = some (.iushr, 1, 17, some .int) := fe_of pg_322 rfl
set_option maxRecDepth 100000 in
theorem f_322_33 : fe 322 33 = some (.istore_n 0, 1, 17, some .int) := fe_of pg_322 rfl
set_option maxRecDepth 100000 in
theorem f_322_34 : fe 322 34 = some (.iload_n 0, 1, 17, some .int) := fe_of pg_322 rfl
set_option maxRecDepth 100000 in
theorem f_322_35 : fe 322 35 = some (.sipush 256, 3, 17, some .int) := fe_of pg_322 rfl
set_option maxRecDepth 100000 in
theorem f_322_38 : fe 322 38 = some (.if_icmp .le 11, 3, 17, some .int) := fe_of pg_322 rfl
set_option maxRecDepth 100000 in
theorem f_322_41 : fe 322 41 = some (.iinc 1 8, 3, 17, some .int) := fe_of pg_322 rfl
set_option maxRecDepth 100000 in
theorem f_322_44 : fe 322 44 = some (.iload_n 0, 1, 17, some .int) := fe_of pg_322 rfl
set_option maxRecDepth 100000 in
theorem f_322_45 : fe 322 45 = some (.bipush 8, 2, 17, some .int) := fe_of pg_322 rfl
set_option maxRecDepth 100000 in
theorem f_322_47 : fe 322 47 = some (.iushr, 1, 17, some .int) := fe_of pg_322 rfl
set_option maxRecDepth 100000 in
theorem f_322_48 : fe 322 48 = some (.istore_n 0, 1, 17, some .int) := fe_of pg_322 rfl
set_option maxRecDepth 100000 in
theorem f_322_49 : fe 322 49 = some (.iload_n 0, 1, 17, some .int) := fe_of pg_322 rfl
set_option maxRecDepth 100000 in
theorem f_322_50 : fe 322 50 = some (.bipush 16, 2, 17, some .int) := fe_of pg_322 rfl
set_option maxRecDepth 100000 in
theorem f_322_52 : fe 322 52 = some (.if_icmp .le 10, 3, 17, some .int) := fe_of pg_322 rfl
set_option maxRecDepth 100000 in
theorem f_322_55 : fe 322 55 = some (.iinc 1 4, 3, 17, some .int) := fe_of pg_322 rfl
set_option maxRecDepth 100000 in
theorem f_322_58 : fe 322 58 = some (.iload_n 0, 1, 17, some .int) := fe_of pg_322 rfl
set_option maxRecDepth 100000 in
theorem f_322_59 : fe 322 59 = some (.iconst 4, 1, 17, some .int) := fe_of pg_322 rfl
set_option maxRecDepth 100000 in
theorem f_322_60 : fe 322 60 = some (.iushr, 1, 17, some .int) := fe_of pg_322 rfl
set_option maxRecDepth 100000 in
theorem f_322_61 : fe 322 61 = some (.istore_n 0, 1, 17, some .int) := fe_of pg_322 rfl
set_option maxRecDepth 100000 in
theorem f_322_62 : fe 322 62 = some (.iload_n 0, 1, 17, some .int) := fe_of pg_322 rfl
set_option maxRecDepth 100000 in
theorem f_322_63 : fe 322 63 = some (.iconst 4, 1, 17, some .int) := fe_of pg_322 rfl
set_option maxRecDepth 100000 in
theorem f_322_64 : fe 322 64 = some (.if_icmp .le 10, 3, 17, some .int) := fe_of pg_322 rfl
set_option maxRecDepth 100000 in
theorem f_322_67 : fe 322 67 = some (.iinc 1 2, 3, 17, some .int) := fe_of pg_322 rfl
set_option maxRecDepth 100000 in
theorem f_322_70 : fe 322 70 = some (.iload_n 0, 1, 17, some .int) := fe_of pg_322 rfl
set_option maxRecDepth 100000 in
theorem f_322_71 : fe 322 71 = some (.iconst 2, 1, 17, some .int) := fe_of pg_322 rfl
set_option maxRecDepth 100000 in
theorem f_322_72 : fe 322 72 = some (.iushr, 1, 17, some .int) := fe_of pg_322 rfl
set_option maxRecDepth 100000 in
theorem f_322_73 : fe 322 73 = some (.istore_n 0, 1, 17, some .int) := fe_of pg_322 rfl
set_option maxRecDepth 100000 in
theorem f_322_74 : fe 322 74 = some (.iload_n 1, 1, 17, some .int) := fe_of pg_322 rfl
set_option maxRecDepth 100000 in
theorem f_322_75 : fe 322 75 = some (.iload_n 0, 1, 17, some .int) := fe_of pg_322 rfl
set_option maxRecDepth 100000 in
theorem f_322_76 : fe 322 76 = some (.iconst 1, 1, 17, some .int) := fe_of pg_322 rfl
set_option maxRecDepth 100000 in
theorem f_322_77 : fe 322 77 = some (.iushr, 1, 17, some .int) := fe_of pg_322 rfl
set_option maxRecDepth 100000 in
theorem f_322_78 : fe 322 78 = some (.iadd, 1, 17, some .int) := fe_of pg_322 rfl
set_option maxRecDepth 100000 in
theorem f_322_79 : fe 322 79 = some (.ireturn, 1, 17, some .int) := fe_of pg_322 rfl
set_option maxRecDepth 100000 in
theorem f_323_0 : fe 323 0 = some (.iload_n 0, 1, 17, some .int) := fe_of pg_323 rfl
set_option maxRecDepth 100000 in
theorem f_323_1 : fe 323 1 = some (.iload_n 0, 1, 17, some .int) := fe_of pg_323 rfl
set_option maxRecDepth 100000 in
theorem f_323_2 : fe 323 2 = some (.iconst 1, 1, 17, some .int) := fe_of pg_323 rfl
set_option maxRecDepth 100000 in
theorem f_323_3 : fe 323 3 = some (.iushr, 1, 17, some .int) := fe_of pg_323 rfl
set_option maxRecDepth 100000 in
theorem f_323_4 : fe 323 4 = some (.ldc_w 265, 3, 17, some .int) := fe_of pg_323 rfl
set_option maxRecDepth 100000 in
theorem f_323_7 : fe 323 7 = some (.iand, 1, 17, some .int) := fe_of pg_323 rfl
set_option maxRecDepth 100000 in
theorem f_323_8 : fe 323 8 = some (.isub, 1, 17, some .int) := fe_of pg_323 rfl
set_option maxRecDepth 100000 in
theorem f_323_9 : fe 323 9 = some (.istore_n 0, 1, 17, some .int) := fe_of pg_323 rfl
set_option maxRecDepth 100000 in
theorem f_323_10 : fe 323 10 = some (.iload_n 0, 1, 17, some .int) := fe_of pg_323 rfl
set_option maxRecDepth 100000 in
theorem f_323_11 : fe 323 11 = some (.ldc_w 266, 3, 17, some .int) := fe_of pg_323 rfl
set_option maxRecDepth 100000 in
theorem f_323_14 : fe 323 14 = some (.iand, 1, 17, some .int) := fe_of pg_323 rfl
set_option maxRecDepth 100000 in
theorem f_323_15 : fe 323 15 = some (.iload_n 0, 1, 17, some .int) := fe_of pg_323 rfl
set_option maxRecDepth 100000 in
theorem f_323_16 : fe 323 16 = some (.iconst 2, 1, 17, some .int) := fe_of pg_323 rfl
set_option maxRecDepth 100000 in
theorem f_323_17 : fe 323 17 = some (.iushr, 1, 17, some .int) := fe_of pg_323 rfl
set_option maxRecDepth 100000 in
theorem f_323_18 : fe 323 18 = some (.ldc_w 266, 3, 17, some .int) := fe_of pg_323 rfl
set_option maxRecDepth 100000 in
theorem f_323_21 : fe 323 21 = some (.iand, 1, 17, some .int) := fe_of pg_323 rfl
set_option maxRecDepth 100000 in
theorem f_323_22 : fe 323 22 = some (.iadd, 1, 17, some .int) := fe_of pg_323 rfl
set_option maxRecDepth 100000 in
theorem f_323_23 : fe 323 23 = some (.istore_n 0, 1, 17, some .int) := fe_of pg_323 rfl
set_option maxRecDepth 100000 in
theorem f_323_24 : fe 323 24 = some (.iload_n 0, 1, 17, some .int) := fe_of pg_323 rfl
set_option maxRecDepth 100000 in
theorem f_323_25 : fe 323 25 = some (.iload_n 0, 1, 17, some .int) := fe_of pg_323 rfl
set_option maxRecDepth 100000 in
theorem f_323_26 : fe 323 26 = some (.iconst 4, 1, 17, some .int) := fe_of pg_323 rfl
set_option maxRecDepth 100000 in
theorem f_323_27 : fe 323 27 = some (.iushr, 1, 17, some .int) := fe_of pg_323 rfl
set_option maxRecDepth 100000 in
theorem f_323_28 : fe 323 28 = some (.iadd, 1, 17, some .int) := fe_of pg_323 rfl
set_option maxRecDepth 100000 in
theorem f_323_29 : fe 323 29 = some (.ldc_w 267, 3, 17, some .int) := fe_of pg_323 rfl
set_option maxRecDepth 100000 in
theorem f_323_32 : fe 323 32 = some (.iand, 1, 17, some .int) := fe_of pg_323 rfl
set_option maxRecDepth 100000 in
theorem f_323_33 : fe 323 33 = some (.istore_n 0, 1, 17, some .int) := fe_of pg_323 rfl
set_option maxRecDepth 100000 in
theorem f_323_34 : fe 323 34 = some (.iload_n 0, 1, 17, some .int) := fe_of pg_323 rfl
set_option maxRecDepth 100000 in
theorem f_323_35 : fe 323 35 = some (.iload_n 0, 1, 17, some .int) := fe_of pg_323 rfl
set_option maxRecDepth 100000 in
theorem f_323_36 : fe 323 36 = some (.bipush 8, 2, 17, some .int) := fe_of pg_323 rfl
set_option maxRecDepth 100000 in
theorem f_323_38 : fe 323 38 = some (.iushr, 1, 17, some .int) := fe_of pg_323 rfl
set_option maxRecDepth 100000 in
theorem f_323_39 : fe 323 39 = some (.iadd, 1, 17, some .int) := fe_of pg_323 rfl
set_option maxRecDepth 100000 in
theorem f_323_40 : fe 323 40 = some (.istore_n 0, 1, 17, some .int) := fe_of pg_323 rfl
set_option maxRecDepth 100000 in
theorem f_323_41 : fe 323 41 = some (.iload_n 0, 1, 17, some .int) := fe_of pg_323 rfl
set_option maxRecDepth 100000 in
theorem f_323_42 : fe 323 42 = some (.iload_n 0, 1, 17, some .int) := fe_of pg_323 rfl
set_option maxRecDepth 100000 in
theorem f_323_43 : fe 323 43 = some (.bipush 16, 2, 17, some .int) := fe_of pg_323 rfl
set_option maxRecDepth 100000 in
theorem f_323_45 : fe 323 45 = some (.iushr, 1, 17, some .int) := fe_of pg_323 rfl
set_option maxRecDepth 100000 in
theorem f_323_46 : fe 323 46 = some (.iadd, 1, 17, some .int) := fe_of pg_323 rfl
set_option maxRecDepth 100000 in
theorem f_323_47 : fe 323 47 = some (.istore_n 0, 1, 17, some .int) := fe_of pg_323 rfl
set_option maxRecDepth 100000 in
theorem f_323_48 : fe 323 48 = some (.iload_n 0, 1, 17, some .int) := fe_of pg_323 rfl
set_option maxRecDepth 100000 in
theorem f_323_49 : fe 323 49 = some (.bipush 63, 2, 17, some .int) := fe_of pg_323 rfl
set_option maxRecDepth 100000 in
theorem f_323_51 : fe 323 51 = some (.iand, 1, 17, some .int) := fe_of pg_323 rfl
set_option maxRecDepth 100000 in
theorem f_323_52 : fe 323 52 = some (.ireturn, 1, 17, some .int) := fe_of pg_323 rfl
