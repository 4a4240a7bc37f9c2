set_option maxRecDepth 100000 in
def tb_105 : List (Nat × Instr × Nat) := [(0, .aload_n 0, 1), (1, .invokespecial 3, 3), (4, .aload_n 0, 1), (5, .bipush 8, 2), (7, .newarray .int, 2), (9, .putfield 9, 3), (12, .aload_n 0, 1), (13, .bipush 8, 2), (15, .newarray .int, 2), (17, .putfield 15, 3), (20, .aload_n 0, 1), (21, .bipush 6, 2), (23, .newarray .int, 2), (25, .putfield 18, 3), (28, .aload_n 0, 1), (29, .aload_n 1, 1), (30, .putfield 21, 3), (33, .return_, 1)]
theorem tb_105_ok : (tb_105.all fun e => decide (decode cX9_init e.1 = .ok e.2)) = true := by decide +kernel

set_option maxRecDepth 100000 in
def tb_106 : List (Nat × Instr × Nat) := [(0, .aload_n 0, 1), (1, .aload_n 1, 1), (2, .putfield 21, 3), (5, .aload_n 0, 1), (6, .iconst 0, 1), (7, .putfield 25, 3), (10, .aload_n 0, 1), (11, .iconst 0, 1), (12, .putfield 29, 3), (15, .aload_n 0, 1), (16, .iconst (-1), 1), (17, .putfield 32, 3), (20, .aload_n 0, 1), (21, .iconst 0, 1), (22, .putfield 35, 3), (25, .aload_n 1, 1), (26, .getfield 38, 3), (29, .aload_n 0, 1), (30, .getfield 9, 3), (33, .invokestatic 41, 3), (36, .aload_n 0, 1), (37, .getfield 15, 3), (40, .iconst (-1), 1), (41, .invokestatic 45, 3), (44, .aload_n 0, 1), (45, .getfield 18, 3), (48, .iconst (-1), 1), (49, .invokestatic 45, 3), (52, .return_, 1)]
theorem tb_106_ok : (tb_106.all fun e => decide (decode cX9_begin e.1 = .ok e.2)) = true := by decide +kernel

set_option maxRecDepth 100000 in
def tb_107 : List (Nat × Instr × Nat) := [(0, .iload_n 2, 1), (1, .aload_n 1, 1), (2, .getfield 49, 3), (5, .invokestatic 54, 3), (8, .istore_n 3, 1), (9, .iconst 0, 1), (10, .istore 4, 2), (12, .iload 4, 2), (14, .iload_n 3, 1), (15, .if_icmp .ge 40, 3), (18, .aload_n 0, 1), (19, .aload_n 1, 1), (20, .getfield 60, 3), (23, .iload 4, 2), (25, .iaload, 1), (26, .aload_n 1, 1), (27, .getfield 63, 3), (30, .iload 4, 2), (32, .iaload, 1), (33, .aload_n 1, 1), (34, .getfield 66, 3), (37, .iload 4, 2), (39, .iaload, 1), (40, .invokevirtual 69, 3), (43, .ifCond .ne 6, 3), (46, .iload 4, 2), (48, .ireturn, 1), (49, .iinc 4 1, 3), (52, .goto (-40), 3), (55, .iload_n 3, 1), (56, .ireturn, 1)]
theorem tb_107_ok : (tb_107.all fun e => decide (decode cX9_follow e.1 = .ok e.2)) = true := by decide +kernel

set_option maxRecDepth 100000 in
def tb_108 : List (Nat × Instr × Nat) := [(0, .iload_n 1, 1), (1, .tableswitch 98 0 7 #[47, 54, 61, 67, 74, 82, 87, 93], 47), (48, .aload_n 0, 1), (49, .iload_n 2, 1), (50, .iload_n 3, 1), (51, .invokevirtual 73, 3), (54, .ireturn, 1), (55, .aload_n 0, 1), (56, .iload_n 2, 1), (57, .iload_n 3, 1), (58, .invokevirtual 77, 3), (61, .ireturn, 1), (62, .aload_n 0, 1), (63, .iload_n 2, 1), (64, .invokevirtual 80, 3), (67, .ireturn, 1), (68, .aload_n 0, 1), (69, .iload_n 2, 1), (70, .invokevirtual 84, 3), (73, .iconst 1, 1), (74, .ireturn, 1), (75, .aload_n 0, 1), (76, .iload_n 2, 1), (77, .ineg, 1), (78, .invokevirtual 84, 3), (81, .iconst 1, 1), (82, .ireturn, 1), (83, .aload_n 0, 1), (84, .invokevirtual 88, 3), (87, .ireturn, 1), (88, .aload_n 0, 1), (89, .invokevirtual 92, 3), (92, .iconst 1, 1), (93, .ireturn, 1), (94, .aload_n 0, 1), (95, .invokevirtual 95, 3), (98, .ireturn, 1), (99, .iconst 0, 1), (100, .ireturn, 1)]
theorem tb_108_ok : (tb_108.all fun e => decide (decode cX9_perform e.1 = .ok e.2)) = true := by decide +kernel

set_option maxRecDepth 100000 in
def tb_109 : List (Nat × Instr × Nat) := [(0, .iload_n 1, 1), (1, .ifCond .lt 18, 3), (4, .iload_n 1, 1), (5, .aload_n 0, 1), (6, .getfield 21, 3), (9, .getfield 98, 3), (12, .if_icmp .ge 7, 3), (15, .iconst 1, 1), (16, .goto 4, 3), (19, .iconst 0, 1), (20, .ireturn, 1)]
theorem tb_109_ok : (tb_109.all fun e => decide (decode cX9_isRider e.1 = .ok e.2)) = true := by decide +kernel

set_option maxRecDepth 100000 in
def tb_110 : List (Nat × Instr × Nat) := [(0, .aload_n 0, 1), (1, .iload_n 1, 1), (2, .invokevirtual 101, 3), (5, .ifCond .eq 17, 3), (8, .aload_n 0, 1), (9, .getfield 15, 3), (12, .iload_n 1, 1), (13, .iaload, 1), (14, .iconst (-1), 1), (15, .if_icmp .eq 7, 3), (18, .iconst 1, 1), (19, .goto 4, 3), (22, .iconst 0, 1), (23, .ireturn, 1)]
theorem tb_110_ok : (tb_110.all fun e => decide (decode cX9_isAboard e.1 = .ok e.2)) = true := by decide +kernel

set_option maxRecDepth 100000 in
def tb_111 : List (Nat × Instr × Nat) := [(0, .iload_n 1, 1), (1, .ifCond .lt 28, 3), (4, .iload_n 1, 1), (5, .aload_n 0, 1), (6, .getfield 21, 3), (9, .getfield 104, 3), (12, .if_icmp .ge 17, 3), (15, .aload_n 0, 1), (16, .getfield 18, 3), (19, .iload_n 1, 1), (20, .iaload, 1), (21, .iconst (-1), 1), (22, .if_icmp .ne 7, 3), (25, .iconst 1, 1), (26, .goto 4, 3), (29, .iconst 0, 1), (30, .ireturn, 1)]
theorem tb_111_ok : (tb_111.all fun e => decide (decode cX9_isFree e.1 = .ok e.2)) = true := by decide +kernel

set_option maxRecDepth 100000 in
def tb_112 : List (Nat × Instr × Nat) := [(0, .aload_n 0, 1), (1, .iload_n 1, 1), (2, .invokevirtual 101, 3), (5, .ifCond .eq 21, 3), (8, .aload_n 0, 1), (9, .getfield 15, 3), (12, .iload_n 1, 1), (13, .iaload, 1), (14, .iconst (-1), 1), (15, .if_icmp .ne 11, 3), (18, .aload_n 0, 1), (19, .iload_n 2, 1), (20, .invokevirtual 107, 3), (23, .ifCond .ne 5, 3), (26, .iconst 0, 1), (27, .ireturn, 1), (28, .aload_n 0, 1), (29, .getfield 15, 3), (32, .iload_n 1, 1), (33, .iload_n 2, 1), (34, .iastore, 1), (35, .aload_n 0, 1), (36, .getfield 18, 3), (39, .iload_n 2, 1), (40, .iload_n 1, 1), (41, .iastore, 1), (42, .iconst 1, 1), (43, .ireturn, 1)]
theorem tb_112_ok : (tb_112.all fun e => decide (decode cX9_board e.1 = .ok e.2)) = true := by decide +kernel

set_option maxRecDepth 100000 in
def tb_113 : List (Nat × Instr × Nat) := [(0, .aload_n 0, 1), (1, .iload_n 1, 1), (2, .invokevirtual 110, 3), (5, .ifCond .eq 32, 3), (8, .aload_n 0, 1), (9, .iload_n 2, 1), (10, .invokevirtual 107, 3), (13, .ifCond .eq 24, 3), (16, .aload_n 0, 1), (17, .iload_n 1, 1), (18, .invokevirtual 80, 3), (21, .ifCond .eq 16, 3), (24, .aload_n 0, 1), (25, .iload_n 1, 1), (26, .iload_n 2, 1), (27, .invokevirtual 73, 3), (30, .ifCond .eq 7, 3), (33, .iconst 1, 1), (34, .goto 4, 3), (37, .iconst 0, 1), (38, .ireturn, 1)]
theorem tb_113_ok : (tb_113.all fun e => decide (decode cX9_move e.1 = .ok e.2)) = true := by decide +kernel

set_option maxRecDepth 100000 in
def tb_114 : List (Nat × Instr × Nat) := [(0, .aload_n 0, 1), (1, .iload_n 1, 1), (2, .invokevirtual 110, 3), (5, .ifCond .ne 5, 3), (8, .iconst 0, 1), (9, .ireturn, 1), (10, .aload_n 0, 1), (11, .getfield 15, 3), (14, .iload_n 1, 1), (15, .iaload, 1), (16, .istore_n 2, 1), (17, .iload_n 2, 1), (18, .ifCond .lt 16, 3), (21, .iload_n 2, 1), (22, .bipush 6, 2), (24, .if_icmp .ge 10, 3), (27, .aload_n 0, 1), (28, .getfield 18, 3), (31, .iload_n 2, 1), (32, .iconst (-1), 1), (33, .iastore, 1), (34, .aload_n 0, 1), (35, .getfield 15, 3), (38, .iload_n 1, 1), (39, .iconst (-1), 1), (40, .iastore, 1), (41, .iconst 1, 1), (42, .ireturn, 1)]
theorem tb_114_ok : (tb_114.all fun e => decide (decode cX9_getOff e.1 = .ok e.2)) = true := by decide +kernel

set_option maxRecDepth 100000 in
def tb_115 : List (Nat × Instr × Nat) := [(0, .iconst 0, 1), (1, .istore_n 2, 1), (2, .iload_n 2, 1), (3, .aload_n 0, 1), (4, .getfield 21, 3), (7, .getfield 98, 3), (10, .if_icmp .ge 37, 3), (13, .aload_n 0, 1), (14, .iload_n 2, 1), (15, .invokevirtual 110, 3), (18, .ifCond .eq 23, 3), (21, .aload_n 0, 1), (22, .getfield 9, 3), (25, .iload_n 2, 1), (26, .aload_n 0, 1), (27, .getfield 9, 3), (30, .iload_n 2, 1), (31, .iaload, 1), (32, .iload_n 1, 1), (33, .iadd, 1), (34, .iconst 0, 1), (35, .bipush 99, 2), (37, .invokestatic 113, 3), (40, .iastore, 1), (41, .iinc 2 1, 3), (44, .goto (-42), 3), (47, .return_, 1)]
theorem tb_115_ok : (tb_115.all fun e => decide (decode cX9_add e.1 = .ok e.2)) = true := by decide +kernel

set_option maxRecDepth 100000 in
def tb_116 : List (Nat × Instr × Nat) := [(0, .iconst 0, 1), (1, .istore_n 1, 1), (2, .iload_n 1, 1), (3, .iconst 1, 1), (4, .iadd, 1), (5, .aload_n 0, 1), (6, .getfield 21, 3), (9, .getfield 104, 3), (12, .if_icmp .ge 50, 3), (15, .aload_n 0, 1), (16, .getfield 18, 3), (19, .iload_n 1, 1), (20, .iaload, 1), (21, .istore_n 2, 1), (22, .aload_n 0, 1), (23, .getfield 18, 3), (26, .iload_n 1, 1), (27, .iconst 1, 1), (28, .iadd, 1), (29, .iaload, 1), (30, .istore_n 3, 1), (31, .aload_n 0, 1), (32, .iload_n 2, 1), (33, .invokevirtual 101, 3), (36, .ifCond .eq 20, 3), (39, .aload_n 0, 1), (40, .iload_n 3, 1), (41, .invokevirtual 101, 3), (44, .ifCond .eq 12, 3), (47, .aload_n 0, 1), (48, .getfield 9, 3), (51, .iload_n 2, 1), (52, .iload_n 3, 1), (53, .invokestatic 117, 3), (56, .iinc 1 1, 3), (59, .goto (-57), 3), (62, .return_, 1)]
theorem tb_116_ok : (tb_116.all fun e => decide (decode cX9_share e.1 = .ok e.2)) = true := by decide +kernel

set_option maxRecDepth 100000 in
def tb_117 : List (Nat × Instr × Nat) := [(0, .aload_n 0, 1), (1, .getfield 25, 3), (4, .ifCond .lt 17, 3), (7, .aload_n 0, 1), (8, .getfield 25, 3), (11, .aload_n 0, 1), (12, .getfield 21, 3), (15, .getfield 121, 3), (18, .if_icmp .lt 5, 3), (21, .iconst 0, 1), (22, .ireturn, 1), (23, .aload_n 0, 1), (24, .invokevirtual 124, 3), (27, .aload_n 0, 1), (28, .getfield 21, 3), (31, .getfield 128, 3), (34, .aload_n 0, 1), (35, .getfield 25, 3), (38, .iaload, 1), (39, .if_icmp .lt 10, 3), (42, .aload_n 0, 1), (43, .invokevirtual 131, 3), (46, .goto 7, 3), (49, .aload_n 0, 1), (50, .invokevirtual 134, 3), (53, .iconst 1, 1), (54, .ireturn, 1)]
theorem tb_117_ok : (tb_117.all fun e => decide (decode cX9_go e.1 = .ok e.2)) = true := by decide +kernel

set_option maxRecDepth 100000 in
def tb_118 : List (Nat × Instr × Nat) := [(0, .aload_n 0, 1), (1, .dup, 1), (2, .getfield 25, 3), (5, .iconst 1, 1), (6, .iadd, 1), (7, .putfield 25, 3), (10, .aload_n 0, 1), (11, .dup, 1), (12, .getfield 35, 3), (15, .iconst 1, 1), (16, .iadd, 1), (17, .putfield 35, 3), (20, .iconst 0, 1), (21, .istore_n 1, 1), (22, .iload_n 1, 1), (23, .aload_n 0, 1), (24, .getfield 21, 3), (27, .getfield 98, 3), (30, .if_icmp .ge 37, 3), (33, .aload_n 0, 1), (34, .iload_n 1, 1), (35, .invokevirtual 110, 3), (38, .ifCond .eq 23, 3), (41, .aload_n 0, 1), (42, .getfield 9, 3), (45, .iload_n 1, 1), (46, .aload_n 0, 1), (47, .getfield 21, 3), (50, .iload_n 1, 1), (51, .aload_n 0, 1), (52, .getfield 9, 3), (55, .iload_n 1, 1), (56, .iaload, 1), (57, .invokevirtual 137, 3), (60, .iastore, 1), (61, .iinc 1 1, 3), (64, .goto (-42), 3), (67, .return_, 1)]
theorem tb_118_ok : (tb_118.all fun e => decide (decode cX9_climb e.1 = .ok e.2)) = true := by decide +kernel

set_option maxRecDepth 100000 in
def tb_119 : List (Nat × Instr × Nat) := [(0, .aload_n 0, 1), (1, .dup, 1), (2, .getfield 29, 3), (5, .iconst 1, 1), (6, .iadd, 1), (7, .putfield 29, 3), (10, .aload_n 0, 1), (11, .getfield 32, 3), (14, .iconst (-1), 1), (15, .if_icmp .ne 11, 3), (18, .aload_n 0, 1), (19, .aload_n 0, 1), (20, .getfield 25, 3), (23, .putfield 32, 3), (26, .return_, 1)]
theorem tb_119_ok : (tb_119.all fun e => decide (decode cX9_stall e.1 = .ok e.2)) = true := by decide +kernel

set_option maxRecDepth 100000 in
def tb_120 : List (Nat × Instr × Nat) := [(0, .aload_n 0, 1), (1, .getfield 25, 3), (4, .ifCond .ne 5, 3), (7, .iconst 0, 1), (8, .ireturn, 1), (9, .aload_n 0, 1), (10, .iconst 0, 1), (11, .putfield 25, 3), (14, .iconst 1, 1), (15, .ireturn, 1)]
theorem tb_120_ok : (tb_120.all fun e => decide (decode cX9_goBack e.1 = .ok e.2)) = true := by decide +kernel

set_option maxRecDepth 100000 in
def tb_121 : List (Nat × Instr × Nat) := [(0, .aload_n 0, 1), (1, .iload_n 1, 1), (2, .putfield 140, 3), (5, .iconst 0, 1), (6, .istore_n 3, 1), (7, .iload_n 3, 1), (8, .iload_n 2, 1), (9, .if_icmp .ge 96, 3), (12, .aload_n 0, 1), (13, .bipush 8, 2), (15, .invokevirtual 143, 3), (18, .istore 4, 2), (20, .iload 4, 2), (22, .iconst 2, 1), (23, .if_icmp .gt 26, 3), (26, .aload_n 0, 1), (27, .aload_n 0, 1), (28, .aload_n 0, 1), (29, .getfield 21, 3), (32, .getfield 98, 3), (35, .invokevirtual 143, 3), (38, .aload_n 0, 1), (39, .invokevirtual 147, 3), (42, .invokevirtual 73, 3), (45, .pop, 1), (46, .goto 53, 3), (49, .iload 4, 2), (51, .iconst 3, 1), (52, .if_icmp .ne 22, 3), (55, .aload_n 0, 1), (56, .aload_n 0, 1), (57, .aload_n 0, 1), (58, .getfield 21, 3), (61, .getfield 98, 3), (64, .invokevirtual 143, 3), (67, .invokevirtual 80, 3), (70, .pop, 1), (71, .goto 28, 3), (74, .iload 4, 2), (76, .iconst 4, 1), (77, .if_icmp .ne 10, 3), (80, .aload_n 0, 1), (81, .invokevirtual 92, 3), (84, .goto 15, 3), (87, .aload_n 0, 1), (88, .invokevirtual 88, 3), (91, .ifCond .ne 8, 3), (94, .aload_n 0, 1), (95, .invokevirtual 95, 3), (98, .pop, 1), (99, .iinc 3 1, 3), (102, .goto (-95), 3), (105, .return_, 1)]
theorem tb_121_ok : (tb_121.all fun e => decide (decode cX9_draw e.1 = .ok e.2)) = true := by decide +kernel

set_option maxRecDepth 100000 in
def tb_122 : List (Nat × Instr × Nat) := [(0, .aload_n 0, 1), (1, .aload_n 0, 1), (2, .getfield 140, 3), (5, .ldc 150, 2), (7, .imul, 1), (8, .sipush 12345, 3), (11, .iadd, 1), (12, .putfield 140, 3), (15, .iload_n 1, 1), (16, .ifCond .gt 7, 3), (19, .iconst 0, 1), (20, .goto 12, 3), (23, .aload_n 0, 1), (24, .getfield 140, 3), (27, .bipush 16, 2), (29, .iushr, 1), (30, .iload_n 1, 1), (31, .irem, 1), (32, .ireturn, 1)]
theorem tb_122_ok : (tb_122.all fun e => decide (decode cX9_below e.1 = .ok e.2)) = true := by decide +kernel

set_option maxRecDepth 100000 in
def tb_123 : List (Nat × Instr × Nat) := [(0, .iconst 0, 1), (1, .istore_n 1, 1), (2, .iload_n 1, 1), (3, .aload_n 0, 1), (4, .getfield 21, 3), (7, .getfield 104, 3), (10, .if_icmp .ge 19, 3), (13, .aload_n 0, 1), (14, .iload_n 1, 1), (15, .invokevirtual 107, 3), (18, .ifCond .eq 5, 3), (21, .iload_n 1, 1), (22, .ireturn, 1), (23, .iinc 1 1, 3), (26, .goto (-24), 3), (29, .iconst (-1), 1), (30, .ireturn, 1)]
theorem tb_123_ok : (tb_123.all fun e => decide (decode cX9_leastFreeSeat e.1 = .ok e.2)) = true := by decide +kernel

set_option maxRecDepth 100000 in
def tb_124 : List (Nat × Instr × Nat) := [(0, .iload_n 1, 1), (1, .tableswitch 78 0 6 #[43, 48, 53, 58, 63, 68, 73], 43), (44, .aload_n 0, 1), (45, .getfield 25, 3), (48, .ireturn, 1), (49, .aload_n 0, 1), (50, .getfield 29, 3), (53, .ireturn, 1), (54, .aload_n 0, 1), (55, .getfield 32, 3), (58, .ireturn, 1), (59, .aload_n 0, 1), (60, .invokevirtual 124, 3), (63, .ireturn, 1), (64, .aload_n 0, 1), (65, .invokevirtual 151, 3), (68, .ireturn, 1), (69, .aload_n 0, 1), (70, .invokevirtual 154, 3), (73, .ireturn, 1), (74, .aload_n 0, 1), (75, .getfield 35, 3), (78, .ireturn, 1), (79, .iload_n 1, 1), (80, .bipush 10, 2), (82, .if_icmp .ge 8, 3), (85, .bipush (-2), 2), (87, .goto 15, 3), (90, .aload_n 0, 1), (91, .iload_n 1, 1), (92, .bipush 10, 2), (94, .idiv, 1), (95, .iload_n 1, 1), (96, .bipush 10, 2), (98, .irem, 1), (99, .invokevirtual 157, 3), (102, .ireturn, 1)]
theorem tb_124_ok : (tb_124.all fun e => decide (decode cX9_answer e.1 = .ok e.2)) = true := by decide +kernel

set_option maxRecDepth 100000 in
def tb_125 : List (Nat × Instr × Nat) := [(0, .iload_n 1, 1), (1, .tableswitch 90 1 3 #[27, 47, 67], 27), (28, .aload_n 0, 1), (29, .iload_n 2, 1), (30, .invokevirtual 101, 3), (33, .ifCond .eq 12, 3), (36, .aload_n 0, 1), (37, .getfield 9, 3), (40, .iload_n 2, 1), (41, .iaload, 1), (42, .goto 5, 3), (45, .bipush (-2), 2), (47, .ireturn, 1), (48, .aload_n 0, 1), (49, .iload_n 2, 1), (50, .invokevirtual 101, 3), (53, .ifCond .eq 12, 3), (56, .aload_n 0, 1), (57, .getfield 15, 3), (60, .iload_n 2, 1), (61, .iaload, 1), (62, .goto 5, 3), (65, .bipush (-2), 2), (67, .ireturn, 1), (68, .iload_n 2, 1), (69, .aload_n 0, 1), (70, .getfield 21, 3), (73, .getfield 104, 3), (76, .if_icmp .ge 12, 3), (79, .aload_n 0, 1), (80, .getfield 18, 3), (83, .iload_n 2, 1), (84, .iaload, 1), (85, .goto 5, 3), (88, .bipush (-2), 2), (90, .ireturn, 1), (91, .bipush (-2), 2), (93, .ireturn, 1)]
theorem tb_125_ok : (tb_125.all fun e => decide (decode cX9_answerOf e.1 = .ok e.2)) = true := by decide +kernel

set_option maxRecDepth 100000 in
def tb_126 : List (Nat × Instr × Nat) := [(0, .iconst 0, 1), (1, .istore_n 1, 1), (2, .iconst 0, 1), (3, .istore_n 2, 1), (4, .iload_n 2, 1), (5, .aload_n 0, 1), (6, .getfield 21, 3), (9, .getfield 98, 3), (12, .if_icmp .ge 34, 3), (15, .aload_n 0, 1), (16, .iload_n 2, 1), (17, .invokevirtual 110, 3), (20, .ifCond .eq 20, 3), (23, .iload_n 1, 1), (24, .aload_n 0, 1), (25, .getfield 21, 3), (28, .iload_n 2, 1), (29, .aload_n 0, 1), (30, .getfield 9, 3), (33, .iload_n 2, 1), (34, .iaload, 1), (35, .invokevirtual 160, 3), (38, .iadd, 1), (39, .istore_n 1, 1), (40, .iinc 2 1, 3), (43, .goto (-39), 3), (46, .iload_n 1, 1), (47, .ireturn, 1)]
theorem tb_126_ok : (tb_126.all fun e => decide (decode cX9_pulls e.1 = .ok e.2)) = true := by decide +kernel

set_option maxRecDepth 100000 in
def tb_127 : List (Nat × Instr × Nat) := [(0, .iconst 0, 1), (1, .istore_n 1, 1), (2, .iconst 0, 1), (3, .istore_n 2, 1), (4, .iload_n 2, 1), (5, .aload_n 0, 1), (6, .getfield 21, 3), (9, .getfield 98, 3), (12, .if_icmp .ge 23, 3), (15, .aload_n 0, 1), (16, .iload_n 2, 1), (17, .invokevirtual 110, 3), (20, .ifCond .eq 9, 3), (23, .iload_n 1, 1), (24, .iconst 1, 1), (25, .iload_n 2, 1), (26, .ishl, 1), (27, .ior, 1), (28, .istore_n 1, 1), (29, .iinc 2 1, 3), (32, .goto (-28), 3), (35, .iload_n 1, 1), (36, .ireturn, 1)]
theorem tb_127_ok : (tb_127.all fun e => decide (decode cX9_aboard e.1 = .ok e.2)) = true := by decide +kernel

set_option maxRecDepth 100000 in
def tb_128 : List (Nat × Instr × Nat) := [(0, .iconst 0, 1), (1, .istore_n 1, 1), (2, .iconst 0, 1), (3, .istore_n 2, 1), (4, .iload_n 2, 1), (5, .aload_n 0, 1), (6, .getfield 21, 3), (9, .getfield 98, 3), (12, .if_icmp .ge 39, 3), (15, .aload_n 0, 1), (16, .iload_n 2, 1), (17, .invokevirtual 110, 3), (20, .ifCond .eq 25, 3), (23, .aload_n 0, 1), (24, .getfield 21, 3), (27, .getfield 163, 3), (30, .iload_n 2, 1), (31, .iaload, 1), (32, .iconst 3, 1), (33, .if_icmp .ne 12, 3), (36, .iload_n 1, 1), (37, .aload_n 0, 1), (38, .getfield 9, 3), (41, .iload_n 2, 1), (42, .iaload, 1), (43, .iadd, 1), (44, .istore_n 1, 1), (45, .iinc 2 1, 3), (48, .goto (-44), 3), (51, .iload_n 1, 1), (52, .ireturn, 1)]
theorem tb_128_ok : (tb_128.all fun e => decide (decode cX9_smoke e.1 = .ok e.2)) = true := by decide +kernel

set_option maxRecDepth 100000 in
def tb_129 : List (Nat × Instr × Nat) := [(0, .aload_n 0, 1), (1, .invokespecial 3, 3), (4, .aload_n 0, 1), (5, .sipush 256, 3), (8, .newarray .boolean, 2), (10, .putfield 9, 3), (13, .aload_n 0, 1), (14, .sipush 256, 3), (17, .newarray .int, 2), (19, .putfield 15, 3), (22, .aload_n 0, 1), (23, .bipush 8, 2), (25, .newarray .int, 2), (27, .putfield 19, 3), (30, .aload_n 0, 1), (31, .aload_n 1, 1), (32, .putfield 22, 3), (35, .aload_n 0, 1), (36, .aload_n 1, 1), (37, .getfield 26, 3), (40, .putfield 32, 3), (43, .return_, 1)]
theorem tb_129_ok : (tb_129.all fun e => decide (decode cX10_init e.1 = .ok e.2)) = true := by decide +kernel

set_option maxRecDepth 100000 in
def tb_130 : List (Nat × Instr × Nat) := [(0, .aload_n 0, 1), (1, .aload_n 1, 1), (2, .putfield 32, 3), (5, .aload_n 0, 1), (6, .iconst 1, 1), (7, .aload_n 1, 1), (8, .getfield 33, 3), (11, .ishl, 1), (12, .iconst 1, 1), (13, .isub, 1), (14, .putfield 39, 3), (17, .iconst 0, 1), (18, .istore_n 2, 1), (19, .iload_n 2, 1), (20, .aload_n 0, 1), (21, .getfield 39, 3), (24, .if_icmp .gt 24, 3), (27, .aload_n 0, 1), (28, .getfield 9, 3), (31, .iload_n 2, 1), (32, .aload_n 0, 1), (33, .getfield 22, 3), (36, .aload_n 1, 1), (37, .iload_n 2, 1), (38, .invokevirtual 42, 3), (41, .bastore, 1), (42, .iinc 2 1, 3), (45, .goto (-26), 3), (48, .return_, 1)]
theorem tb_130_ok : (tb_130.all fun e => decide (decode cX10_begin e.1 = .ok e.2)) = true := by decide +kernel

set_option maxRecDepth 100000 in
def tb_131 : List (Nat × Instr × Nat) := [(0, .iconst (-1), 1), (1, .istore_n 1, 1), (2, .iconst 0, 1), (3, .istore_n 2, 1), (4, .iload_n 2, 1), (5, .aload_n 0, 1), (6, .getfield 39, 3), (9, .if_icmp .gt 28, 3), (12, .aload_n 0, 1), (13, .getfield 9, 3), (16, .iload_n 2, 1), (17, .baload, 1), (18, .ifCond .eq 13, 3), (21, .iload_n 2, 1), (22, .iload_n 1, 1), (23, .invokestatic 46, 3), (26, .ifCond .eq 5, 3), (29, .iload_n 2, 1), (30, .istore_n 1, 1), (31, .iinc 2 1, 3), (34, .goto (-30), 3), (37, .iload_n 1, 1), (38, .ireturn, 1)]
theorem tb_131_ok : (tb_131.all fun e => decide (decode cX10_fewest e.1 = .ok e.2)) = true := by decide +kernel

set_option maxRecDepth 100000 in
def tb_132 : List (Nat × Instr × Nat) := [(0, .iload_n 1, 1), (1, .iconst (-1), 1), (2, .if_icmp .eq 14, 3), (5, .iload_n 0, 1), (6, .invokestatic 50, 3), (9, .iload_n 1, 1), (10, .invokestatic 50, 3), (13, .if_icmp .ge 7, 3), (16, .iconst 1, 1), (17, .goto 4, 3), (20, .iconst 0, 1), (21, .ireturn, 1)]
theorem tb_132_ok : (tb_132.all fun e => decide (decode cX10_isFewer e.1 = .ok e.2)) = true := by decide +kernel

set_option maxRecDepth 100000 in
def tb_133 : List (Nat × Instr × Nat) := [(0, .iconst (-1), 1), (1, .istore_n 1, 1), (2, .iconst 0, 1), (3, .istore_n 2, 1), (4, .iload_n 2, 1), (5, .aload_n 0, 1), (6, .getfield 39, 3), (9, .if_icmp .gt 44, 3), (12, .aload_n 0, 1), (13, .getfield 9, 3), (16, .iload_n 2, 1), (17, .baload, 1), (18, .ifCond .eq 29, 3), (21, .iload_n 1, 1), (22, .iconst (-1), 1), (23, .if_icmp .eq 22, 3), (26, .aload_n 0, 1), (27, .getfield 32, 3), (30, .iload_n 2, 1), (31, .invokevirtual 56, 3), (34, .aload_n 0, 1), (35, .getfield 32, 3), (38, .iload_n 1, 1), (39, .invokevirtual 56, 3), (42, .if_icmp .ge 5, 3), (45, .iload_n 2, 1), (46, .istore_n 1, 1), (47, .iinc 2 1, 3), (50, .goto (-46), 3), (53, .iload_n 1, 1), (54, .ireturn, 1)]
theorem tb_133_ok : (tb_133.all fun e => decide (decode cX10_lightest e.1 = .ok e.2)) = true := by decide +kernel

set_option maxRecDepth 100000 in
def tb_134 : List (Nat × Instr × Nat) := [(0, .aload_n 0, 1), (1, .invokevirtual 59, 3), (4, .istore_n 1, 1), (5, .iload_n 1, 1), (6, .iconst (-1), 1), (7, .if_icmp .ne 7, 3), (10, .iconst (-1), 1), (11, .goto 11, 3), (14, .aload_n 0, 1), (15, .getfield 32, 3), (18, .iload_n 1, 1), (19, .invokevirtual 56, 3), (22, .ireturn, 1)]
theorem tb_134_ok : (tb_134.all fun e => decide (decode cX10_lightestOunces e.1 = .ok e.2)) = true := by decide +kernel

set_option maxRecDepth 100000 in
def tb_135 : List (Nat × Instr × Nat) := [(0, .aload_n 0, 1), (1, .getfield 15, 3), (4, .iconst 0, 1), (5, .iconst 0, 1), (6, .iastore, 1), (7, .iconst 1, 1), (8, .istore_n 1, 1), (9, .iload_n 1, 1), (10, .aload_n 0, 1), (11, .getfield 39, 3), (14, .if_icmp .gt 62, 3), (17, .iconst 0, 1), (18, .istore_n 2, 1), (19, .iconst 1, 1), (20, .istore_n 3, 1), (21, .iload_n 3, 1), (22, .iload_n 1, 1), (23, .if_icmp .gt 40, 3), (26, .iload_n 3, 1), (27, .iload_n 1, 1), (28, .iand, 1), (29, .iload_n 3, 1), (30, .if_icmp .ne 27, 3), (33, .aload_n 0, 1), (34, .getfield 9, 3), (37, .iload_n 3, 1), (38, .baload, 1), (39, .ifCond .eq 18, 3), (42, .iload_n 2, 1), (43, .iconst 1, 1), (44, .aload_n 0, 1), (45, .getfield 15, 3), (48, .iload_n 1, 1), (49, .iload_n 3, 1), (50, .ixor, 1), (51, .iaload, 1), (52, .iadd, 1), (53, .invokestatic 63, 3), (56, .istore_n 2, 1), (57, .iinc 3 1, 3), (60, .goto (-39), 3), (63, .aload_n 0, 1), (64, .getfield 15, 3), (67, .iload_n 1, 1), (68, .iload_n 2, 1), (69, .iastore, 1), (70, .iinc 1 1, 3), (73, .goto (-64), 3), (76, .aload_n 0, 1), (77, .getfield 15, 3), (80, .aload_n 0, 1), (81, .getfield 39, 3), (84, .iaload, 1), (85, .ireturn, 1)]
theorem tb_135_ok : (tb_135.all fun e => decide (decode cX10_mostTrams e.1 = .ok e.2)) = true := by decide +kernel

set_option maxRecDepth 100000 in
def tb_136 : List (Nat × Instr × Nat) := [(0, .aload_n 0, 1), (1, .getfield 39, 3), (4, .istore_n 1, 1), (5, .iconst 0, 1), (6, .istore_n 2, 1), (7, .iload_n 2, 1), (8, .aload_n 0, 1), (9, .getfield 39, 3), (12, .if_icmp .gt 22, 3), (15, .aload_n 0, 1), (16, .getfield 9, 3), (19, .iload_n 2, 1), (20, .baload, 1), (21, .ifCond .eq 7, 3), (24, .iload_n 1, 1), (25, .iload_n 2, 1), (26, .iand, 1), (27, .istore_n 1, 1), (28, .iinc 2 1, 3), (31, .goto (-24), 3), (34, .iload_n 1, 1), (35, .ireturn, 1)]
theorem tb_136_ok : (tb_136.all fun e => decide (decode cX10_needed e.1 = .ok e.2)) = true := by decide +kernel

set_option maxRecDepth 100000 in
def tb_137 : List (Nat × Instr × Nat) := [(0, .iconst 0, 1), (1, .istore_n 1, 1), (2, .iconst 0, 1), (3, .istore_n 2, 1), (4, .iload_n 2, 1), (5, .aload_n 0, 1), (6, .getfield 39, 3), (9, .if_icmp .gt 21, 3), (12, .aload_n 0, 1), (13, .getfield 9, 3), (16, .iload_n 2, 1), (17, .baload, 1), (18, .ifCond .eq 6, 3), (21, .iinc 1 1, 3), (24, .iinc 2 1, 3), (27, .goto (-23), 3), (30, .iload_n 1, 1), (31, .ireturn, 1)]
theorem tb_137_ok : (tb_137.all fun e => decide (decode cX10_howManyUp e.1 = .ok e.2)) = true := by decide +kernel

set_option maxRecDepth 100000 in
def tb_138 : List (Nat × Instr × Nat) := [(0, .aload_n 0, 1), (1, .invokevirtual 69, 3), (4, .iconst (-1), 1), (5, .istore_n 1, 1), (6, .iconst 0, 1), (7, .istore_n 2, 1), (8, .iload_n 2, 1), (9, .aload_n 0, 1), (10, .getfield 32, 3), (13, .getfield 72, 3), (16, .if_icmp .ge 35, 3), (19, .aload_n 0, 1), (20, .getfield 19, 3), (23, .iload_n 2, 1), (24, .iaload, 1), (25, .iload_n 1, 1), (26, .iconst (-1), 1), (27, .if_icmp .ne 7, 3), (30, .iconst 0, 1), (31, .goto 9, 3), (34, .aload_n 0, 1), (35, .getfield 19, 3), (38, .iload_n 1, 1), (39, .iaload, 1), (40, .if_icmp .le 5, 3), (43, .iload_n 2, 1), (44, .istore_n 1, 1), (45, .iinc 2 1, 3), (48, .goto (-40), 3), (51, .iload_n 1, 1), (52, .ireturn, 1)]
theorem tb_138_ok : (tb_138.all fun e => decide (decode cX10_worstHill e.1 = .ok e.2)) = true := by decide +kernel

set_option maxRecDepth 100000 in
def tb_139 : List (Nat × Instr × Nat) := [(0, .aload_n 0, 1), (1, .invokevirtual 75, 3), (4, .istore_n 1, 1), (5, .iload_n 1, 1), (6, .iconst (-1), 1), (7, .if_icmp .ne 7, 3), (10, .iconst (-1), 1), (11, .goto 9, 3), (14, .aload_n 0, 1), (15, .getfield 19, 3), (18, .iload_n 1, 1), (19, .iaload, 1), (20, .ireturn, 1)]
theorem tb_139_ok : (tb_139.all fun e => decide (decode cX10_stalledAtWorst e.1 = .ok e.2)) = true := by decide +kernel

set_option maxRecDepth 100000 in
def tb_140 : List (Nat × Instr × Nat) := [(0, .aload_n 0, 1), (1, .getfield 19, 3), (4, .iconst 0, 1), (5, .invokestatic 78, 3), (8, .iconst 0, 1), (9, .istore_n 1, 1), (10, .iload_n 1, 1), (11, .aload_n 0, 1), (12, .getfield 39, 3), (15, .if_icmp .gt 66, 3), (18, .aload_n 0, 1), (19, .getfield 32, 3), (22, .iload_n 1, 1), (23, .invokevirtual 82, 3), (26, .ifCond .eq 49, 3), (29, .aload_n 0, 1), (30, .getfield 22, 3), (33, .aload_n 0, 1), (34, .getfield 32, 3), (37, .invokevirtual 86, 3), (40, .aload_n 0, 1), (41, .getfield 22, 3), (44, .iload_n 1, 1), (45, .iconst 0, 1), (46, .invokevirtual 90, 3), (49, .istore_n 2, 1), (50, .iload_n 2, 1), (51, .ifCond .lt 24, 3), (54, .iload_n 2, 1), (55, .aload_n 0, 1), (56, .getfield 32, 3), (59, .getfield 72, 3), (62, .if_icmp .ge 13, 3), (65, .aload_n 0, 1), (66, .getfield 19, 3), (69, .iload_n 2, 1), (70, .dup2, 1), (71, .iaload, 1), (72, .iconst 1, 1), (73, .iadd, 1), (74, .iastore, 1), (75, .iinc 1 1, 3), (78, .goto (-68), 3), (81, .return_, 1)]
theorem tb_140_ok : (tb_140.all fun e => decide (decode cX10_countStalled e.1 = .ok e.2)) = true := by decide +kernel

set_option maxRecDepth 100000 in
def tb_141 : List (Nat × Instr × Nat) := [(0, .iconst (-1), 1), (1, .istore_n 3, 1), (2, .aload_n 0, 1), (3, .getfield 22, 3), (6, .aload_n 1, 1), (7, .invokevirtual 86, 3), (10, .iconst 0, 1), (11, .istore 4, 2), (13, .iload 4, 2), (15, .iconst 1, 1), (16, .aload_n 1, 1), (17, .getfield 33, 3), (20, .ishl, 1), (21, .if_icmp .ge 43, 3), (24, .aload_n 1, 1), (25, .iload 4, 2), (27, .invokevirtual 82, 3), (30, .ifCond .eq 28, 3), (33, .aload_n 0, 1), (34, .getfield 22, 3), (37, .iload 4, 2), (39, .invokevirtual 93, 3), (42, .iload_n 2, 1), (43, .if_icmp .lt 15, 3), (46, .iload 4, 2), (48, .iload_n 3, 1), (49, .invokestatic 46, 3), (52, .ifCond .eq 6, 3), (55, .iload 4, 2), (57, .istore_n 3, 1), (58, .iinc 4 1, 3), (61, .goto (-48), 3), (64, .iload_n 3, 1), (65, .ireturn, 1)]
theorem tb_141_ok : (tb_141.all fun e => decide (decode cX10_fewestAgainst e.1 = .ok e.2)) = true := by decide +kernel

set_option maxRecDepth 100000 in
def tb_142 : List (Nat × Instr × Nat) := [(0, .iconst (-1), 1), (1, .istore_n 1, 1), (2, .iconst 1, 1), (3, .istore_n 2, 1), (4, .iload_n 2, 1), (5, .aload_n 0, 1), (6, .getfield 39, 3), (9, .if_icmp .ge 52, 3), (12, .aload_n 0, 1), (13, .getfield 9, 3), (16, .iload_n 2, 1), (17, .baload, 1), (18, .ifCond .eq 37, 3), (21, .aload_n 0, 1), (22, .getfield 9, 3), (25, .aload_n 0, 1), (26, .getfield 39, 3), (29, .iload_n 2, 1), (30, .ixor, 1), (31, .baload, 1), (32, .ifCond .eq 23, 3), (35, .iload_n 1, 1), (36, .iconst (-1), 1), (37, .if_icmp .eq 16, 3), (40, .aload_n 0, 1), (41, .iload_n 2, 1), (42, .invokevirtual 96, 3), (45, .aload_n 0, 1), (46, .iload_n 1, 1), (47, .invokevirtual 96, 3), (50, .if_icmp .ge 5, 3), (53, .iload_n 2, 1), (54, .istore_n 1, 1), (55, .iinc 2 2, 3), (58, .goto (-54), 3), (61, .iload_n 1, 1), (62, .ireturn, 1)]
theorem tb_142_ok : (tb_142.all fun e => decide (decode cX10_evenestHalf e.1 = .ok e.2)) = true := by decide +kernel

set_option maxRecDepth 100000 in
def tb_143 : List (Nat × Instr × Nat) := [(0, .aload_n 0, 1), (1, .getfield 32, 3), (4, .iload_n 1, 1), (5, .invokevirtual 56, 3), (8, .aload_n 0, 1), (9, .getfield 32, 3), (12, .aload_n 0, 1), (13, .getfield 39, 3), (16, .iload_n 1, 1), (17, .ixor, 1), (18, .invokevirtual 56, 3), (21, .isub, 1), (22, .invokestatic 99, 3), (25, .ireturn, 1)]
theorem tb_143_ok : (tb_143.all fun e => decide (decode cX10_difference e.1 = .ok e.2)) = true := by decide +kernel

set_option maxRecDepth 100000 in
def tb_144 : List (Nat × Instr × Nat) := [(0, .aload_n 0, 1), (1, .invokespecial 1, 3), (4, .aload_n 0, 1), (5, .new 7, 3), (8, .dup, 1), (9, .invokespecial 9, 3), (12, .putfield 10, 3), (15, .aload_n 0, 1), (16, .iconst 3, 1), (17, .anewarray 7, 3), (20, .putfield 16, 3), (23, .aload_n 0, 1), (24, .new 20, 3), (27, .dup, 1), (28, .invokespecial 22, 3), (31, .putfield 23, 3), (34, .aload_n 0, 1), (35, .new 27, 3), (38, .dup, 1), (39, .aload_n 0, 1), (40, .getfield 23, 3), (43, .getfield 29, 3), (46, .invokespecial 33, 3), (49, .putfield 36, 3), (52, .aload_n 0, 1), (53, .new 40, 3), (56, .dup, 1), (57, .aload_n 0, 1), (58, .getfield 23, 3), (61, .getfield 29, 3), (64, .invokespecial 42, 3), (67, .putfield 43, 3), (70, .aload_n 0, 1), (71, .new 47, 3), (74, .dup, 1), (75, .aload_n 0, 1), (76, .getfield 43, 3), (79, .invokespecial 49, 3), (82, .putfield 52, 3), (85, .aload_n 0, 1), (86, .new 56, 3), (89, .dup, 1), (90, .invokespecial 58, 3), (93, .putfield 59, 3), (96, .aload_n 0, 1), (97, .new 63, 3), (100, .dup, 1), (101, .invokespecial 65, 3), (104, .putfield 66, 3), (107, .return_, 1)]
theorem tb_144_ok : (tb_144.all fun e => decide (decode cX11_init e.1 = .ok e.2)) = true := by decide +kernel

set_option maxRecDepth 100000 in
def tb_145 : List (Nat × Instr × Nat) := [(0, .aload_n 0, 1), (1, .getfield 10, 3), (4, .getfield 70, 3), (7, .sipush 580, 3), (10, .if_icmp .le 5, 3), (13, .iconst (-1), 1), (14, .ireturn, 1), (15, .aload_n 0, 1), (16, .getfield 10, 3), (19, .iload_n 1, 1), (20, .invokevirtual 74, 3), (23, .aload_n 0, 1), (24, .getfield 10, 3), (27, .iload_n 2, 1), (28, .invokevirtual 74, 3), (31, .aload_n 0, 1), (32, .getfield 10, 3), (35, .iload_n 3, 1), (36, .invokevirtual 74, 3), (39, .aload_n 0, 1), (40, .getfield 10, 3), (43, .iload 4, 2), (45, .invokevirtual 74, 3), (48, .aload_n 0, 1), (49, .getfield 10, 3), (52, .iload 5, 2), (54, .invokevirtual 74, 3), (57, .aload_n 0, 1), (58, .getfield 10, 3), (61, .getfield 70, 3), (64, .ireturn, 1)]
theorem tb_145_ok : (tb_145.all fun e => decide (decode cX11_feed e.1 = .ok e.2)) = true := by decide +kernel

set_option maxRecDepth 100000 in
def tb_146 : List (Nat × Instr × Nat) := [(0, .iload_n 1, 1), (1, .ifCond .lt 14, 3), (4, .iload_n 1, 1), (5, .aload_n 0, 1), (6, .getfield 10, 3), (9, .getfield 70, 3), (12, .if_icmp .le 5, 3), (15, .iconst (-1), 1), (16, .ireturn, 1), (17, .aload_n 0, 1), (18, .getfield 10, 3), (21, .iload_n 1, 1), (22, .putfield 70, 3), (25, .iload_n 1, 1), (26, .ireturn, 1)]
theorem tb_146_ok : (tb_146.all fun e => decide (decode cX11_end e.1 = .ok e.2)) = true := by decide +kernel

set_option maxRecDepth 100000 in
def tb_147 : List (Nat × Instr × Nat) := [(0, .aload_n 0, 1), (1, .getfield 10, 3), (4, .getfield 70, 3), (7, .istore_n 3, 1), (8, .aload_n 0, 1), (9, .getfield 10, 3), (12, .iconst 0, 1), (13, .putfield 70, 3), (16, .aload_n 0, 1), (17, .getfield 10, 3), (20, .iconst 0, 1), (21, .putfield 78, 3), (24, .aload_n 0, 1), (25, .getfield 10, 3), (28, .iconst (-1), 1), (29, .putfield 81, 3), (32, .aload_n 0, 1), (33, .getfield 10, 3), (36, .iload_n 1, 1), (37, .iload_n 2, 1), (38, .invokevirtual 84, 3), (41, .ifCond .ne 6, 3), (44, .bipush (-2), 2), (46, .ireturn, 1), (47, .aload_n 0, 1), (48, .getfield 23, 3), (51, .aload_n 0, 1), (52, .getfield 10, 3), (55, .getfield 88, 3), (58, .iload_n 3, 1), (59, .iload_n 1, 1), (60, .invokevirtual 92, 3), (63, .aload_n 0, 1), (64, .getfield 10, 3), (67, .aload_n 0, 1), (68, .getfield 23, 3), (71, .getfield 96, 3), (74, .putfield 78, 3), (77, .aload_n 0, 1), (78, .getfield 10, 3), (81, .aload_n 0, 1), (82, .getfield 23, 3), (85, .getfield 97, 3), (88, .putfield 81, 3), (91, .aload_n 0, 1), (92, .getfield 23, 3), (95, .getfield 96, 3), (98, .ifCond .eq 5, 3), (101, .iconst (-1), 1), (102, .ireturn, 1), (103, .iload_n 2, 1), (104, .iconst (-1), 1), (105, .if_icmp .ne 15, 3), (108, .aload_n 0, 1), (109, .getfield 10, 3), (112, .getfield 98, 3), (115, .iload_n 1, 1), (116, .iaload, 1), (117, .goto 4, 3), (120, .iload_n 2, 1), (121, .istore 4, 2), (123, .aload_n 0, 1), (124, .getfield 10, 3), (127, .iload_n 1, 1), (128, .iload 4, 2), (130, .aload_n 0, 1), (131, .getfield 23, 3), (134, .invokevirtual 102, 3), (137, .iload 4, 2), (139, .ireturn, 1)]
theorem tb_147_ok : (tb_147.all fun e => decide (decode cX11_text e.1 = .ok e.2)) = true := by decide +kernel

set_option maxRecDepth 100000 in
def tb_148 : List (Nat × Instr × Nat) := [(0, .iload_n 1, 1), (1, .lookupswitch 43 #[(0, 27), (1, 35)], 27), (28, .aload_n 0, 1), (29, .getfield 10, 3), (32, .getfield 78, 3), (35, .ireturn, 1), (36, .aload_n 0, 1), (37, .getfield 10, 3), (40, .getfield 81, 3), (43, .ireturn, 1), (44, .iconst (-1), 1), (45, .ireturn, 1)]
theorem tb_148_ok : (tb_148.all fun e => decide (decode cX11_fault e.1 = .ok e.2)) = true := by decide +kernel

set_option maxRecDepth 100000 in
def tb_149 : List (Nat × Instr × Nat) := [(0, .iload_n 1, 1), (1, .ifCond .lt 20, 3), (4, .iload_n 1, 1), (5, .iconst 4, 1), (6, .if_icmp .ge 15, 3), (9, .aload_n 0, 1), (10, .getfield 10, 3), (13, .getfield 98, 3), (16, .iload_n 1, 1), (17, .iaload, 1), (18, .goto 5, 3), (21, .bipush (-2), 2), (23, .ireturn, 1)]
theorem tb_149_ok : (tb_149.all fun e => decide (decode cX11_count e.1 = .ok e.2)) = true := by decide +kernel

set_option maxRecDepth 100000 in
def tb_150 : List (Nat × Instr × Nat) := [(0, .iload_n 1, 1), (1, .ifCond .lt 8, 3), (4, .iload_n 1, 1), (5, .iconst 3, 1), (6, .if_icmp .lt 5, 3), (9, .iconst 0, 1), (10, .ireturn, 1), (11, .aload_n 0, 1), (12, .getfield 16, 3), (15, .iload_n 1, 1), (16, .aaload, 1), (17, .ifnonnull 16, 3), (20, .aload_n 0, 1), (21, .getfield 16, 3), (24, .iload_n 1, 1), (25, .new 7, 3), (28, .dup, 1), (29, .invokespecial 9, 3), (32, .aastore, 1), (33, .aload_n 0, 1), (34, .getfield 16, 3), (37, .iload_n 1, 1), (38, .aaload, 1), (39, .aload_n 0, 1), (40, .getfield 10, 3), (43, .invokevirtual 106, 3), (46, .iconst 1, 1), (47, .ireturn, 1)]
theorem tb_150_ok : (tb_150.all fun e => decide (decode cX11_image e.1 = .ok e.2)) = true := by decide +kernel

set_option maxRecDepth 100000 in
def tb_151 : List (Nat × Instr × Nat) := [(0, .iload_n 1, 1), (1, .ifCond .lt 17, 3), (4, .iload_n 1, 1), (5, .iconst 3, 1), (6, .if_icmp .ge 12, 3), (9, .aload_n 0, 1), (10, .getfield 16, 3), (13, .iload_n 1, 1), (14, .aaload, 1), (15, .ifnonnull 5, 3), (18, .iconst 0, 1), (19, .ireturn, 1), (20, .aload_n 0, 1), (21, .getfield 10, 3), (24, .aload_n 0, 1), (25, .getfield 16, 3), (28, .iload_n 1, 1), (29, .aaload, 1), (30, .invokevirtual 106, 3), (33, .iconst 1, 1), (34, .ireturn, 1)]
theorem tb_151_ok : (tb_151.all fun e => decide (decode cX11_again e.1 = .ok e.2)) = true := by decide +kernel

set_option maxRecDepth 100000 in
def tb_152 : List (Nat × Instr × Nat) := [(0, .aload_n 0, 1), (1, .iload_n 1, 1), (2, .invokevirtual 110, 3), (5, .astore_n 3, 1), (6, .aload_n 3, 1), (7, .ifnonnull 7, 3), (10, .iconst (-1), 1), (11, .goto 8, 3), (14, .aload_n 3, 1), (15, .iload_n 2, 1), (16, .invokevirtual 114, 3), (19, .ireturn, 1)]
theorem tb_152_ok : (tb_152.all fun e => decide (decode cX11_line e.1 = .ok e.2)) = true := by decide +kernel

set_option maxRecDepth 100000 in
def tb_153 : List (Nat × Instr × Nat) := [(0, .aload_n 0, 1), (1, .iload_n 1, 1), (2, .invokevirtual 120, 3), (5, .astore 4, 2), (7, .aload 4, 2), (9, .ifnonnull 8, 3), (12, .bipush (-2), 2), (14, .goto 10, 3), (17, .aload 4, 2), (19, .iload_n 2, 1), (20, .iload_n 3, 1), (21, .invokevirtual 124, 3), (24, .ireturn, 1)]
theorem tb_153_ok : (tb_153.all fun e => decide (decode cX11_deed e.1 = .ok e.2)) = true := by decide +kernel

set_option maxRecDepth 100000 in
def tb_154 : List (Nat × Instr × Nat) := [(0, .aload_n 0, 1), (1, .iload_n 1, 1), (2, .invokevirtual 110, 3), (5, .astore_n 3, 1), (6, .aload_n 0, 1), (7, .iload_n 2, 1), (8, .invokevirtual 120, 3), (11, .astore 4, 2), (13, .aload_n 3, 1), (14, .ifnull 8, 3), (17, .aload 4, 2), (19, .ifnonnull 5, 3), (22, .iconst (-1), 1), (23, .ireturn, 1), (24, .aload_n 0, 1), (25, .getfield 36, 3), (28, .aload_n 3, 1), (29, .invokevirtual 129, 3), (32, .aload_n 0, 1), (33, .getfield 36, 3), (36, .aload 4, 2), (38, .aload 4, 2), (40, .getfield 132, 3), (43, .invokevirtual 135, 3), (46, .ireturn, 1)]
theorem tb_154_ok : (tb_154.all fun e => decide (decode cX11_stop e.1 = .ok e.2)) = true := by decide +kernel

set_option maxRecDepth 100000 in
def tb_155 : List (Nat × Instr × Nat) := [(0, .aload_n 0, 1), (1, .iload_n 1, 1), (2, .invokevirtual 110, 3), (5, .astore 5, 2), (7, .aload_n 0, 1), (8, .iload_n 2, 1), (9, .invokevirtual 120, 3), (12, .astore 6, 2), (14, .aload 5, 2), (16, .ifnull 21, 3), (19, .aload 6, 2), (21, .ifnull 16, 3), (24, .iload_n 3, 1), (25, .ifCond .lt 12, 3), (28, .iload_n 3, 1), (29, .aload 6, 2), (31, .getfield 132, 3), (34, .if_icmp .le 6, 3), (37, .bipush (-2), 2), (39, .ireturn, 1), (40, .aload_n 0, 1), (41, .getfield 36, 3), (44, .aload 5, 2), (46, .invokevirtual 129, 3), (49, .aload_n 0, 1), (50, .getfield 36, 3), (53, .aload 6, 2), (55, .iload_n 3, 1), (56, .invokevirtual 135, 3), (59, .iload_n 3, 1), (60, .if_icmp .ge 8, 3), (63, .bipush (-2), 2), (65, .goto 12, 3), (68, .aload_n 0, 1), (69, .getfield 36, 3), (72, .iload 4, 2), (74, .invokevirtual 139, 3), (77, .ireturn, 1)]
theorem tb_155_ok : (tb_155.all fun e => decide (decode cX11_state e.1 = .ok e.2)) = true := by decide +kernel

set_option maxRecDepth 100000 in
def tb_156 : List (Nat × Instr × Nat) := [(0, .aload_n 0, 1), (1, .iload_n 1, 1), (2, .invokevirtual 110, 3), (5, .astore 5, 2), (7, .aload 5, 2), (9, .ifnull 21, 3), (12, .aload 5, 2), (14, .getfield 140, 3), (17, .ifCond .eq 13, 3), (20, .iload_n 3, 1), (21, .ifCond .lt 9, 3), (24, .iload_n 3, 1), (25, .bipush 60, 2), (27, .if_icmp .le 6, 3), (30, .bipush (-2), 2), (32, .ireturn, 1), (33, .aload_n 0, 1), (34, .getfield 36, 3), (37, .aload 5, 2), (39, .invokevirtual 129, 3), (42, .aload_n 0, 1), (43, .getfield 36, 3), (46, .iload_n 2, 1), (47, .iload_n 3, 1), (48, .invokevirtual 143, 3), (51, .aload_n 0, 1), (52, .getfield 36, 3), (55, .iload 4, 2), (57, .invokevirtual 139, 3), (60, .ireturn, 1)]
theorem tb_156_ok : (tb_156.all fun e => decide (decode cX11_drawn e.1 = .ok e.2)) = true := by decide +kernel

set_option maxRecDepth 100000 in
def tb_157 : List (Nat × Instr × Nat) := [(0, .aload_n 0, 1), (1, .iload_n 1, 1), (2, .invokevirtual 110, 3), (5, .astore 5, 2), (7, .aload 5, 2), (9, .ifnull 21, 3), (12, .iload_n 2, 1), (13, .ifCond .lt 17, 3), (16, .iload_n 3, 1), (17, .iload_n 2, 1), (18, .if_icmp .le 12, 3), (21, .iload_n 3, 1), (22, .aload 5, 2), (24, .getfield 147, 3), (27, .if_icmp .le 5, 3), (30, .iconst (-1), 1), (31, .ireturn, 1), (32, .iload 4, 2), (34, .tableswitch 58 0 2 #[26, 38, 50], 26), (60, .aload 5, 2), (62, .iload_n 3, 1), (63, .iload_n 2, 1), (64, .isub, 1), (65, .invokevirtual 150, 3), (68, .bipush 16, 2), (70, .idiv, 1), (71, .ireturn, 1), (72, .aload 5, 2), (74, .iload_n 3, 1), (75, .iload_n 2, 1), (76, .isub, 1), (77, .invokevirtual 150, 3), (80, .bipush 16, 2), (82, .irem, 1), (83, .ireturn, 1), (84, .aload 5, 2), (86, .iload_n 2, 1), (87, .iload_n 3, 1), (88, .invokevirtual 153, 3), (91, .ireturn, 1), (92, .iconst (-1), 1), (93, .ireturn, 1)]
theorem tb_157_ok : (tb_157.all fun e => decide (decode cX11_fare e.1 = .ok e.2)) = true := by decide +kernel

set_option maxRecDepth 100000 in
def tb_158 : List (Nat × Instr × Nat) := [(0, .aload_n 0, 1), (1, .iload_n 1, 1), (2, .invokevirtual 110, 3), (5, .astore_n 3, 1), (6, .aload_n 3, 1), (7, .ifnonnull 7, 3), (10, .iconst (-1), 1), (11, .goto 8, 3), (14, .aload_n 3, 1), (15, .iload_n 2, 1), (16, .invokevirtual 156, 3), (19, .ireturn, 1)]
theorem tb_158_ok : (tb_158.all fun e => decide (decode cX11_route e.1 = .ok e.2)) = true := by decide +kernel

set_option maxRecDepth 100000 in
def tb_159 : List (Nat × Instr × Nat) := [(0, .aload_n 0, 1), (1, .iload_n 1, 1), (2, .invokevirtual 110, 3), (5, .astore 4, 2), (7, .aload 4, 2), (9, .ifnull 25, 3), (12, .aload 4, 2), (14, .iload_n 2, 1), (15, .invokevirtual 159, 3), (18, .ifCond .eq 16, 3), (21, .iload_n 3, 1), (22, .ifCond .lt 12, 3), (25, .iload_n 3, 1), (26, .aload 4, 2), (28, .getfield 147, 3), (31, .if_icmp .le 5, 3), (34, .iconst (-1), 1), (35, .ireturn, 1), (36, .aload_n 0, 1), (37, .getfield 43, 3), (40, .aload 4, 2), (42, .invokevirtual 163, 3), (45, .aload_n 0, 1), (46, .getfield 43, 3), (49, .iload_n 2, 1), (50, .iload_n 3, 1), (51, .invokevirtual 164, 3), (54, .ireturn, 1)]
theorem tb_159_ok : (tb_159.all fun e => decide (decode cX11_comes e.1 = .ok e.2)) = true := by decide +kernel

set_option maxRecDepth 100000 in
def tb_160 : List (Nat × Instr × Nat) := [(0, .aload_n 0, 1), (1, .iload_n 1, 1), (2, .invokevirtual 110, 3), (5, .astore 4, 2), (7, .aload 4, 2), (9, .ifnull 12, 3), (12, .aload 4, 2), (14, .iload_n 2, 1), (15, .invokevirtual 159, 3), (18, .ifCond .ne 6, 3), (21, .bipush (-2), 2), (23, .ireturn, 1), (24, .iload_n 3, 1), (25, .iconst (-1), 1), (26, .if_icmp .ne 14, 3), (29, .aload_n 0, 1), (30, .getfield 43, 3), (33, .aload 4, 2), (35, .iload_n 2, 1), (36, .invokevirtual 167, 3), (39, .ireturn, 1), (40, .iload_n 3, 1), (41, .ifCond .lt 20, 3), (44, .iload_n 3, 1), (45, .aload 4, 2), (47, .getfield 140, 3), (50, .if_icmp .ge 11, 3), (53, .iload_n 2, 1), (54, .iload_n 3, 1), (55, .invokestatic 171, 3), (58, .ifCond .ne 6, 3), (61, .bipush (-2), 2), (63, .ireturn, 1), (64, .aload_n 0, 1), (65, .getfield 43, 3), (68, .aload 4, 2), (70, .iload_n 2, 1), (71, .iload_n 3, 1), (72, .invokevirtual 174, 3), (75, .ireturn, 1)]
theorem tb_160_ok : (tb_160.all fun e => decide (decode cX11_bears e.1 = .ok e.2)) = true := by decide +kernel

set_option maxRecDepth 100000 in
def tb_161 : List (Nat × Instr × Nat) := [(0, .aload_n 0, 1), (1, .iload_n 1, 1), (2, .iload_n 2, 1), (3, .invokevirtual 178, 3), (6, .astore_n 3, 1), (7, .aload_n 3, 1), (8, .ifnonnull 7, 3), (11, .iconst (-1), 1), (12, .goto 13, 3), (15, .aload_n 0, 1), (16, .getfield 43, 3), (19, .aload_n 3, 1), (20, .iload_n 2, 1), (21, .iload_n 2, 1), (22, .invokevirtual 182, 3), (25, .ireturn, 1)]
theorem tb_161_ok : (tb_161.all fun e => decide (decode cX11_rounds e.1 = .ok e.2)) = true := by decide +kernel

set_option maxRecDepth 100000 in
def tb_162 : List (Nat × Instr × Nat) := [(0, .aload_n 0, 1), (1, .iload_n 1, 1), (2, .iload_n 2, 1), (3, .invokevirtual 178, 3), (6, .astore 4, 2), (8, .aload 4, 2), (10, .ifnull 18, 3), (13, .aload 4, 2), (15, .iload_n 3, 1), (16, .invokevirtual 185, 3), (19, .ifCond .eq 9, 3), (22, .iload_n 2, 1), (23, .iload_n 3, 1), (24, .iand, 1), (25, .ifCond .eq 5, 3), (28, .iconst (-1), 1), (29, .ireturn, 1), (30, .aload_n 0, 1), (31, .getfield 43, 3), (34, .aload 4, 2), (36, .iload_n 2, 1), (37, .iload_n 3, 1), (38, .invokevirtual 182, 3), (41, .ireturn, 1)]
theorem tb_162_ok : (tb_162.all fun e => decide (decode cX11_byTurns e.1 = .ok e.2)) = true := by decide +kernel

set_option maxRecDepth 100000 in
def tb_163 : List (Nat × Instr × Nat) := [(0, .aload_n 0, 1), (1, .iload_n 1, 1), (2, .iload_n 2, 1), (3, .invokevirtual 178, 3), (6, .astore_n 3, 1), (7, .aload_n 3, 1), (8, .ifnonnull 7, 3), (11, .iconst (-1), 1), (12, .goto 12, 3), (15, .aload_n 0, 1), (16, .getfield 43, 3), (19, .aload_n 3, 1), (20, .iload_n 2, 1), (21, .invokevirtual 188, 3), (24, .ireturn, 1)]
theorem tb_163_ok : (tb_163.all fun e => decide (decode cX11_plea e.1 = .ok e.2)) = true := by decide +kernel

set_option maxRecDepth 100000 in
def tb_164 : List (Nat × Instr × Nat) := [(0, .aload_n 0, 1), (1, .iload_n 1, 1), (2, .iload_n 2, 1), (3, .invokevirtual 178, 3), (6, .astore_n 3, 1), (7, .aload_n 3, 1), (8, .ifnonnull 7, 3), (11, .iconst (-1), 1), (12, .goto 12, 3), (15, .aload_n 0, 1), (16, .getfield 43, 3), (19, .aload_n 3, 1), (20, .iload_n 2, 1), (21, .invokevirtual 191, 3), (24, .ireturn, 1)]
theorem tb_164_ok : (tb_164.all fun e => decide (decode cX11_news e.1 = .ok e.2)) = true := by decide +kernel

set_option maxRecDepth 100000 in
def tb_165 : List (Nat × Instr × Nat) := [(0, .aload_n 0, 1), (1, .iload_n 1, 1), (2, .iload_n 2, 1), (3, .invokevirtual 178, 3), (6, .astore_n 3, 1), (7, .aload_n 3, 1), (8, .ifnonnull 7, 3), (11, .iconst (-1), 1), (12, .goto 12, 3), (15, .aload_n 0, 1), (16, .getfield 43, 3), (19, .aload_n 3, 1), (20, .iload_n 2, 1), (21, .invokevirtual 194, 3), (24, .ireturn, 1)]
theorem tb_165_ok : (tb_165.all fun e => decide (decode cX11_spared e.1 = .ok e.2)) = true := by decide +kernel

set_option maxRecDepth 100000 in
def tb_166 : List (Nat × Instr × Nat) := [(0, .aload_n 0, 1), (1, .iload_n 1, 1), (2, .iload_n 2, 1), (3, .invokevirtual 178, 3), (6, .astore 4, 2), (8, .aload 4, 2), (10, .ifnonnull 7, 3), (13, .iconst (-1), 1), (14, .goto 14, 3), (17, .aload_n 0, 1), (18, .getfield 43, 3), (21, .aload 4, 2), (23, .iload_n 2, 1), (24, .iload_n 3, 1), (25, .invokevirtual 197, 3), (28, .ireturn, 1)]
theorem tb_166_ok : (tb_166.all fun e => decide (decode cX11_slack e.1 = .ok e.2)) = true := by decide +kernel

set_option maxRecDepth 100000 in
def tb_167 : List (Nat × Instr × Nat) := [(0, .aload_n 0, 1), (1, .iload_n 1, 1), (2, .iload_n 2, 1), (3, .invokevirtual 178, 3), (6, .astore_n 3, 1), (7, .aload_n 3, 1), (8, .ifnonnull 9, 3), (11, .ldc2_w 201, 3), (14, .goto 12, 3), (17, .aload_n 0, 1), (18, .getfield 43, 3), (21, .aload_n 3, 1), (22, .iload_n 2, 1), (23, .invokevirtual 203, 3), (26, .lreturn, 1)]
theorem tb_167_ok : (tb_167.all fun e => decide (decode cX11_orders e.1 = .ok e.2)) = true := by decide +kernel

set_option maxRecDepth 100000 in
def tb_168 : List (Nat × Instr × Nat) := [(0, .aload_n 0, 1), (1, .iload_n 1, 1), (2, .iload_n 2, 1), (3, .invokevirtual 178, 3), (6, .astore 5, 2), (8, .aload 5, 2), (10, .ifnull 17, 3), (13, .iload_n 2, 1), (14, .ifCond .eq 13, 3), (17, .iload_n 3, 1), (18, .ifCond .lt 9, 3), (21, .iload_n 3, 1), (22, .bipush 9, 2), (24, .if_icmp .le 5, 3), (27, .iconst (-1), 1), (28, .ireturn, 1), (29, .aload_n 0, 1), (30, .getfield 59, 3), (33, .aload 5, 2), (35, .iload_n 2, 1), (36, .iload_n 3, 1), (37, .invokevirtual 207, 3), (40, .aload_n 0, 1), (41, .getfield 59, 3), (44, .iload 4, 2), (46, .invokevirtual 211, 3), (49, .ireturn, 1)]
theorem tb_168_ok : (tb_168.all fun e => decide (decode cX11_calm e.1 = .ok e.2)) = true := by decide +kernel

set_option maxRecDepth 100000 in
def tb_169 : List (Nat × Instr × Nat) := [(0, .aload_n 0, 1), (1, .iload_n 1, 1), (2, .invokevirtual 110, 3), (5, .astore 4, 2), (7, .aload 4, 2), (9, .ifnull 25, 3), (12, .aload 4, 2), (14, .iload_n 2, 1), (15, .invokevirtual 159, 3), (18, .ifCond .eq 16, 3), (21, .iload_n 2, 1), (22, .ifCond .eq 12, 3), (25, .iload_n 2, 1), (26, .invokestatic 212, 3), (29, .iconst 2, 1), (30, .irem, 1), (31, .ifCond .eq 5, 3), (34, .iconst (-1), 1), (35, .ireturn, 1), (36, .aload_n 0, 1), (37, .getfield 59, 3), (40, .aload 4, 2), (42, .iload_n 2, 1), (43, .invokevirtual 217, 3), (46, .istore 5, 2), (48, .iload_n 3, 1), (49, .ifCond .eq 18, 3), (52, .aload_n 0, 1), (53, .getfield 59, 3), (56, .aload 4, 2), (58, .iload_n 2, 1), (59, .iload 5, 2), (61, .invokevirtual 220, 3), (64, .goto 5, 3), (67, .iload 5, 2), (69, .ireturn, 1)]
theorem tb_169_ok : (tb_169.all fun e => decide (decode cX11_couples e.1 = .ok e.2)) = true := by decide +kernel

set_option maxRecDepth 100000 in
def tb_170 : List (Nat × Instr × Nat) := [(0, .aload_n 0, 1), (1, .iload_n 1, 1), (2, .invokevirtual 110, 3), (5, .astore_n 3, 1), (6, .aload_n 3, 1), (7, .ifnull 12, 3), (10, .iload_n 2, 1), (11, .ifCond .lt 8, 3), (14, .iload_n 2, 1), (15, .iconst 4, 1), (16, .if_icmp .le 5, 3), (19, .iconst (-1), 1), (20, .ireturn, 1), (21, .aload_n 0, 1), (22, .getfield 52, 3), (25, .aload_n 3, 1), (26, .invokevirtual 223, 3), (29, .iload_n 2, 1), (30, .tableswitch 62 0 3 #[30, 38, 46, 54], 30), (60, .aload_n 0, 1), (61, .getfield 52, 3), (64, .invokevirtual 224, 3), (67, .ireturn, 1), (68, .aload_n 0, 1), (69, .getfield 52, 3), (72, .invokevirtual 228, 3), (75, .ireturn, 1), (76, .aload_n 0, 1), (77, .getfield 52, 3), (80, .invokevirtual 231, 3), (83, .ireturn, 1), (84, .aload_n 0, 1), (85, .getfield 52, 3), (88, .invokevirtual 234, 3), (91, .ireturn, 1), (92, .aload_n 0, 1), (93, .getfield 52, 3), (96, .invokevirtual 237, 3), (99, .ireturn, 1)]
theorem tb_170_ok : (tb_170.all fun e => decide (decode cX11_up e.1 = .ok e.2)) = true := by decide +kernel

set_option maxRecDepth 100000 in
def tb_171 : List (Nat × Instr × Nat) := [(0, .aload_n 0, 1), (1, .iload_n 1, 1), (2, .invokevirtual 110, 3), (5, .astore_n 3, 1), (6, .aload_n 3, 1), (7, .ifnull 15, 3), (10, .iload_n 2, 1), (11, .ifCond .lt 11, 3), (14, .iload_n 2, 1), (15, .aload_n 3, 1), (16, .getfield 147, 3), (19, .if_icmp .lt 5, 3), (22, .iconst (-1), 1), (23, .ireturn, 1), (24, .aload_n 0, 1), (25, .getfield 52, 3), (28, .aload_n 3, 1), (29, .aload_n 3, 1), (30, .getfield 240, 3), (33, .iload_n 2, 1), (34, .iaload, 1), (35, .invokevirtual 243, 3), (38, .ireturn, 1)]
theorem tb_171_ok : (tb_171.all fun e => decide (decode cX11_against e.1 = .ok e.2)) = true := by decide +kernel

set_option maxRecDepth 100000 in
def tb_172 : List (Nat × Instr × Nat) := [(0, .aload_n 0, 1), (1, .iload_n 1, 1), (2, .invokevirtual 110, 3), (5, .astore_n 3, 1), (6, .aload_n 3, 1), (7, .ifnull 12, 3), (10, .iload_n 2, 1), (11, .ifCond .lt 8, 3), (14, .iload_n 2, 1), (15, .iconst 2, 1), (16, .if_icmp .le 6, 3), (19, .bipush (-2), 2), (21, .ireturn, 1), (22, .aload_n 0, 1), (23, .getfield 52, 3), (26, .aload_n 3, 1), (27, .invokevirtual 223, 3), (30, .iload_n 2, 1), (31, .lookupswitch 41 #[(0, 25), (1, 33)], 25), (56, .aload_n 0, 1), (57, .getfield 52, 3), (60, .invokevirtual 246, 3), (63, .ireturn, 1), (64, .aload_n 0, 1), (65, .getfield 52, 3), (68, .invokevirtual 249, 3), (71, .ireturn, 1), (72, .aload_n 0, 1), (73, .getfield 52, 3), (76, .invokevirtual 252, 3), (79, .ireturn, 1)]
theorem tb_172_ok : (tb_172.all fun e => decide (decode cX11_sets e.1 = .ok e.2)) = true := by decide +kernel

set_option maxRecDepth 100000 in
def tb_173 : List (Nat × Instr × Nat) := [(0, .aload_n 0, 1), (1, .iload_n 1, 1), (2, .invokevirtual 110, 3), (5, .astore_n 3, 1), (6, .aload_n 3, 1), (7, .ifnonnull 5, 3), (10, .iconst (-1), 1), (11, .ireturn, 1), (12, .aload_n 0, 1), (13, .getfield 52, 3), (16, .aload_n 3, 1), (17, .invokevirtual 223, 3), (20, .aload_n 0, 1), (21, .getfield 52, 3), (24, .invokevirtual 255, 3), (27, .istore 4, 2), (29, .iload_n 2, 1), (30, .ifCond .ne 9, 3), (33, .iload 4, 2), (35, .iconst (-1), 1), (36, .if_icmp .ne 8, 3), (39, .iload 4, 2), (41, .goto 12, 3), (44, .aload_n 0, 1), (45, .getfield 52, 3), (48, .iload 4, 2), (50, .invokevirtual 258, 3), (53, .ireturn, 1)]
theorem tb_173_ok : (tb_173.all fun e => decide (decode cX11_halves e.1 = .ok e.2)) = true := by decide +kernel

set_option maxRecDepth 100000 in
def tb_174 : List (Nat × Instr × Nat) := [(0, .aload_n 0, 1), (1, .iload_n 1, 1), (2, .invokevirtual 261, 3), (5, .astore_n 3, 1), (6, .aload_n 3, 1), (7, .ifnonnull 7, 3), (10, .iconst (-1), 1), (11, .goto 8, 3), (14, .aload_n 3, 1), (15, .iload_n 2, 1), (16, .invokevirtual 265, 3), (19, .ireturn, 1)]
theorem tb_174_ok : (tb_174.all fun e => decide (decode cX11_flow e.1 = .ok e.2)) = true := by decide +kernel

set_option maxRecDepth 100000 in
def tb_175 : List (Nat × Instr × Nat) := [(0, .aload_n 0, 1), (1, .iload_n 1, 1), (2, .invokevirtual 261, 3), (5, .astore_n 3, 1), (6, .aload_n 3, 1), (7, .ifnonnull 5, 3), (10, .iconst (-1), 1), (11, .ireturn, 1), (12, .aload_n 3, 1), (13, .invokevirtual 268, 3), (16, .aload_n 3, 1), (17, .iload_n 2, 1), (18, .invokevirtual 271, 3), (21, .ireturn, 1)]
theorem tb_175_ok : (tb_175.all fun e => decide (decode cX11_leaves e.1 = .ok e.2)) = true := by decide +kernel

set_option maxRecDepth 100000 in
def tb_176 : List (Nat × Instr × Nat) := [(0, .aload_n 0, 1), (1, .iload_n 1, 1), (2, .invokevirtual 274, 3), (5, .astore 4, 2), (7, .aload 4, 2), (9, .ifnonnull 8, 3), (12, .bipush (-2), 2), (14, .goto 10, 3), (17, .aload 4, 2), (19, .iload_n 2, 1), (20, .iload_n 3, 1), (21, .invokevirtual 278, 3), (24, .ireturn, 1)]
theorem tb_176_ok : (tb_176.all fun e => decide (decode cX11_fact e.1 = .ok e.2)) = true := by decide +kernel

set_option maxRecDepth 100000 in
def tb_177 : List (Nat × Instr × Nat) := [(0, .aload_n 0, 1), (1, .iload_n 1, 1), (2, .invokevirtual 274, 3), (5, .astore_n 3, 1), (6, .aload_n 3, 1), (7, .ifnonnull 6, 3), (10, .bipush (-2), 2), (12, .ireturn, 1), (13, .aload_n 3, 1), (14, .getfield 281, 3), (17, .ifCond .ne 11, 3), (20, .aload_n 0, 1), (21, .getfield 66, 3), (24, .aload_n 3, 1), (25, .invokevirtual 285, 3), (28, .aload_n 3, 1), (29, .iload_n 2, 1), (30, .invokevirtual 289, 3), (33, .ireturn, 1)]
theorem tb_177_ok : (tb_177.all fun e => decide (decode cX11_fits e.1 = .ok e.2)) = true := by decide +kernel

set_option maxRecDepth 100000 in
def tb_178 : List (Nat × Instr × Nat) := [(0, .iload_n 1, 1), (1, .ifCond .lt 28, 3), (4, .iload_n 1, 1), (5, .aload_n 0, 1), (6, .getfield 10, 3), (9, .getfield 98, 3), (12, .iconst 0, 1), (13, .iaload, 1), (14, .if_icmp .ge 15, 3), (17, .aload_n 0, 1), (18, .getfield 10, 3), (21, .getfield 292, 3), (24, .iload_n 1, 1), (25, .aaload, 1), (26, .goto 4, 3), (29, .aconst_null, 1), (30, .areturn, 1)]
theorem tb_178_ok : (tb_178.all fun e => decide (decode cX11_lineAt e.1 = .ok e.2)) = true := by decide +kernel

set_option maxRecDepth 100000 in
def tb_179 : List (Nat × Instr × Nat) := [(0, .aload_n 0, 1), (1, .iload_n 1, 1), (2, .invokevirtual 110, 3), (5, .astore_n 3, 1), (6, .aload_n 3, 1), (7, .ifnull 15, 3), (10, .aload_n 3, 1), (11, .iload_n 2, 1), (12, .invokevirtual 185, 3), (15, .ifCond .eq 7, 3), (18, .aload_n 3, 1), (19, .goto 4, 3), (22, .aconst_null, 1), (23, .areturn, 1)]
theorem tb_179_ok : (tb_179.all fun e => decide (decode cX11_lineFor e.1 = .ok e.2)) = true := by decide +kernel

set_option maxRecDepth 100000 in
def tb_180 : List (Nat × Instr × Nat) := [(0, .iload_n 1, 1), (1, .ifCond .lt 28, 3), (4, .iload_n 1, 1), (5, .aload_n 0, 1), (6, .getfield 10, 3), (9, .getfield 98, 3), (12, .iconst 1, 1), (13, .iaload, 1), (14, .if_icmp .ge 15, 3), (17, .aload_n 0, 1), (18, .getfield 10, 3), (21, .getfield 296, 3), (24, .iload_n 1, 1), (25, .aaload, 1), (26, .goto 4, 3), (29, .aconst_null, 1), (30, .areturn, 1)]
theorem tb_180_ok : (tb_180.all fun e => decide (decode cX11_rideAt e.1 = .ok e.2)) = true := by decide +kernel

set_option maxRecDepth 100000 in
def tb_181 : List (Nat × Instr × Nat) := [(0, .iload_n 1, 1), (1, .ifCond .lt 28, 3), (4, .iload_n 1, 1), (5, .aload_n 0, 1), (6, .getfield 10, 3), (9, .getfield 98, 3), (12, .iconst 2, 1), (13, .iaload, 1), (14, .if_icmp .ge 15, 3), (17, .aload_n 0, 1), (18, .getfield 10, 3), (21, .getfield 300, 3), (24, .iload_n 1, 1), (25, .aaload, 1), (26, .goto 4, 3), (29, .aconst_null, 1), (30, .areturn, 1)]
theorem tb_181_ok : (tb_181.all fun e => decide (decode cX11_flowAt e.1 = .ok e.2)) = true := by decide +kernel

set_option maxRecDepth 100000 in
def tb_182 : List (Nat × Instr × Nat) := [(0, .iload_n 1, 1), (1, .ifCond .lt 28, 3), (4, .iload_n 1, 1), (5, .aload_n 0, 1), (6, .getfield 10, 3), (9, .getfield 98, 3), (12, .iconst 3, 1), (13, .iaload, 1), (14, .if_icmp .ge 15, 3), (17, .aload_n 0, 1), (18, .getfield 10, 3), (21, .getfield 304, 3), (24, .iload_n 1, 1), (25, .aaload, 1), (26, .goto 4, 3), (29, .aconst_null, 1), (30, .areturn, 1)]
theorem tb_182_ok : (tb_182.all fun e => decide (decode cX11_sightAt e.1 = .ok e.2)) = true := by decide +kernel

set_option maxRecDepth 100000 in
def tb_183 : List (Nat × Instr × Nat) := [(0, .iload_n 0, 1), (1, .iload_n 1, 1), (2, .ishr, 1), (3, .iconst 1, 1), (4, .iand, 1), (5, .ifCond .eq 7, 3), (8, .iconst 1, 1), (9, .goto 4, 3), (12, .iconst 0, 1), (13, .ireturn, 1)]
theorem tb_183_ok : (tb_183.all fun e => decide (decode cX11_holds e.1 = .ok e.2)) = true := by decide +kernel

set_option maxRecDepth 100000 in
def tb_184 : List (Nat × Instr × Nat) := [(0, .iload_n 1, 1), (1, .iload_n 2, 1), (2, .iload_n 0, 1), (3, .invokestatic 308, 3), (6, .invokestatic 313, 3), (9, .ireturn, 1)]
theorem tb_184_ok : (tb_184.all fun e => decide (decode cX11_within e.1 = .ok e.2)) = true := by decide +kernel

set_option maxRecDepth 100000 in
def tb_185 : List (Nat × Instr × Nat) := [(0, .iconst 0, 1), (1, .istore_n 2, 1), (2, .iload_n 2, 1), (3, .aload_n 0, 1), (4, .arraylength, 1), (5, .if_icmp .ge 13, 3), (8, .aload_n 0, 1), (9, .iload_n 2, 1), (10, .iload_n 1, 1), (11, .iastore, 1), (12, .iinc 2 1, 3), (15, .goto (-13), 3), (18, .return_, 1)]
theorem tb_185_ok : (tb_185.all fun e => decide (decode cX11_fill e.1 = .ok e.2)) = true := by decide +kernel

set_option maxRecDepth 100000 in
def tb_186 : List (Nat × Instr × Nat) := [(0, .aload_n 0, 1), (1, .iconst 0, 1), (2, .aload_n 1, 1), (3, .iconst 0, 1), (4, .aload_n 0, 1), (5, .arraylength, 1), (6, .aload_n 1, 1), (7, .arraylength, 1), (8, .invokestatic 308, 3), (11, .invokestatic 316, 3), (14, .return_, 1)]
theorem tb_186_ok : (tb_186.all fun e => decide (decode cX11_copyRow e.1 = .ok e.2)) = true := by decide +kernel

set_option maxRecDepth 100000 in
def tb_187 : List (Nat × Instr × Nat) := [(0, .aload_n 0, 1), (1, .iload_n 1, 1), (2, .iaload, 1), (3, .aload_n 0, 1), (4, .iload_n 2, 1), (5, .iaload, 1), (6, .isub, 1), (7, .istore_n 3, 1), (8, .iload_n 3, 1), (9, .iconst 2, 1), (10, .if_icmp .lt 20, 3), (13, .aload_n 0, 1), (14, .iload_n 1, 1), (15, .dup2, 1), (16, .iaload, 1), (17, .iconst 1, 1), (18, .isub, 1), (19, .iastore, 1), (20, .aload_n 0, 1), (21, .iload_n 2, 1), (22, .dup2, 1), (23, .iaload, 1), (24, .iconst 1, 1), (25, .iadd, 1), (26, .iastore, 1), (27, .goto 23, 3), (30, .iload_n 3, 1), (31, .bipush (-2), 2), (33, .if_icmp .gt 17, 3), (36, .aload_n 0, 1), (37, .iload_n 1, 1), (38, .dup2, 1), (39, .iaload, 1), (40, .iconst 1, 1), (41, .iadd, 1), (42, .iastore, 1), (43, .aload_n 0, 1), (44, .iload_n 2, 1), (45, .dup2, 1), (46, .iaload, 1), (47, .iconst 1, 1), (48, .isub, 1), (49, .iastore, 1), (50, .return_, 1)]
theorem tb_187_ok : (tb_187.all fun e => decide (decode cX11_evenOut e.1 = .ok e.2)) = true := by decide +kernel
