theorem dX10_next_0 : decode cX10_next 0 = .ok (.aload_n 0, 1) := by decide +kernel
theorem dX10_next_1 : decode cX10_next 1 = .ok (.getfield 19, 3) := by decide +kernel
theorem dX10_next_4 : decode cX10_next 4 = .ok (.aload_n 0, 1) := by decide +kernel
theorem dX10_next_5 : decode cX10_next 5 = .ok (.getfield 15, 3) := by decide +kernel
theorem dX10_next_8 : decode cX10_next 8 = .ok (.if_icmp .ge 42, 3) := by decide +kernel
theorem dX10_next_50 : decode cX10_next 50 = .ok (.aload_n 0, 1) := by decide +kernel
theorem dX10_next_51 : decode cX10_next 51 = .ok (.aload_n 0, 1) := by decide +kernel
theorem dX10_next_52 : decode cX10_next 52 = .ok (.getfield 19, 3) := by decide +kernel
theorem dX10_next_55 : decode cX10_next 55 = .ok (.putfield 29, 3) := by decide +kernel
theorem dX10_next_58 : decode cX10_next 58 = .ok (.aload_n 0, 1) := by decide +kernel
theorem dX10_next_59 : decode cX10_next 59 = .ok (.iconst (-1), 1) := by decide +kernel
theorem dX10_next_60 : decode cX10_next 60 = .ok (.putfield 38, 3) := by decide +kernel
theorem dX10_next_63 : decode cX10_next 63 = .ok (.aload_n 0, 1) := by decide +kernel
theorem dX10_next_64 : decode cX10_next 64 = .ok (.getfield 19, 3) := by decide +kernel
theorem dX10_next_67 : decode cX10_next 67 = .ok (.aload_n 0, 1) := by decide +kernel
theorem dX10_next_68 : decode cX10_next 68 = .ok (.getfield 15, 3) := by decide +kernel
theorem dX10_next_71 : decode cX10_next 71 = .ok (.if_icmp .lt 11, 3) := by decide +kernel
theorem dX10_next_74 : decode cX10_next 74 = .ok (.aload_n 0, 1) := by decide +kernel
theorem dX10_next_75 : decode cX10_next 75 = .ok (.iconst 0, 1) := by decide +kernel
theorem dX10_next_76 : decode cX10_next 76 = .ok (.putfield 35, 3) := by decide +kernel
theorem dX10_next_79 : decode cX10_next 79 = .ok (.goto 75, 3) := by decide +kernel
theorem dX10_next_154 : decode cX10_next 154 = .ok (.aload_n 0, 1) := by decide +kernel
theorem dX10_next_155 : decode cX10_next 155 = .ok (.aload_n 0, 1) := by decide +kernel
theorem dX10_next_156 : decode cX10_next 156 = .ok (.getfield 19, 3) := by decide +kernel
theorem dX10_next_159 : decode cX10_next 159 = .ok (.putfield 32, 3) := by decide +kernel
theorem dX10_next_162 : decode cX10_next 162 = .ok (.return_, 1) := by decide +kernel
theorem dX10_open_0 : decode cX10_open 0 = .ok (.aload_n 0, 1) := by decide +kernel
theorem dX10_open_1 : decode cX10_open 1 = .ok (.iload_n 1, 1) := by decide +kernel
theorem dX10_open_2 : decode cX10_open 2 = .ok (.putfield 15, 3) := by decide +kernel
theorem dX10_open_5 : decode cX10_open 5 = .ok (.aload_n 0, 1) := by decide +kernel
theorem dX10_open_6 : decode cX10_open 6 = .ok (.iload_n 2, 1) := by decide +kernel
theorem dX10_open_7 : decode cX10_open 7 = .ok (.putfield 22, 3) := by decide +kernel
theorem dX10_open_10 : decode cX10_open 10 = .ok (.aload_n 0, 1) := by decide +kernel
theorem dX10_open_11 : decode cX10_open 11 = .ok (.iconst 0, 1) := by decide +kernel
theorem dX10_open_12 : decode cX10_open 12 = .ok (.putfield 26, 3) := by decide +kernel
theorem dX10_open_15 : decode cX10_open 15 = .ok (.aload_n 0, 1) := by decide +kernel
theorem dX10_open_16 : decode cX10_open 16 = .ok (.iconst 0, 1) := by decide +kernel
theorem dX10_open_17 : decode cX10_open 17 = .ok (.putfield 19, 3) := by decide +kernel
theorem dX10_open_20 : decode cX10_open 20 = .ok (.aload_n 0, 1) := by decide +kernel
theorem dX10_open_21 : decode cX10_open 21 = .ok (.iconst 0, 1) := by decide +kernel
theorem dX10_open_22 : decode cX10_open 22 = .ok (.putfield 41, 3) := by decide +kernel
theorem dX10_open_25 : decode cX10_open 25 = .ok (.aload_n 0, 1) := by decide +kernel
theorem dX10_open_26 : decode cX10_open 26 = .ok (.iconst (-1), 1) := by decide +kernel
theorem dX10_open_27 : decode cX10_open 27 = .ok (.putfield 44, 3) := by decide +kernel
theorem dX10_open_30 : decode cX10_open 30 = .ok (.aload_n 0, 1) := by decide +kernel
theorem dX10_open_31 : decode cX10_open 31 = .ok (.invokevirtual 47, 3) := by decide +kernel
theorem dX10_open_34 : decode cX10_open 34 = .ok (.return_, 1) := by decide +kernel
theorem dX11_column_0 : decode cX11_column 0 = .ok (.aload_n 0, 1) := by decide +kernel
theorem dX11_column_1 : decode cX11_column 1 = .ok (.getfield 35, 3) := by decide +kernel
theorem dX11_column_4 : decode cX11_column 4 = .ok (.iload_n 1, 1) := by decide +kernel
theorem dX11_column_5 : decode cX11_column 5 = .ok (.iload_n 2, 1) := by decide +kernel
theorem dX11_column_6 : decode cX11_column 6 = .ok (.invokevirtual 177, 3) := by decide +kernel
theorem dX11_column_9 : decode cX11_column 9 = .ok (.ireturn, 1) := by decide +kernel
theorem dX11_heap_0 : decode cX11_heap 0 = .ok (.aload_n 0, 1) := by decide +kernel
theorem dX11_heap_1 : decode cX11_heap 1 = .ok (.getfield 35, 3) := by decide +kernel
theorem dX11_heap_4 : decode cX11_heap 4 = .ok (.iload_n 1, 1) := by decide +kernel
theorem dX11_heap_5 : decode cX11_heap 5 = .ok (.iload_n 2, 1) := by decide +kernel
theorem dX11_heap_6 : decode cX11_heap 6 = .ok (.invokevirtual 174, 3) := by decide +kernel
theorem dX11_heap_9 : decode cX11_heap 9 = .ok (.ireturn, 1) := by decide +kernel
theorem dX11_kind_0 : decode cX11_kind 0 = .ok (.aload_n 0, 1) := by decide +kernel
theorem dX11_kind_1 : decode cX11_kind 1 = .ok (.getfield 42, 3) := by decide +kernel
theorem dX11_kind_4 : decode cX11_kind 4 = .ok (.iload_n 1, 1) := by decide +kernel
theorem dX11_kind_5 : decode cX11_kind 5 = .ok (.iload_n 2, 1) := by decide +kernel
theorem dX11_kind_6 : decode cX11_kind 6 = .ok (.invokevirtual 200, 3) := by decide +kernel
theorem dX11_kind_9 : decode cX11_kind 9 = .ok (.ireturn, 1) := by decide +kernel
theorem dX11_quarrel_0 : decode cX11_quarrel 0 = .ok (.aload_n 0, 1) := by decide +kernel
theorem dX11_quarrel_1 : decode cX11_quarrel 1 = .ok (.getfield 19, 3) := by decide +kernel
theorem dX11_quarrel_4 : decode cX11_quarrel 4 = .ok (.iload_n 1, 1) := by decide +kernel
theorem dX11_quarrel_5 : decode cX11_quarrel 5 = .ok (.invokevirtual 140, 3) := by decide +kernel
theorem dX11_quarrel_8 : decode cX11_quarrel 8 = .ok (.ifCond .ne 5, 3) := by decide +kernel
theorem dX11_quarrel_11 : decode cX11_quarrel 11 = .ok (.iconst (-1), 1) := by decide +kernel
theorem dX11_quarrel_12 : decode cX11_quarrel 12 = .ok (.ireturn, 1) := by decide +kernel
theorem dX11_quarrel_13 : decode cX11_quarrel 13 = .ok (.aload_n 0, 1) := by decide +kernel
theorem dX11_quarrel_14 : decode cX11_quarrel 14 = .ok (.getfield 28, 3) := by decide +kernel
theorem dX11_quarrel_17 : decode cX11_quarrel 17 = .ok (.iload_n 1, 1) := by decide +kernel
theorem dX11_quarrel_18 : decode cX11_quarrel 18 = .ok (.invokevirtual 143, 3) := by decide +kernel
theorem dX11_quarrel_21 : decode cX11_quarrel 21 = .ok (.aload_n 0, 1) := by decide +kernel
theorem dX11_quarrel_22 : decode cX11_quarrel 22 = .ok (.getfield 28, 3) := by decide +kernel
theorem dX11_quarrel_25 : decode cX11_quarrel 25 = .ok (.getfield 162, 3) := by decide +kernel
theorem dX11_quarrel_28 : decode cX11_quarrel 28 = .ok (.ireturn, 1) := by decide +kernel
theorem dX11_rules_0 : decode cX11_rules 0 = .ok (.aload_n 0, 1) := by decide +kernel
theorem dX11_rules_1 : decode cX11_rules 1 = .ok (.getfield 10, 3) := by decide +kernel
theorem dX11_rules_4 : decode cX11_rules 4 = .ok (.iload_n 1, 1) := by decide +kernel
theorem dX11_rules_5 : decode cX11_rules 5 = .ok (.invokevirtual 99, 3) := by decide +kernel
theorem dX11_rules_8 : decode cX11_rules 8 = .ok (.ifCond .ne 6, 3) := by decide +kernel
theorem dX11_rules_11 : decode cX11_rules 11 = .ok (.bipush (-2), 2) := by decide +kernel
theorem dX11_rules_13 : decode cX11_rules 13 = .ok (.ireturn, 1) := by decide +kernel
theorem dX11_rules_14 : decode cX11_rules 14 = .ok (.aload_n 0, 1) := by decide +kernel
theorem dX11_rules_15 : decode cX11_rules 15 = .ok (.getfield 74, 3) := by decide +kernel
theorem dX11_rules_18 : decode cX11_rules 18 = .ok (.iload_n 1, 1) := by decide +kernel
theorem dX11_rules_19 : decode cX11_rules 19 = .ok (.invokevirtual 103, 3) := by decide +kernel
theorem dX11_rules_22 : decode cX11_rules 22 = .ok (.ifCond .eq 16, 3) := by decide +kernel
theorem dX11_rules_25 : decode cX11_rules 25 = .ok (.aload_n 0, 1) := by decide +kernel
theorem dX11_rules_26 : decode cX11_rules 26 = .ok (.getfield 74, 3) := by decide +kernel
theorem dX11_rules_29 : decode cX11_rules 29 = .ok (.getfield 106, 3) := by decide +kernel
theorem dX11_rules_32 : decode cX11_rules 32 = .ok (.getfield 110, 3) := by decide +kernel
theorem dX11_rules_35 : decode cX11_rules 35 = .ok (.goto 4, 3) := by decide +kernel
theorem dX11_rules_39 : decode cX11_rules 39 = .ok (.ireturn, 1) := by decide +kernel
theorem dX2_draw_0 : decode cX2_draw 0 = .ok (.iload_n 1, 1) := by decide +kernel
theorem dX2_draw_1 : decode cX2_draw 1 = .ok (.ifCond .lt 32, 3) := by decide +kernel
theorem dX2_draw_4 : decode cX2_draw 4 = .ok (.iload_n 1, 1) := by decide +kernel
theorem dX2_draw_5 : decode cX2_draw 5 = .ok (.aload_n 0, 1) := by decide +kernel
theorem dX2_draw_6 : decode cX2_draw 6 = .ok (.getfield 9, 3) := by decide +kernel
theorem dX2_draw_9 : decode cX2_draw 9 = .ok (.if_icmp .ge 24, 3) := by decide +kernel
theorem dX2_draw_12 : decode cX2_draw 12 = .ok (.iload_n 2, 1) := by decide +kernel
theorem dX2_draw_13 : decode cX2_draw 13 = .ok (.ifCond .lt 20, 3) := by decide +kernel
theorem dX2_draw_16 : decode cX2_draw 16 = .ok (.iload_n 2, 1) := by decide +kernel
theorem dX2_draw_17 : decode cX2_draw 17 = .ok (.aload_n 0, 1) := by decide +kernel
theorem dX2_draw_18 : decode cX2_draw 18 = .ok (.getfield 15, 3) := by decide +kernel
theorem dX2_draw_21 : decode cX2_draw 21 = .ok (.if_icmp .ge 12, 3) := by decide +kernel
theorem dX2_draw_24 : decode cX2_draw 24 = .ok (.aload_n 0, 1) := by decide +kernel
theorem dX2_draw_25 : decode cX2_draw 25 = .ok (.getfield 34, 3) := by decide +kernel
theorem dX2_draw_28 : decode cX2_draw 28 = .ok (.bipush 10, 2) := by decide +kernel
theorem dX2_draw_30 : decode cX2_draw 30 = .ok (.if_icmp .lt 5, 3) := by decide +kernel
theorem dX2_draw_33 : decode cX2_draw 33 = .ok (.iconst (-1), 1) := by decide +kernel
theorem dX2_draw_34 : decode cX2_draw 34 = .ok (.ireturn, 1) := by decide +kernel
theorem dX2_draw_35 : decode cX2_draw 35 = .ok (.iconst 0, 1) := by decide +kernel
theorem dX2_draw_36 : decode cX2_draw 36 = .ok (.istore_n 3, 1) := by decide +kernel
theorem dX2_draw_37 : decode cX2_draw 37 = .ok (.iload_n 3, 1) := by decide +kernel
theorem dX2_draw_38 : decode cX2_draw 38 = .ok (.aload_n 0, 1) := by decide +kernel
theorem dX2_draw_39 : decode cX2_draw 39 = .ok (.getfield 34, 3) := by decide +kernel
theorem dX2_draw_42 : decode cX2_draw 42 = .ok (.if_icmp .ge 31, 3) := by decide +kernel
theorem dX2_draw_73 : decode cX2_draw 73 = .ok (.aload_n 0, 1) := by decide +kernel
theorem dX2_draw_74 : decode cX2_draw 74 = .ok (.getfield 18, 3) := by decide +kernel
theorem dX2_draw_77 : decode cX2_draw 77 = .ok (.aload_n 0, 1) := by decide +kernel
theorem dX2_draw_78 : decode cX2_draw 78 = .ok (.getfield 34, 3) := by decide +kernel
theorem dX2_draw_81 : decode cX2_draw 81 = .ok (.iload_n 1, 1) := by decide +kernel
theorem dX2_draw_82 : decode cX2_draw 82 = .ok (.iastore, 1) := by decide +kernel
theorem dX2_draw_83 : decode cX2_draw 83 = .ok (.aload_n 0, 1) := by decide +kernel
theorem dX2_draw_84 : decode cX2_draw 84 = .ok (.getfield 22, 3) := by decide +kernel
theorem dX2_draw_87 : decode cX2_draw 87 = .ok (.aload_n 0, 1) := by decide +kernel
theorem dX2_draw_88 : decode cX2_draw 88 = .ok (.getfield 34, 3) := by decide +kernel
theorem dX2_draw_91 : decode cX2_draw 91 = .ok (.iload_n 2, 1) := by decide +kernel
theorem dX2_draw_92 : decode cX2_draw 92 = .ok (.iastore, 1) := by decide +kernel
theorem dX2_draw_93 : decode cX2_draw 93 = .ok (.iconst 0, 1) := by decide +kernel
theorem dX2_draw_94 : decode cX2_draw 94 = .ok (.istore_n 3, 1) := by decide +kernel
theorem dX2_draw_95 : decode cX2_draw 95 = .ok (.iload_n 3, 1) := by decide +kernel
theorem dX2_draw_96 : decode cX2_draw 96 = .ok (.bipush 12, 2) := by decide +kernel
theorem dX2_draw_98 : decode cX2_draw 98 = .ok (.if_icmp .ge 24, 3) := by decide +kernel
theorem dX2_draw_101 : decode cX2_draw 101 = .ok (.aload_n 0, 1) := by decide +kernel
theorem dX2_draw_102 : decode cX2_draw 102 = .ok (.getfield 31, 3) := by decide +kernel
theorem dX2_draw_105 : decode cX2_draw 105 = .ok (.aload_n 0, 1) := by decide +kernel
theorem dX2_draw_106 : decode cX2_draw 106 = .ok (.getfield 34, 3) := by decide +kernel
theorem dX2_draw_109 : decode cX2_draw 109 = .ok (.bipush 12, 2) := by decide +kernel
theorem dX2_draw_111 : decode cX2_draw 111 = .ok (.imul, 1) := by decide +kernel
theorem dX2_draw_112 : decode cX2_draw 112 = .ok (.iload_n 3, 1) := by decide +kernel
theorem dX2_draw_113 : decode cX2_draw 113 = .ok (.iadd, 1) := by decide +kernel
theorem dX2_draw_114 : decode cX2_draw 114 = .ok (.iconst 0, 1) := by decide +kernel
theorem dX2_draw_115 : decode cX2_draw 115 = .ok (.iastore, 1) := by decide +kernel
theorem dX2_draw_116 : decode cX2_draw 116 = .ok (.iinc 3 1, 3) := by decide +kernel
theorem dX2_draw_119 : decode cX2_draw 119 = .ok (.goto (-24), 3) := by decide +kernel
theorem dX2_draw_122 : decode cX2_draw 122 = .ok (.aload_n 0, 1) := by decide +kernel
theorem dX2_draw_123 : decode cX2_draw 123 = .ok (.dup, 1) := by decide +kernel
theorem dX2_draw_124 : decode cX2_draw 124 = .ok (.getfield 34, 3) := by decide +kernel
theorem dX2_draw_127 : decode cX2_draw 127 = .ok (.iconst 1, 1) := by decide +kernel
theorem dX2_draw_128 : decode cX2_draw 128 = .ok (.iadd, 1) := by decide +kernel
theorem dX2_draw_129 : decode cX2_draw 129 = .ok (.putfield 34, 3) := by decide +kernel
theorem dX2_draw_132 : decode cX2_draw 132 = .ok (.aload_n 0, 1) := by decide +kernel
theorem dX2_draw_133 : decode cX2_draw 133 = .ok (.getfield 34, 3) := by decide +kernel
theorem dX2_draw_136 : decode cX2_draw 136 = .ok (.iconst 1, 1) := by decide +kernel
theorem dX2_draw_137 : decode cX2_draw 137 = .ok (.isub, 1) := by decide +kernel
theorem dX2_draw_138 : decode cX2_draw 138 = .ok (.ireturn, 1) := by decide +kernel
theorem dX2_isSide_0 : decode cX2_isSide 0 = .ok (.iload_n 0, 1) := by decide +kernel
theorem dX2_isSide_1 : decode cX2_isSide 1 = .ok (.iconst 2, 1) := by decide +kernel
theorem dX2_isSide_2 : decode cX2_isSide 2 = .ok (.if_icmp .lt 13, 3) := by decide +kernel
theorem dX2_isSide_5 : decode cX2_isSide 5 = .ok (.iload_n 0, 1) := by decide +kernel
theorem dX2_isSide_6 : decode cX2_isSide 6 = .ok (.bipush 12, 2) := by decide +kernel
theorem dX2_isSide_8 : decode cX2_isSide 8 = .ok (.if_icmp .gt 7, 3) := by decide +kernel
theorem dX2_isSide_11 : decode cX2_isSide 11 = .ok (.iconst 1, 1) := by decide +kernel
theorem dX2_isSide_12 : decode cX2_isSide 12 = .ok (.goto 4, 3) := by decide +kernel
theorem dX2_isSide_15 : decode cX2_isSide 15 = .ok (.iconst 0, 1) := by decide +kernel
theorem dX2_isSide_16 : decode cX2_isSide 16 = .ok (.ireturn, 1) := by decide +kernel
theorem dX2_lay_0 : decode cX2_lay 0 = .ok (.iload_n 1, 1) := by decide +kernel
theorem dX2_lay_1 : decode cX2_lay 1 = .ok (.invokestatic 46, 3) := by decide +kernel
theorem dX2_lay_4 : decode cX2_lay 4 = .ok (.ifCond .eq 10, 3) := by decide +kernel
theorem dX2_lay_7 : decode cX2_lay 7 = .ok (.iload_n 2, 1) := by decide +kernel
theorem dX2_lay_8 : decode cX2_lay 8 = .ok (.invokestatic 46, 3) := by decide +kernel
theorem dX2_lay_11 : decode cX2_lay 11 = .ok (.ifCond .ne 5, 3) := by decide +kernel
theorem dX2_lay_14 : decode cX2_lay 14 = .ok (.iconst 0, 1) := by decide +kernel
theorem dX2_lay_15 : decode cX2_lay 15 = .ok (.ireturn, 1) := by decide +kernel
theorem dX2_lay_16 : decode cX2_lay 16 = .ok (.aload_n 0, 1) := by decide +kernel
theorem dX2_lay_17 : decode cX2_lay 17 = .ok (.iload_n 1, 1) := by decide +kernel
theorem dX2_lay_18 : decode cX2_lay 18 = .ok (.putfield 9, 3) := by decide +kernel
theorem dX2_lay_21 : decode cX2_lay 21 = .ok (.aload_n 0, 1) := by decide +kernel
theorem dX2_lay_22 : decode cX2_lay 22 = .ok (.iload_n 2, 1) := by decide +kernel
theorem dX2_lay_23 : decode cX2_lay 23 = .ok (.putfield 15, 3) := by decide +kernel
theorem dX2_lay_26 : decode cX2_lay 26 = .ok (.aload_n 0, 1) := by decide +kernel
theorem dX2_lay_27 : decode cX2_lay 27 = .ok (.iconst 0, 1) := by decide +kernel
theorem dX2_lay_28 : decode cX2_lay 28 = .ok (.putfield 34, 3) := by decide +kernel
theorem dX2_lay_31 : decode cX2_lay 31 = .ok (.iconst 1, 1) := by decide +kernel
theorem dX2_lay_32 : decode cX2_lay 32 = .ok (.ireturn, 1) := by decide +kernel
theorem dX4_bedsInAll_0 : decode cX4_bedsInAll 0 = .ok (.iconst 0, 1) := by decide +kernel
theorem dX4_bedsInAll_1 : decode cX4_bedsInAll 1 = .ok (.istore_n 1, 1) := by decide +kernel
theorem dX4_bedsInAll_2 : decode cX4_bedsInAll 2 = .ok (.iconst 0, 1) := by decide +kernel
theorem dX4_bedsInAll_3 : decode cX4_bedsInAll 3 = .ok (.istore_n 2, 1) := by decide +kernel
theorem dX4_bedsInAll_4 : decode cX4_bedsInAll 4 = .ok (.iload_n 2, 1) := by decide +kernel
theorem dX4_bedsInAll_5 : decode cX4_bedsInAll 5 = .ok (.aload_n 0, 1) := by decide +kernel
theorem dX4_bedsInAll_6 : decode cX4_bedsInAll 6 = .ok (.getfield 15, 3) := by decide +kernel
theorem dX4_bedsInAll_9 : decode cX4_bedsInAll 9 = .ok (.if_icmp .ge 22, 3) := by decide +kernel
theorem dX4_bedsInAll_31 : decode cX4_bedsInAll 31 = .ok (.iload_n 1, 1) := by decide +kernel
theorem dX4_bedsInAll_32 : decode cX4_bedsInAll 32 = .ok (.ireturn, 1) := by decide +kernel
theorem dX4_findLater_0 : decode cX4_findLater 0 = .ok (.iconst 0, 1) := by decide +kernel
theorem dX4_findLater_1 : decode cX4_findLater 1 = .ok (.istore_n 1, 1) := by decide +kernel
theorem dX4_findLater_2 : decode cX4_findLater 2 = .ok (.iload_n 1, 1) := by decide +kernel
theorem dX4_findLater_3 : decode cX4_findLater 3 = .ok (.aload_n 0, 1) := by decide +kernel
theorem dX4_findLater_4 : decode cX4_findLater 4 = .ok (.getfield 15, 3) := by decide +kernel
theorem dX4_findLater_7 : decode cX4_findLater 7 = .ok (.if_icmp .ge 16, 3) := by decide +kernel
theorem dX4_findLater_23 : decode cX4_findLater 23 = .ok (.iconst 0, 1) := by decide +kernel
theorem dX4_findLater_24 : decode cX4_findLater 24 = .ok (.istore_n 1, 1) := by decide +kernel
theorem dX4_findLater_25 : decode cX4_findLater 25 = .ok (.iload_n 1, 1) := by decide +kernel
theorem dX4_findLater_26 : decode cX4_findLater 26 = .ok (.aload_n 0, 1) := by decide +kernel
theorem dX4_findLater_27 : decode cX4_findLater 27 = .ok (.getfield 9, 3) := by decide +kernel
theorem dX4_findLater_30 : decode cX4_findLater 30 = .ok (.if_icmp .ge 65, 3) := by decide +kernel
theorem dX4_findLater_95 : decode cX4_findLater 95 = .ok (.iconst 0, 1) := by decide +kernel
theorem dX4_findLater_96 : decode cX4_findLater 96 = .ok (.istore_n 1, 1) := by decide +kernel
theorem dX4_findLater_97 : decode cX4_findLater 97 = .ok (.iload_n 1, 1) := by decide +kernel
theorem dX4_findLater_98 : decode cX4_findLater 98 = .ok (.aload_n 0, 1) := by decide +kernel
theorem dX4_findLater_99 : decode cX4_findLater 99 = .ok (.getfield 15, 3) := by decide +kernel
theorem dX4_findLater_102 : decode cX4_findLater 102 = .ok (.if_icmp .ge 49, 3) := by decide +kernel
theorem dX4_findLater_151 : decode cX4_findLater 151 = .ok (.return_, 1) := by decide +kernel
theorem dX4_findStruck_0 : decode cX4_findStruck 0 = .ok (.iconst 0, 1) := by decide +kernel
theorem dX4_findStruck_1 : decode cX4_findStruck 1 = .ok (.istore_n 1, 1) := by decide +kernel
theorem dX4_findStruck_2 : decode cX4_findStruck 2 = .ok (.iload_n 1, 1) := by decide +kernel
theorem dX4_findStruck_3 : decode cX4_findStruck 3 = .ok (.aload_n 0, 1) := by decide +kernel
theorem dX4_findStruck_4 : decode cX4_findStruck 4 = .ok (.getfield 9, 3) := by decide +kernel
theorem dX4_findStruck_7 : decode cX4_findStruck 7 = .ok (.if_icmp .ge 16, 3) := by decide +kernel
theorem dX4_findStruck_23 : decode cX4_findStruck 23 = .ok (.aload_n 0, 1) := by decide +kernel
theorem dX4_findStruck_24 : decode cX4_findStruck 24 = .ok (.getfield 9, 3) := by decide +kernel
theorem dX4_findStruck_27 : decode cX4_findStruck 27 = .ok (.iconst 1, 1) := by decide +kernel
theorem dX4_findStruck_28 : decode cX4_findStruck 28 = .ok (.isub, 1) := by decide +kernel
theorem dX4_findStruck_29 : decode cX4_findStruck 29 = .ok (.istore_n 1, 1) := by decide +kernel
theorem dX4_findStruck_30 : decode cX4_findStruck 30 = .ok (.iload_n 1, 1) := by decide +kernel
theorem dX4_findStruck_31 : decode cX4_findStruck 31 = .ok (.ifCond .lt 46, 3) := by decide +kernel
theorem dX4_findStruck_77 : decode cX4_findStruck 77 = .ok (.return_, 1) := by decide +kernel
theorem dX4_hasRing_0 : decode cX4_hasRing 0 = .ok (.iconst 0, 1) := by decide +kernel
theorem dX4_hasRing_1 : decode cX4_hasRing 1 = .ok (.istore_n 1, 1) := by decide +kernel
theorem dX4_hasRing_2 : decode cX4_hasRing 2 = .ok (.iload_n 1, 1) := by decide +kernel
theorem dX4_hasRing_3 : decode cX4_hasRing 3 = .ok (.aload_n 0, 1) := by decide +kernel
theorem dX4_hasRing_4 : decode cX4_hasRing 4 = .ok (.getfield 15, 3) := by decide +kernel
theorem dX4_hasRing_7 : decode cX4_hasRing 7 = .ok (.if_icmp .ge 20, 3) := by decide +kernel
theorem dX4_hasRing_27 : decode cX4_hasRing 27 = .ok (.iconst 0, 1) := by decide +kernel
theorem dX4_hasRing_28 : decode cX4_hasRing 28 = .ok (.ireturn, 1) := by decide +kernel
theorem dX4_joinBeds_0 : decode cX4_joinBeds 0 = .ok (.iconst 0, 1) := by decide +kernel
theorem dX4_joinBeds_1 : decode cX4_joinBeds 1 = .ok (.istore_n 1, 1) := by decide +kernel
theorem dX4_joinBeds_2 : decode cX4_joinBeds 2 = .ok (.iload_n 1, 1) := by decide +kernel
theorem dX4_joinBeds_3 : decode cX4_joinBeds 3 = .ok (.aload_n 0, 1) := by decide +kernel
theorem dX4_joinBeds_4 : decode cX4_joinBeds 4 = .ok (.getfield 15, 3) := by decide +kernel
theorem dX4_joinBeds_7 : decode cX4_joinBeds 7 = .ok (.if_icmp .ge 16, 3) := by decide +kernel
theorem dX4_joinBeds_23 : decode cX4_joinBeds 23 = .ok (.iconst 0, 1) := by decide +kernel
theorem dX4_joinBeds_24 : decode cX4_joinBeds 24 = .ok (.istore_n 1, 1) := by decide +kernel
theorem dX4_joinBeds_25 : decode cX4_joinBeds 25 = .ok (.iload_n 1, 1) := by decide +kernel
theorem dX4_joinBeds_26 : decode cX4_joinBeds 26 = .ok (.aload_n 0, 1) := by decide +kernel
theorem dX4_joinBeds_27 : decode cX4_joinBeds 27 = .ok (.getfield 9, 3) := by decide +kernel
theorem dX4_joinBeds_30 : decode cX4_joinBeds 30 = .ok (.if_icmp .ge 50, 3) := by decide +kernel
theorem dX4_joinBeds_80 : decode cX4_joinBeds 80 = .ok (.return_, 1) := by decide +kernel
theorem dX4_leadYears_0 : decode cX4_leadYears 0 = .ok (.iconst 0, 1) := by decide +kernel
theorem dX4_leadYears_1 : decode cX4_leadYears 1 = .ok (.istore_n 1, 1) := by decide +kernel
theorem dX4_leadYears_2 : decode cX4_leadYears 2 = .ok (.iload_n 1, 1) := by decide +kernel
theorem dX4_leadYears_3 : decode cX4_leadYears 3 = .ok (.aload_n 0, 1) := by decide +kernel
theorem dX4_leadYears_4 : decode cX4_leadYears 4 = .ok (.getfield 15, 3) := by decide +kernel
theorem dX4_leadYears_7 : decode cX4_leadYears 7 = .ok (.if_icmp .ge 76, 3) := by decide +kernel
theorem dX4_leadYears_83 : decode cX4_leadYears 83 = .ok (.return_, 1) := by decide +kernel
theorem dX4_look_0 : decode cX4_look 0 = .ok (.iload_n 1, 1) := by decide +kernel
theorem dX4_look_1 : decode cX4_look 1 = .ok (.aload_n 0, 1) := by decide +kernel
theorem dX4_look_2 : decode cX4_look 2 = .ok (.getfield 9, 3) := by decide +kernel
theorem dX4_look_5 : decode cX4_look 5 = .ok (.if_icmp .ne 18, 3) := by decide +kernel
theorem dX4_look_23 : decode cX4_look 23 = .ok (.aload_n 0, 1) := by decide +kernel
theorem dX4_look_24 : decode cX4_look 24 = .ok (.iload_n 1, 1) := by decide +kernel
theorem dX4_look_25 : decode cX4_look 25 = .ok (.putfield 9, 3) := by decide +kernel
theorem dX4_look_28 : decode cX4_look 28 = .ok (.aload_n 0, 1) := by decide +kernel
theorem dX4_look_29 : decode cX4_look 29 = .ok (.aload_n 0, 1) := by decide +kernel
theorem dX4_look_30 : decode cX4_look 30 = .ok (.getfield 41, 3) := by decide +kernel
theorem dX4_look_33 : decode cX4_look 33 = .ok (.getfield 45, 3) := by decide +kernel
theorem dX4_look_36 : decode cX4_look 36 = .ok (.putfield 15, 3) := by decide +kernel
theorem dX4_look_39 : decode cX4_look 39 = .ok (.aload_n 0, 1) := by decide +kernel
theorem dX4_look_40 : decode cX4_look 40 = .ok (.invokevirtual 50, 3) := by decide +kernel
theorem dX4_look_43 : decode cX4_look 43 = .ok (.aload_n 0, 1) := by decide +kernel
theorem dX4_look_44 : decode cX4_look 44 = .ok (.invokevirtual 53, 3) := by decide +kernel
theorem dX4_look_47 : decode cX4_look 47 = .ok (.aload_n 0, 1) := by decide +kernel
theorem dX4_look_48 : decode cX4_look 48 = .ok (.invokevirtual 56, 3) := by decide +kernel
theorem dX4_look_51 : decode cX4_look 51 = .ok (.aload_n 0, 1) := by decide +kernel
theorem dX4_look_52 : decode cX4_look 52 = .ok (.aload_n 0, 1) := by decide +kernel
theorem dX4_look_53 : decode cX4_look 53 = .ok (.invokevirtual 59, 3) := by decide +kernel
theorem dX4_look_56 : decode cX4_look 56 = .ok (.ifCond .eq 7, 3) := by decide +kernel
theorem dX4_look_63 : decode cX4_look 63 = .ok (.iconst 0, 1) := by decide +kernel
theorem dX4_look_64 : decode cX4_look 64 = .ok (.putfield 38, 3) := by decide +kernel
theorem dX4_look_67 : decode cX4_look 67 = .ok (.aload_n 0, 1) := by decide +kernel
theorem dX4_look_68 : decode cX4_look 68 = .ok (.getfield 38, 3) := by decide +kernel
theorem dX4_look_71 : decode cX4_look 71 = .ok (.ifCond .ne 11, 3) := by decide +kernel
theorem dX4_look_74 : decode cX4_look 74 = .ok (.aload_n 0, 1) := by decide +kernel
theorem dX4_look_75 : decode cX4_look 75 = .ok (.invokevirtual 63, 3) := by decide +kernel
theorem dX4_look_78 : decode cX4_look 78 = .ok (.aload_n 0, 1) := by decide +kernel
theorem dX4_look_79 : decode cX4_look 79 = .ok (.invokevirtual 66, 3) := by decide +kernel
theorem dX4_look_82 : decode cX4_look 82 = .ok (.return_, 1) := by decide +kernel
theorem dX4_setRanks_0 : decode cX4_setRanks 0 = .ok (.iconst 0, 1) := by decide +kernel
theorem dX4_setRanks_1 : decode cX4_setRanks 1 = .ok (.istore_n 1, 1) := by decide +kernel
theorem dX4_setRanks_2 : decode cX4_setRanks 2 = .ok (.iload_n 1, 1) := by decide +kernel
theorem dX4_setRanks_3 : decode cX4_setRanks 3 = .ok (.aload_n 0, 1) := by decide +kernel
theorem dX4_setRanks_4 : decode cX4_setRanks 4 = .ok (.getfield 15, 3) := by decide +kernel
theorem dX4_setRanks_7 : decode cX4_setRanks 7 = .ok (.if_icmp .ge 16, 3) := by decide +kernel
theorem dX4_setRanks_23 : decode cX4_setRanks 23 = .ok (.iconst 0, 1) := by decide +kernel
theorem dX4_setRanks_24 : decode cX4_setRanks 24 = .ok (.istore_n 1, 1) := by decide +kernel
theorem dX4_setRanks_25 : decode cX4_setRanks 25 = .ok (.iload_n 1, 1) := by decide +kernel
theorem dX4_setRanks_26 : decode cX4_setRanks 26 = .ok (.aload_n 0, 1) := by decide +kernel
theorem dX4_setRanks_27 : decode cX4_setRanks 27 = .ok (.getfield 15, 3) := by decide +kernel
theorem dX4_setRanks_30 : decode cX4_setRanks 30 = .ok (.if_icmp .ge 30, 3) := by decide +kernel
theorem dX4_setRanks_60 : decode cX4_setRanks 60 = .ok (.return_, 1) := by decide +kernel
theorem dX4_setSpans_0 : decode cX4_setSpans 0 = .ok (.iconst 0, 1) := by decide +kernel
theorem dX4_setSpans_1 : decode cX4_setSpans 1 = .ok (.istore_n 1, 1) := by decide +kernel
theorem dX4_setSpans_2 : decode cX4_setSpans 2 = .ok (.iload_n 1, 1) := by decide +kernel
theorem dX4_setSpans_3 : decode cX4_setSpans 3 = .ok (.aload_n 0, 1) := by decide +kernel
theorem dX4_setSpans_4 : decode cX4_setSpans 4 = .ok (.getfield 15, 3) := by decide +kernel
theorem dX4_setSpans_7 : decode cX4_setSpans 7 = .ok (.if_icmp .ge 25, 3) := by decide +kernel
theorem dX4_setSpans_32 : decode cX4_setSpans 32 = .ok (.iconst 0, 1) := by decide +kernel
theorem dX4_setSpans_33 : decode cX4_setSpans 33 = .ok (.istore_n 1, 1) := by decide +kernel
theorem dX4_setSpans_34 : decode cX4_setSpans 34 = .ok (.iload_n 1, 1) := by decide +kernel
theorem dX4_setSpans_35 : decode cX4_setSpans 35 = .ok (.aload_n 0, 1) := by decide +kernel
theorem dX4_setSpans_36 : decode cX4_setSpans 36 = .ok (.getfield 9, 3) := by decide +kernel
theorem dX4_setSpans_39 : decode cX4_setSpans 39 = .ok (.if_icmp .ge 81, 3) := by decide +kernel
theorem dX4_setSpans_120 : decode cX4_setSpans 120 = .ok (.aload_n 0, 1) := by decide +kernel
theorem dX4_setSpans_121 : decode cX4_setSpans 121 = .ok (.invokevirtual 105, 3) := by decide +kernel
theorem dX4_setSpans_124 : decode cX4_setSpans 124 = .ok (.iconst 0, 1) := by decide +kernel
theorem dX4_setSpans_125 : decode cX4_setSpans 125 = .ok (.istore_n 1, 1) := by decide +kernel
theorem dX4_setSpans_126 : decode cX4_setSpans 126 = .ok (.iload_n 1, 1) := by decide +kernel
theorem dX4_setSpans_127 : decode cX4_setSpans 127 = .ok (.aload_n 0, 1) := by decide +kernel
theorem dX4_setSpans_128 : decode cX4_setSpans 128 = .ok (.getfield 15, 3) := by decide +kernel
theorem dX4_setSpans_131 : decode cX4_setSpans 131 = .ok (.if_icmp .ge 29, 3) := by decide +kernel
theorem dX4_setSpans_160 : decode cX4_setSpans 160 = .ok (.return_, 1) := by decide +kernel
theorem dX5_name_0 : decode cX5_name 0 = .ok (.iload_n 1, 1) := by decide +kernel
theorem dX5_name_1 : decode cX5_name 1 = .ok (.ifCond .lt 29, 3) := by decide +kernel
theorem dX5_name_4 : decode cX5_name 4 = .ok (.iload_n 1, 1) := by decide +kernel
theorem dX5_name_5 : decode cX5_name 5 = .ok (.sipush 999, 3) := by decide +kernel
theorem dX5_name_8 : decode cX5_name 8 = .ok (.if_icmp .gt 22, 3) := by decide +kernel
theorem dX5_name_11 : decode cX5_name 11 = .ok (.iload_n 2, 1) := by decide +kernel
theorem dX5_name_12 : decode cX5_name 12 = .ok (.iconst 1, 1) := by decide +kernel
theorem dX5_name_13 : decode cX5_name 13 = .ok (.if_icmp .lt 17, 3) := by decide +kernel
theorem dX5_name_16 : decode cX5_name 16 = .ok (.iload_n 2, 1) := by decide +kernel
theorem dX5_name_17 : decode cX5_name 17 = .ok (.iconst 2, 1) := by decide +kernel
theorem dX5_name_18 : decode cX5_name 18 = .ok (.if_icmp .gt 12, 3) := by decide +kernel
theorem dX5_name_21 : decode cX5_name 21 = .ok (.aload_n 0, 1) := by decide +kernel
theorem dX5_name_22 : decode cX5_name 22 = .ok (.getfield 41, 3) := by decide +kernel
theorem dX5_name_25 : decode cX5_name 25 = .ok (.bipush 6, 2) := by decide +kernel
theorem dX5_name_27 : decode cX5_name 27 = .ok (.if_icmp .lt 5, 3) := by decide +kernel
theorem dX5_name_30 : decode cX5_name 30 = .ok (.iconst (-1), 1) := by decide +kernel
theorem dX5_name_31 : decode cX5_name 31 = .ok (.ireturn, 1) := by decide +kernel
theorem dX5_name_32 : decode cX5_name 32 = .ok (.aload_n 0, 1) := by decide +kernel
theorem dX5_name_33 : decode cX5_name 33 = .ok (.getfield 11, 3) := by decide +kernel
theorem dX5_name_36 : decode cX5_name 36 = .ok (.aload_n 0, 1) := by decide +kernel
theorem dX5_name_37 : decode cX5_name 37 = .ok (.getfield 41, 3) := by decide +kernel
theorem dX5_name_40 : decode cX5_name 40 = .ok (.iload_n 1, 1) := by decide +kernel
theorem dX5_name_41 : decode cX5_name 41 = .ok (.iastore, 1) := by decide +kernel
theorem dX5_name_42 : decode cX5_name 42 = .ok (.aload_n 0, 1) := by decide +kernel
theorem dX5_name_43 : decode cX5_name 43 = .ok (.getfield 15, 3) := by decide +kernel
theorem dX5_name_46 : decode cX5_name 46 = .ok (.aload_n 0, 1) := by decide +kernel
theorem dX5_name_47 : decode cX5_name 47 = .ok (.getfield 41, 3) := by decide +kernel
theorem dX5_name_50 : decode cX5_name 50 = .ok (.iload_n 2, 1) := by decide +kernel
theorem dX5_name_51 : decode cX5_name 51 = .ok (.iastore, 1) := by decide +kernel
theorem dX5_name_52 : decode cX5_name 52 = .ok (.iconst 0, 1) := by decide +kernel
theorem dX5_name_53 : decode cX5_name 53 = .ok (.istore_n 3, 1) := by decide +kernel
theorem dX5_name_54 : decode cX5_name 54 = .ok (.iload_n 3, 1) := by decide +kernel
theorem dX5_name_55 : decode cX5_name 55 = .ok (.iconst 4, 1) := by decide +kernel
theorem dX5_name_56 : decode cX5_name 56 = .ok (.if_icmp .ge 24, 3) := by decide +kernel
theorem dX5_name_59 : decode cX5_name 59 = .ok (.aload_n 0, 1) := by decide +kernel
theorem dX5_name_60 : decode cX5_name 60 = .ok (.getfield 25, 3) := by decide +kernel
theorem dX5_name_63 : decode cX5_name 63 = .ok (.aload_n 0, 1) := by decide +kernel
theorem dX5_name_64 : decode cX5_name 64 = .ok (.getfield 41, 3) := by decide +kernel
theorem dX5_name_67 : decode cX5_name 67 = .ok (.iconst 4, 1) := by decide +kernel
theorem dX5_name_68 : decode cX5_name 68 = .ok (.imul, 1) := by decide +kernel
theorem dX5_name_69 : decode cX5_name 69 = .ok (.iload_n 3, 1) := by decide +kernel
theorem dX5_name_70 : decode cX5_name 70 = .ok (.iadd, 1) := by decide +kernel
theorem dX5_name_71 : decode cX5_name 71 = .ok (.bipush 16, 2) := by decide +kernel
theorem dX5_name_73 : decode cX5_name 73 = .ok (.iastore, 1) := by decide +kernel
theorem dX5_name_74 : decode cX5_name 74 = .ok (.iinc 3 1, 3) := by decide +kernel
theorem dX5_name_77 : decode cX5_name 77 = .ok (.goto (-23), 3) := by decide +kernel
theorem dX5_name_80 : decode cX5_name 80 = .ok (.aload_n 0, 1) := by decide +kernel
theorem dX5_name_81 : decode cX5_name 81 = .ok (.dup, 1) := by decide +kernel
theorem dX5_name_82 : decode cX5_name 82 = .ok (.getfield 41, 3) := by decide +kernel
theorem dX5_name_85 : decode cX5_name 85 = .ok (.iconst 1, 1) := by decide +kernel
theorem dX5_name_86 : decode cX5_name 86 = .ok (.iadd, 1) := by decide +kernel
theorem dX5_name_87 : decode cX5_name 87 = .ok (.putfield 41, 3) := by decide +kernel
theorem dX5_name_90 : decode cX5_name 90 = .ok (.aload_n 0, 1) := by decide +kernel
theorem dX5_name_91 : decode cX5_name 91 = .ok (.getfield 41, 3) := by decide +kernel
theorem dX5_name_94 : decode cX5_name 94 = .ok (.iconst 1, 1) := by decide +kernel
theorem dX5_name_95 : decode cX5_name 95 = .ok (.isub, 1) := by decide +kernel
theorem dX5_name_96 : decode cX5_name 96 = .ok (.ireturn, 1) := by decide +kernel
theorem dX6_areWithin_0 : decode cX6_areWithin 0 = .ok (.iload_n 1, 1) := by decide +kernel
theorem dX6_areWithin_1 : decode cX6_areWithin 1 = .ok (.ifCond .lt 41, 3) := by decide +kernel
theorem dX6_areWithin_4 : decode cX6_areWithin 4 = .ok (.iload_n 1, 1) := by decide +kernel
theorem dX6_areWithin_5 : decode cX6_areWithin 5 = .ok (.iload_n 0, 1) := by decide +kernel
theorem dX6_areWithin_6 : decode cX6_areWithin 6 = .ok (.if_icmp .gt 36, 3) := by decide +kernel
theorem dX6_areWithin_9 : decode cX6_areWithin 9 = .ok (.iload_n 2, 1) := by decide +kernel
theorem dX6_areWithin_10 : decode cX6_areWithin 10 = .ok (.ifCond .lt 32, 3) := by decide +kernel
theorem dX6_areWithin_13 : decode cX6_areWithin 13 = .ok (.iload_n 2, 1) := by decide +kernel
theorem dX6_areWithin_14 : decode cX6_areWithin 14 = .ok (.iload_n 0, 1) := by decide +kernel
theorem dX6_areWithin_15 : decode cX6_areWithin 15 = .ok (.if_icmp .gt 27, 3) := by decide +kernel
theorem dX6_areWithin_18 : decode cX6_areWithin 18 = .ok (.iload_n 3, 1) := by decide +kernel
theorem dX6_areWithin_19 : decode cX6_areWithin 19 = .ok (.ifCond .lt 23, 3) := by decide +kernel
theorem dX6_areWithin_22 : decode cX6_areWithin 22 = .ok (.iload_n 3, 1) := by decide +kernel
theorem dX6_areWithin_23 : decode cX6_areWithin 23 = .ok (.iload_n 0, 1) := by decide +kernel
theorem dX6_areWithin_24 : decode cX6_areWithin 24 = .ok (.if_icmp .gt 18, 3) := by decide +kernel
theorem dX6_areWithin_27 : decode cX6_areWithin 27 = .ok (.iload 4, 2) := by decide +kernel
theorem dX6_areWithin_29 : decode cX6_areWithin 29 = .ok (.ifCond .lt 13, 3) := by decide +kernel
theorem dX6_areWithin_32 : decode cX6_areWithin 32 = .ok (.iload 4, 2) := by decide +kernel
theorem dX6_areWithin_34 : decode cX6_areWithin 34 = .ok (.iload_n 0, 1) := by decide +kernel
theorem dX6_areWithin_35 : decode cX6_areWithin 35 = .ok (.if_icmp .gt 7, 3) := by decide +kernel
theorem dX6_areWithin_38 : decode cX6_areWithin 38 = .ok (.iconst 1, 1) := by decide +kernel
theorem dX6_areWithin_39 : decode cX6_areWithin 39 = .ok (.goto 4, 3) := by decide +kernel
theorem dX6_areWithin_42 : decode cX6_areWithin 42 = .ok (.iconst 0, 1) := by decide +kernel
theorem dX6_areWithin_43 : decode cX6_areWithin 43 = .ok (.ireturn, 1) := by decide +kernel
theorem dX6_has_0 : decode cX6_has 0 = .ok (.iload_n 0, 1) := by decide +kernel
theorem dX6_has_1 : decode cX6_has 1 = .ok (.ifCond .lt 12, 3) := by decide +kernel
theorem dX6_has_4 : decode cX6_has 4 = .ok (.iload_n 0, 1) := by decide +kernel
theorem dX6_has_5 : decode cX6_has 5 = .ok (.iconst 3, 1) := by decide +kernel
theorem dX6_has_6 : decode cX6_has 6 = .ok (.if_icmp .ge 7, 3) := by decide +kernel
theorem dX6_has_9 : decode cX6_has 9 = .ok (.iconst 1, 1) := by decide +kernel
theorem dX6_has_10 : decode cX6_has 10 = .ok (.goto 4, 3) := by decide +kernel
theorem dX6_has_13 : decode cX6_has 13 = .ok (.iconst 0, 1) := by decide +kernel
theorem dX6_has_14 : decode cX6_has 14 = .ok (.ireturn, 1) := by decide +kernel
theorem dX7_clear_0 : decode cX7_clear 0 = .ok (.aload_n 0, 1) := by decide +kernel
theorem dX7_clear_1 : decode cX7_clear 1 = .ok (.iconst 0, 1) := by decide +kernel
theorem dX7_clear_2 : decode cX7_clear 2 = .ok (.putfield 19, 3) := by decide +kernel
theorem dX7_clear_5 : decode cX7_clear 5 = .ok (.aload_n 0, 1) := by decide +kernel
theorem dX7_clear_6 : decode cX7_clear 6 = .ok (.iconst 0, 1) := by decide +kernel
theorem dX7_clear_7 : decode cX7_clear 7 = .ok (.putfield 23, 3) := by decide +kernel
theorem dX7_clear_10 : decode cX7_clear 10 = .ok (.aload_n 0, 1) := by decide +kernel
theorem dX7_clear_11 : decode cX7_clear 11 = .ok (.iconst 0, 1) := by decide +kernel
theorem dX7_clear_12 : decode cX7_clear 12 = .ok (.putfield 26, 3) := by decide +kernel
theorem dX7_clear_15 : decode cX7_clear 15 = .ok (.return_, 1) := by decide +kernel
theorem dX8_read_0 : decode cX8_read 0 = .ok (.aload_n 0, 1) := by decide +kernel
theorem dX8_read_1 : decode cX8_read 1 = .ok (.getfield 42, 3) := by decide +kernel
theorem dX8_read_4 : decode cX8_read 4 = .ok (.iload_n 1, 1) := by decide +kernel
theorem dX8_read_5 : decode cX8_read 5 = .ok (.iconst 0, 1) := by decide +kernel
theorem dX8_read_6 : decode cX8_read 6 = .ok (.invokevirtual 46, 3) := by decide +kernel
theorem dX8_read_9 : decode cX8_read 9 = .ok (.aload_n 0, 1) := by decide +kernel
theorem dX8_read_10 : decode cX8_read 10 = .ok (.getfield 35, 3) := by decide +kernel
theorem dX8_read_13 : decode cX8_read 13 = .ok (.invokevirtual 51, 3) := by decide +kernel
theorem dX8_read_16 : decode cX8_read 16 = .ok (.iconst 0, 1) := by decide +kernel
theorem dX8_read_17 : decode cX8_read 17 = .ok (.istore_n 2, 1) := by decide +kernel
theorem dX8_read_18 : decode cX8_read 18 = .ok (.iload_n 2, 1) := by decide +kernel
theorem dX8_read_19 : decode cX8_read 19 = .ok (.sipush 700, 3) := by decide +kernel
theorem dX8_read_22 : decode cX8_read 22 = .ok (.if_icmp .ge 28, 3) := by decide +kernel
theorem dX8_read_25 : decode cX8_read 25 = .ok (.aload_n 0, 1) := by decide +kernel
theorem dX8_read_26 : decode cX8_read 26 = .ok (.getfield 42, 3) := by decide +kernel
theorem dX8_read_29 : decode cX8_read 29 = .ok (.getfield 54, 3) := by decide +kernel
theorem dX8_read_32 : decode cX8_read 32 = .ok (.ifCond .eq 18, 3) := by decide +kernel
theorem dX8_read_50 : decode cX8_read 50 = .ok (.aload_n 0, 1) := by decide +kernel
theorem dX8_read_51 : decode cX8_read 51 = .ok (.getfield 35, 3) := by decide +kernel
theorem dX8_read_54 : decode cX8_read 54 = .ok (.astore_n 2, 1) := by decide +kernel
theorem dX8_read_55 : decode cX8_read 55 = .ok (.aload_n 0, 1) := by decide +kernel
theorem dX8_read_56 : decode cX8_read 56 = .ok (.aload_n 0, 1) := by decide +kernel
theorem dX8_read_57 : decode cX8_read 57 = .ok (.getfield 39, 3) := by decide +kernel
theorem dX8_read_60 : decode cX8_read 60 = .ok (.putfield 35, 3) := by decide +kernel
theorem dX8_read_63 : decode cX8_read 63 = .ok (.aload_n 0, 1) := by decide +kernel
theorem dX8_read_64 : decode cX8_read 64 = .ok (.aload_n 2, 1) := by decide +kernel
theorem dX8_read_65 : decode cX8_read 65 = .ok (.putfield 39, 3) := by decide +kernel
theorem dX8_read_68 : decode cX8_read 68 = .ok (.iconst 1, 1) := by decide +kernel
theorem dX8_read_69 : decode cX8_read 69 = .ok (.ireturn, 1) := by decide +kernel
