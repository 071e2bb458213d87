theorem dX11_reads_0 : decode cX11_reads 0 = .ok (.iload_n 1, 1) := by decide +kernel
theorem dX11_reads_1 : decode cX11_reads 1 = .ok (.invokestatic 234, 3) := by decide +kernel
theorem dX11_reads_4 : decode cX11_reads 4 = .ok (.ifCond .eq 12, 3) := by decide +kernel
theorem dX11_reads_7 : decode cX11_reads 7 = .ok (.iload_n 2, 1) := by decide +kernel
theorem dX11_reads_8 : decode cX11_reads 8 = .ok (.ifCond .lt 8, 3) := by decide +kernel
theorem dX11_reads_11 : decode cX11_reads 11 = .ok (.iload_n 2, 1) := by decide +kernel
theorem dX11_reads_12 : decode cX11_reads 12 = .ok (.iconst 4, 1) := by decide +kernel
theorem dX11_reads_13 : decode cX11_reads 13 = .ok (.if_icmp .lt 5, 3) := by decide +kernel
theorem dX11_reads_16 : decode cX11_reads 16 = .ok (.iconst 0, 1) := by decide +kernel
theorem dX11_reads_17 : decode cX11_reads 17 = .ok (.ireturn, 1) := by decide +kernel
theorem dX11_reads_18 : decode cX11_reads 18 = .ok (.bipush 16, 2) := by decide +kernel
theorem dX11_reads_20 : decode cX11_reads 20 = .ok (.iload_n 3, 1) := by decide +kernel
theorem dX11_reads_21 : decode cX11_reads 21 = .ok (.iload 4, 2) := by decide +kernel
theorem dX11_reads_23 : decode cX11_reads 23 = .ok (.iload 5, 2) := by decide +kernel
theorem dX11_reads_25 : decode cX11_reads 25 = .ok (.iload 6, 2) := by decide +kernel
theorem dX11_reads_27 : decode cX11_reads 27 = .ok (.invokestatic 237, 3) := by decide +kernel
theorem dX11_reads_30 : decode cX11_reads 30 = .ok (.ifCond .eq 18, 3) := by decide +kernel
theorem dX11_reads_33 : decode cX11_reads 33 = .ok (.iload_n 3, 1) := by decide +kernel
theorem dX11_reads_34 : decode cX11_reads 34 = .ok (.iload 4, 2) := by decide +kernel
theorem dX11_reads_36 : decode cX11_reads 36 = .ok (.iadd, 1) := by decide +kernel
theorem dX11_reads_37 : decode cX11_reads 37 = .ok (.iload 5, 2) := by decide +kernel
theorem dX11_reads_39 : decode cX11_reads 39 = .ok (.iadd, 1) := by decide +kernel
theorem dX11_reads_40 : decode cX11_reads 40 = .ok (.iload 6, 2) := by decide +kernel
theorem dX11_reads_42 : decode cX11_reads 42 = .ok (.iadd, 1) := by decide +kernel
theorem dX11_reads_43 : decode cX11_reads 43 = .ok (.bipush 16, 2) := by decide +kernel
theorem dX11_reads_45 : decode cX11_reads 45 = .ok (.if_icmp .eq 5, 3) := by decide +kernel
theorem dX11_reads_48 : decode cX11_reads 48 = .ok (.iconst 0, 1) := by decide +kernel
theorem dX11_reads_49 : decode cX11_reads 49 = .ok (.ireturn, 1) := by decide +kernel
theorem dX11_reads_50 : decode cX11_reads 50 = .ok (.aload_n 0, 1) := by decide +kernel
theorem dX11_reads_51 : decode cX11_reads 51 = .ok (.getfield 49, 3) := by decide +kernel
theorem dX11_reads_54 : decode cX11_reads 54 = .ok (.iload_n 1, 1) := by decide +kernel
theorem dX11_reads_55 : decode cX11_reads 55 = .ok (.iload_n 2, 1) := by decide +kernel
theorem dX11_reads_56 : decode cX11_reads 56 = .ok (.iload_n 3, 1) := by decide +kernel
theorem dX11_reads_57 : decode cX11_reads 57 = .ok (.iload 4, 2) := by decide +kernel
theorem dX11_reads_59 : decode cX11_reads 59 = .ok (.iload 5, 2) := by decide +kernel
theorem dX11_reads_61 : decode cX11_reads 61 = .ok (.iload 6, 2) := by decide +kernel
theorem dX11_reads_63 : decode cX11_reads 63 = .ok (.invokevirtual 241, 3) := by decide +kernel
theorem dX11_reads_66 : decode cX11_reads 66 = .ok (.iconst 1, 1) := by decide +kernel
theorem dX11_reads_67 : decode cX11_reads 67 = .ok (.ireturn, 1) := by decide +kernel
theorem dX12_bed_0 : decode cX12_bed 0 = .ok (.aload_n 0, 1) := by decide +kernel
theorem dX12_bed_1 : decode cX12_bed 1 = .ok (.iconst 0, 1) := by decide +kernel
theorem dX12_bed_2 : decode cX12_bed 2 = .ok (.putfield 145, 3) := by decide +kernel
theorem dX12_bed_5 : decode cX12_bed 5 = .ok (.aload_n 0, 1) := by decide +kernel
theorem dX12_bed_6 : decode cX12_bed 6 = .ok (.iload_n 1, 1) := by decide +kernel
theorem dX12_bed_7 : decode cX12_bed 7 = .ok (.invokevirtual 170, 3) := by decide +kernel
theorem dX12_bed_10 : decode cX12_bed 10 = .ok (.ifCond .eq 20, 3) := by decide +kernel
theorem dX12_bed_13 : decode cX12_bed 13 = .ok (.aload_n 0, 1) := by decide +kernel
theorem dX12_bed_14 : decode cX12_bed 14 = .ok (.iload_n 2, 1) := by decide +kernel
theorem dX12_bed_15 : decode cX12_bed 15 = .ok (.invokevirtual 157, 3) := by decide +kernel
theorem dX12_bed_18 : decode cX12_bed 18 = .ok (.ifCond .eq 12, 3) := by decide +kernel
theorem dX12_bed_30 : decode cX12_bed 30 = .ok (.bipush (-2), 2) := by decide +kernel
theorem dX12_bed_32 : decode cX12_bed 32 = .ok (.ireturn, 1) := by decide +kernel
theorem dX12_begins_0 : decode cX12_begins 0 = .ok (.aload_n 0, 1) := by decide +kernel
theorem dX12_begins_1 : decode cX12_begins 1 = .ok (.iload_n 1, 1) := by decide +kernel
theorem dX12_begins_2 : decode cX12_begins 2 = .ok (.putfield 204, 3) := by decide +kernel
theorem dX12_begins_5 : decode cX12_begins 5 = .ok (.aload_n 0, 1) := by decide +kernel
theorem dX12_begins_6 : decode cX12_begins 6 = .ok (.iconst 0, 1) := by decide +kernel
theorem dX12_begins_7 : decode cX12_begins 7 = .ok (.putfield 148, 3) := by decide +kernel
theorem dX12_begins_10 : decode cX12_begins 10 = .ok (.aload_n 0, 1) := by decide +kernel
theorem dX12_begins_11 : decode cX12_begins 11 = .ok (.iconst 0, 1) := by decide +kernel
theorem dX12_begins_12 : decode cX12_begins 12 = .ok (.putfield 198, 3) := by decide +kernel
theorem dX12_begins_15 : decode cX12_begins 15 = .ok (.aload_n 0, 1) := by decide +kernel
theorem dX12_begins_16 : decode cX12_begins 16 = .ok (.iconst (-1), 1) := by decide +kernel
theorem dX12_begins_17 : decode cX12_begins 17 = .ok (.putfield 75, 3) := by decide +kernel
theorem dX12_begins_20 : decode cX12_begins 20 = .ok (.aload_n 0, 1) := by decide +kernel
theorem dX12_begins_21 : decode cX12_begins 21 = .ok (.iconst 0, 1) := by decide +kernel
theorem dX12_begins_22 : decode cX12_begins 22 = .ok (.putfield 207, 3) := by decide +kernel
theorem dX12_begins_25 : decode cX12_begins 25 = .ok (.aload_n 0, 1) := by decide +kernel
theorem dX12_begins_26 : decode cX12_begins 26 = .ok (.iload_n 2, 1) := by decide +kernel
theorem dX12_begins_27 : decode cX12_begins 27 = .ok (.invokevirtual 236, 3) := by decide +kernel
theorem dX12_begins_30 : decode cX12_begins 30 = .ok (.return_, 1) := by decide +kernel
theorem dX12_cause_0 : decode cX12_cause 0 = .ok (.aload_n 0, 1) := by decide +kernel
theorem dX12_cause_1 : decode cX12_cause 1 = .ok (.iconst 0, 1) := by decide +kernel
theorem dX12_cause_2 : decode cX12_cause 2 = .ok (.putfield 145, 3) := by decide +kernel
theorem dX12_cause_5 : decode cX12_cause 5 = .ok (.iload_n 1, 1) := by decide +kernel
theorem dX12_cause_6 : decode cX12_cause 6 = .ok (.ifCond .lt 19, 3) := by decide +kernel
theorem dX12_cause_9 : decode cX12_cause 9 = .ok (.iload_n 1, 1) := by decide +kernel
theorem dX12_cause_10 : decode cX12_cause 10 = .ok (.aload_n 0, 1) := by decide +kernel
theorem dX12_cause_11 : decode cX12_cause 11 = .ok (.getfield 390, 3) := by decide +kernel
theorem dX12_cause_14 : decode cX12_cause 14 = .ok (.if_icmp .ge 11, 3) := by decide +kernel
theorem dX12_cause_25 : decode cX12_cause 25 = .ok (.ldc2_w 396, 3) := by decide +kernel
theorem dX12_cause_28 : decode cX12_cause 28 = .ok (.lreturn, 1) := by decide +kernel
theorem dX12_column_0 : decode cX12_column 0 = .ok (.aload_n 0, 1) := by decide +kernel
theorem dX12_column_1 : decode cX12_column 1 = .ok (.iconst 0, 1) := by decide +kernel
theorem dX12_column_2 : decode cX12_column 2 = .ok (.putfield 145, 3) := by decide +kernel
theorem dX12_column_5 : decode cX12_column 5 = .ok (.aload_n 0, 1) := by decide +kernel
theorem dX12_column_6 : decode cX12_column 6 = .ok (.getfield 181, 3) := by decide +kernel
theorem dX12_column_9 : decode cX12_column 9 = .ok (.bipush 10, 2) := by decide +kernel
theorem dX12_column_11 : decode cX12_column 11 = .ok (.if_icmp .eq 27, 3) := by decide +kernel
theorem dX12_column_14 : decode cX12_column 14 = .ok (.iload_n 1, 1) := by decide +kernel
theorem dX12_column_15 : decode cX12_column 15 = .ok (.ifCond .lt 23, 3) := by decide +kernel
theorem dX12_column_18 : decode cX12_column 18 = .ok (.iload_n 1, 1) := by decide +kernel
theorem dX12_column_19 : decode cX12_column 19 = .ok (.aload_n 0, 1) := by decide +kernel
theorem dX12_column_20 : decode cX12_column 20 = .ok (.getfield 47, 3) := by decide +kernel
theorem dX12_column_23 : decode cX12_column 23 = .ok (.if_icmp .ge 15, 3) := by decide +kernel
theorem dX12_column_26 : decode cX12_column 26 = .ok (.iload_n 2, 1) := by decide +kernel
theorem dX12_column_27 : decode cX12_column 27 = .ok (.ifCond .lt 11, 3) := by decide +kernel
theorem dX12_column_30 : decode cX12_column 30 = .ok (.iload_n 2, 1) := by decide +kernel
theorem dX12_column_31 : decode cX12_column 31 = .ok (.aload_n 0, 1) := by decide +kernel
theorem dX12_column_32 : decode cX12_column 32 = .ok (.getfield 51, 3) := by decide +kernel
theorem dX12_column_35 : decode cX12_column 35 = .ok (.if_icmp .lt 5, 3) := by decide +kernel
theorem dX12_column_38 : decode cX12_column 38 = .ok (.iconst (-1), 1) := by decide +kernel
theorem dX12_column_39 : decode cX12_column 39 = .ok (.ireturn, 1) := by decide +kernel
theorem dX12_column_40 : decode cX12_column 40 = .ok (.iconst 0, 1) := by decide +kernel
theorem dX12_column_41 : decode cX12_column 41 = .ok (.istore_n 3, 1) := by decide +kernel
theorem dX12_column_42 : decode cX12_column 42 = .ok (.iload_n 3, 1) := by decide +kernel
theorem dX12_column_43 : decode cX12_column 43 = .ok (.aload_n 0, 1) := by decide +kernel
theorem dX12_column_44 : decode cX12_column 44 = .ok (.getfield 181, 3) := by decide +kernel
theorem dX12_column_47 : decode cX12_column 47 = .ok (.if_icmp .ge 31, 3) := by decide +kernel
theorem dX12_column_78 : decode cX12_column 78 = .ok (.aload_n 0, 1) := by decide +kernel
theorem dX12_column_79 : decode cX12_column 79 = .ok (.getfield 54, 3) := by decide +kernel
theorem dX12_column_82 : decode cX12_column 82 = .ok (.aload_n 0, 1) := by decide +kernel
theorem dX12_column_83 : decode cX12_column 83 = .ok (.getfield 181, 3) := by decide +kernel
theorem dX12_column_86 : decode cX12_column 86 = .ok (.iload_n 1, 1) := by decide +kernel
theorem dX12_column_87 : decode cX12_column 87 = .ok (.iastore, 1) := by decide +kernel
theorem dX12_column_88 : decode cX12_column 88 = .ok (.aload_n 0, 1) := by decide +kernel
theorem dX12_column_89 : decode cX12_column 89 = .ok (.getfield 57, 3) := by decide +kernel
theorem dX12_column_92 : decode cX12_column 92 = .ok (.aload_n 0, 1) := by decide +kernel
theorem dX12_column_93 : decode cX12_column 93 = .ok (.getfield 181, 3) := by decide +kernel
theorem dX12_column_96 : decode cX12_column 96 = .ok (.iload_n 2, 1) := by decide +kernel
theorem dX12_column_97 : decode cX12_column 97 = .ok (.iastore, 1) := by decide +kernel
theorem dX12_column_98 : decode cX12_column 98 = .ok (.iconst 0, 1) := by decide +kernel
theorem dX12_column_99 : decode cX12_column 99 = .ok (.istore_n 3, 1) := by decide +kernel
theorem dX12_column_100 : decode cX12_column 100 = .ok (.iload_n 3, 1) := by decide +kernel
theorem dX12_column_101 : decode cX12_column 101 = .ok (.bipush 12, 2) := by decide +kernel
theorem dX12_column_103 : decode cX12_column 103 = .ok (.if_icmp .ge 24, 3) := by decide +kernel
theorem dX12_column_106 : decode cX12_column 106 = .ok (.aload_n 0, 1) := by decide +kernel
theorem dX12_column_107 : decode cX12_column 107 = .ok (.getfield 60, 3) := by decide +kernel
theorem dX12_column_110 : decode cX12_column 110 = .ok (.bipush 12, 2) := by decide +kernel
theorem dX12_column_112 : decode cX12_column 112 = .ok (.aload_n 0, 1) := by decide +kernel
theorem dX12_column_113 : decode cX12_column 113 = .ok (.getfield 181, 3) := by decide +kernel
theorem dX12_column_116 : decode cX12_column 116 = .ok (.imul, 1) := by decide +kernel
theorem dX12_column_117 : decode cX12_column 117 = .ok (.iload_n 3, 1) := by decide +kernel
theorem dX12_column_118 : decode cX12_column 118 = .ok (.iadd, 1) := by decide +kernel
theorem dX12_column_119 : decode cX12_column 119 = .ok (.iconst 0, 1) := by decide +kernel
theorem dX12_column_120 : decode cX12_column 120 = .ok (.iastore, 1) := by decide +kernel
theorem dX12_column_121 : decode cX12_column 121 = .ok (.iinc 3 1, 3) := by decide +kernel
theorem dX12_column_124 : decode cX12_column 124 = .ok (.goto (-24), 3) := by decide +kernel
theorem dX12_column_127 : decode cX12_column 127 = .ok (.aload_n 0, 1) := by decide +kernel
theorem dX12_column_128 : decode cX12_column 128 = .ok (.dup, 1) := by decide +kernel
theorem dX12_column_129 : decode cX12_column 129 = .ok (.getfield 181, 3) := by decide +kernel
theorem dX12_column_132 : decode cX12_column 132 = .ok (.iconst 1, 1) := by decide +kernel
theorem dX12_column_133 : decode cX12_column 133 = .ok (.iadd, 1) := by decide +kernel
theorem dX12_column_134 : decode cX12_column 134 = .ok (.putfield 181, 3) := by decide +kernel
theorem dX12_column_137 : decode cX12_column 137 = .ok (.aload_n 0, 1) := by decide +kernel
theorem dX12_column_138 : decode cX12_column 138 = .ok (.getfield 181, 3) := by decide +kernel
theorem dX12_column_141 : decode cX12_column 141 = .ok (.iconst 1, 1) := by decide +kernel
theorem dX12_column_142 : decode cX12_column 142 = .ok (.isub, 1) := by decide +kernel
theorem dX12_column_143 : decode cX12_column 143 = .ok (.ireturn, 1) := by decide +kernel
theorem dX12_days_0 : decode cX12_days 0 = .ok (.aload_n 0, 1) := by decide +kernel
theorem dX12_days_1 : decode cX12_days 1 = .ok (.iconst 0, 1) := by decide +kernel
theorem dX12_days_2 : decode cX12_days 2 = .ok (.putfield 145, 3) := by decide +kernel
theorem dX12_days_5 : decode cX12_days 5 = .ok (.aload_n 0, 1) := by decide +kernel
theorem dX12_days_6 : decode cX12_days 6 = .ok (.iload_n 1, 1) := by decide +kernel
theorem dX12_days_7 : decode cX12_days 7 = .ok (.invokevirtual 157, 3) := by decide +kernel
theorem dX12_days_10 : decode cX12_days 10 = .ok (.ifCond .eq 25, 3) := by decide +kernel
theorem dX12_days_35 : decode cX12_days 35 = .ok (.ldc2_w 274, 3) := by decide +kernel
theorem dX12_days_38 : decode cX12_days 38 = .ok (.lreturn, 1) := by decide +kernel
theorem dX12_eaten_0 : decode cX12_eaten 0 = .ok (.aload_n 0, 1) := by decide +kernel
theorem dX12_eaten_1 : decode cX12_eaten 1 = .ok (.iconst 0, 1) := by decide +kernel
theorem dX12_eaten_2 : decode cX12_eaten 2 = .ok (.putfield 145, 3) := by decide +kernel
theorem dX12_eaten_5 : decode cX12_eaten 5 = .ok (.aload_n 0, 1) := by decide +kernel
theorem dX12_eaten_6 : decode cX12_eaten 6 = .ok (.iload_n 1, 1) := by decide +kernel
theorem dX12_eaten_7 : decode cX12_eaten 7 = .ok (.invokevirtual 157, 3) := by decide +kernel
theorem dX12_eaten_10 : decode cX12_eaten 10 = .ok (.ifCond .eq 25, 3) := by decide +kernel
theorem dX12_eaten_35 : decode cX12_eaten 35 = .ok (.ldc2_w 274, 3) := by decide +kernel
theorem dX12_eaten_38 : decode cX12_eaten 38 = .ok (.lreturn, 1) := by decide +kernel
theorem dX12_fails_0 : decode cX12_fails 0 = .ok (.aload_n 0, 1) := by decide +kernel
theorem dX12_fails_1 : decode cX12_fails 1 = .ok (.iload_n 1, 1) := by decide +kernel
theorem dX12_fails_2 : decode cX12_fails 2 = .ok (.putfield 145, 3) := by decide +kernel
theorem dX12_fails_5 : decode cX12_fails 5 = .ok (.iconst 0, 1) := by decide +kernel
theorem dX12_fails_6 : decode cX12_fails 6 = .ok (.ireturn, 1) := by decide +kernel
theorem dX12_fault_0 : decode cX12_fault 0 = .ok (.aload_n 0, 1) := by decide +kernel
theorem dX12_fault_1 : decode cX12_fault 1 = .ok (.iconst 0, 1) := by decide +kernel
theorem dX12_fault_2 : decode cX12_fault 2 = .ok (.putfield 145, 3) := by decide +kernel
theorem dX12_fault_5 : decode cX12_fault 5 = .ok (.iload_n 1, 1) := by decide +kernel
theorem dX12_fault_6 : decode cX12_fault 6 = .ok (.ifCond .ne 10, 3) := by decide +kernel
theorem dX12_fault_9 : decode cX12_fault 9 = .ok (.aload_n 0, 1) := by decide +kernel
theorem dX12_fault_10 : decode cX12_fault 10 = .ok (.getfield 198, 3) := by decide +kernel
theorem dX12_fault_13 : decode cX12_fault 13 = .ok (.goto 16, 3) := by decide +kernel
theorem dX12_fault_16 : decode cX12_fault 16 = .ok (.iload_n 1, 1) := by decide +kernel
theorem dX12_fault_17 : decode cX12_fault 17 = .ok (.iconst 1, 1) := by decide +kernel
theorem dX12_fault_18 : decode cX12_fault 18 = .ok (.if_icmp .ne 10, 3) := by decide +kernel
theorem dX12_fault_21 : decode cX12_fault 21 = .ok (.aload_n 0, 1) := by decide +kernel
theorem dX12_fault_22 : decode cX12_fault 22 = .ok (.getfield 75, 3) := by decide +kernel
theorem dX12_fault_25 : decode cX12_fault 25 = .ok (.goto 4, 3) := by decide +kernel
theorem dX12_fault_28 : decode cX12_fault 28 = .ok (.iconst (-1), 1) := by decide +kernel
theorem dX12_fault_29 : decode cX12_fault 29 = .ok (.ireturn, 1) := by decide +kernel
theorem dX12_feed_0 : decode cX12_feed 0 = .ok (.aload_n 0, 1) := by decide +kernel
theorem dX12_feed_1 : decode cX12_feed 1 = .ok (.iconst 0, 1) := by decide +kernel
theorem dX12_feed_2 : decode cX12_feed 2 = .ok (.putfield 145, 3) := by decide +kernel
theorem dX12_feed_5 : decode cX12_feed 5 = .ok (.aload_n 0, 1) := by decide +kernel
theorem dX12_feed_6 : decode cX12_feed 6 = .ok (.getfield 148, 3) := by decide +kernel
theorem dX12_feed_9 : decode cX12_feed 9 = .ok (.bipush 20, 2) := by decide +kernel
theorem dX12_feed_11 : decode cX12_feed 11 = .ok (.iadd, 1) := by decide +kernel
theorem dX12_feed_12 : decode cX12_feed 12 = .ok (.sipush 700, 3) := by decide +kernel
theorem dX12_feed_15 : decode cX12_feed 15 = .ok (.if_icmp .le 5, 3) := by decide +kernel
theorem dX12_feed_20 : decode cX12_feed 20 = .ok (.iconst 0, 1) := by decide +kernel
theorem dX12_feed_21 : decode cX12_feed 21 = .ok (.istore 6, 2) := by decide +kernel
theorem dX12_feed_23 : decode cX12_feed 23 = .ok (.iload 6, 2) := by decide +kernel
theorem dX12_feed_25 : decode cX12_feed 25 = .ok (.bipush 20, 2) := by decide +kernel
theorem dX12_feed_27 : decode cX12_feed 27 = .ok (.if_icmp .ge 86, 3) := by decide +kernel
theorem dX12_feed_30 : decode cX12_feed 30 = .ok (.iload 6, 2) := by decide +kernel
theorem dX12_feed_32 : decode cX12_feed 32 = .ok (.iconst 4, 1) := by decide +kernel
theorem dX12_feed_33 : decode cX12_feed 33 = .ok (.if_icmp .ge 7, 3) := by decide +kernel
theorem dX12_feed_36 : decode cX12_feed 36 = .ok (.iload_n 1, 1) := by decide +kernel
theorem dX12_feed_37 : decode cX12_feed 37 = .ok (.goto 39, 3) := by decide +kernel
theorem dX12_feed_40 : decode cX12_feed 40 = .ok (.iload 6, 2) := by decide +kernel
theorem dX12_feed_42 : decode cX12_feed 42 = .ok (.bipush 8, 2) := by decide +kernel
theorem dX12_feed_44 : decode cX12_feed 44 = .ok (.if_icmp .ge 7, 3) := by decide +kernel
theorem dX12_feed_47 : decode cX12_feed 47 = .ok (.iload_n 2, 1) := by decide +kernel
theorem dX12_feed_48 : decode cX12_feed 48 = .ok (.goto 28, 3) := by decide +kernel
theorem dX12_feed_51 : decode cX12_feed 51 = .ok (.iload 6, 2) := by decide +kernel
theorem dX12_feed_53 : decode cX12_feed 53 = .ok (.bipush 12, 2) := by decide +kernel
theorem dX12_feed_55 : decode cX12_feed 55 = .ok (.if_icmp .ge 7, 3) := by decide +kernel
theorem dX12_feed_58 : decode cX12_feed 58 = .ok (.iload_n 3, 1) := by decide +kernel
theorem dX12_feed_59 : decode cX12_feed 59 = .ok (.goto 17, 3) := by decide +kernel
theorem dX12_feed_62 : decode cX12_feed 62 = .ok (.iload 6, 2) := by decide +kernel
theorem dX12_feed_64 : decode cX12_feed 64 = .ok (.bipush 16, 2) := by decide +kernel
theorem dX12_feed_66 : decode cX12_feed 66 = .ok (.if_icmp .ge 8, 3) := by decide +kernel
theorem dX12_feed_69 : decode cX12_feed 69 = .ok (.iload 4, 2) := by decide +kernel
theorem dX12_feed_71 : decode cX12_feed 71 = .ok (.goto 5, 3) := by decide +kernel
theorem dX12_feed_74 : decode cX12_feed 74 = .ok (.iload 5, 2) := by decide +kernel
theorem dX12_feed_76 : decode cX12_feed 76 = .ok (.istore 7, 2) := by decide +kernel
theorem dX12_feed_78 : decode cX12_feed 78 = .ok (.aload_n 0, 1) := by decide +kernel
theorem dX12_feed_79 : decode cX12_feed 79 = .ok (.getfield 7, 3) := by decide +kernel
theorem dX12_feed_82 : decode cX12_feed 82 = .ok (.aload_n 0, 1) := by decide +kernel
theorem dX12_feed_83 : decode cX12_feed 83 = .ok (.getfield 148, 3) := by decide +kernel
theorem dX12_feed_86 : decode cX12_feed 86 = .ok (.iload 6, 2) := by decide +kernel
theorem dX12_feed_88 : decode cX12_feed 88 = .ok (.iadd, 1) := by decide +kernel
theorem dX12_feed_89 : decode cX12_feed 89 = .ok (.iload 7, 2) := by decide +kernel
theorem dX12_feed_91 : decode cX12_feed 91 = .ok (.bipush 24, 2) := by decide +kernel
theorem dX12_feed_93 : decode cX12_feed 93 = .ok (.bipush 8, 2) := by decide +kernel
theorem dX12_feed_95 : decode cX12_feed 95 = .ok (.iload 6, 2) := by decide +kernel
theorem dX12_feed_97 : decode cX12_feed 97 = .ok (.iconst 4, 1) := by decide +kernel
theorem dX12_feed_98 : decode cX12_feed 98 = .ok (.irem, 1) := by decide +kernel
theorem dX12_feed_99 : decode cX12_feed 99 = .ok (.imul, 1) := by decide +kernel
theorem dX12_feed_100 : decode cX12_feed 100 = .ok (.isub, 1) := by decide +kernel
theorem dX12_feed_101 : decode cX12_feed 101 = .ok (.ishr, 1) := by decide +kernel
theorem dX12_feed_102 : decode cX12_feed 102 = .ok (.sipush 255, 3) := by decide +kernel
theorem dX12_feed_105 : decode cX12_feed 105 = .ok (.iand, 1) := by decide +kernel
theorem dX12_feed_106 : decode cX12_feed 106 = .ok (.iastore, 1) := by decide +kernel
theorem dX12_feed_107 : decode cX12_feed 107 = .ok (.iinc 6 1, 3) := by decide +kernel
theorem dX12_feed_110 : decode cX12_feed 110 = .ok (.goto (-87), 3) := by decide +kernel
theorem dX12_feed_113 : decode cX12_feed 113 = .ok (.aload_n 0, 1) := by decide +kernel
theorem dX12_feed_114 : decode cX12_feed 114 = .ok (.dup, 1) := by decide +kernel
theorem dX12_feed_115 : decode cX12_feed 115 = .ok (.getfield 148, 3) := by decide +kernel
theorem dX12_feed_118 : decode cX12_feed 118 = .ok (.bipush 20, 2) := by decide +kernel
theorem dX12_feed_120 : decode cX12_feed 120 = .ok (.iadd, 1) := by decide +kernel
theorem dX12_feed_121 : decode cX12_feed 121 = .ok (.putfield 148, 3) := by decide +kernel
theorem dX12_feed_124 : decode cX12_feed 124 = .ok (.aload_n 0, 1) := by decide +kernel
theorem dX12_feed_125 : decode cX12_feed 125 = .ok (.getfield 148, 3) := by decide +kernel
theorem dX12_feed_128 : decode cX12_feed 128 = .ok (.ireturn, 1) := by decide +kernel
theorem dX12_finds_0 : decode cX12_finds 0 = .ok (.aload_n 0, 1) := by decide +kernel
theorem dX12_finds_1 : decode cX12_finds 1 = .ok (.iconst 0, 1) := by decide +kernel
theorem dX12_finds_2 : decode cX12_finds 2 = .ok (.putfield 145, 3) := by decide +kernel
theorem dX12_finds_5 : decode cX12_finds 5 = .ok (.iload_n 1, 1) := by decide +kernel
theorem dX12_finds_6 : decode cX12_finds 6 = .ok (.ifCond .lt 28, 3) := by decide +kernel
theorem dX12_finds_9 : decode cX12_finds 9 = .ok (.iload_n 1, 1) := by decide +kernel
theorem dX12_finds_10 : decode cX12_finds 10 = .ok (.aload_n 0, 1) := by decide +kernel
theorem dX12_finds_11 : decode cX12_finds 11 = .ok (.getfield 148, 3) := by decide +kernel
theorem dX12_finds_14 : decode cX12_finds 14 = .ok (.if_icmp .gt 20, 3) := by decide +kernel
theorem dX12_finds_17 : decode cX12_finds 17 = .ok (.aload_n 0, 1) := by decide +kernel
theorem dX12_finds_18 : decode cX12_finds 18 = .ok (.iload_n 2, 1) := by decide +kernel
theorem dX12_finds_19 : decode cX12_finds 19 = .ok (.invokevirtual 157, 3) := by decide +kernel
theorem dX12_finds_22 : decode cX12_finds 22 = .ok (.ifCond .eq 12, 3) := by decide +kernel
theorem dX12_finds_34 : decode cX12_finds 34 = .ok (.bipush (-2), 2) := by decide +kernel
theorem dX12_finds_36 : decode cX12_finds 36 = .ok (.ireturn, 1) := by decide +kernel
theorem dX12_heap_0 : decode cX12_heap 0 = .ok (.aload_n 0, 1) := by decide +kernel
theorem dX12_heap_1 : decode cX12_heap 1 = .ok (.iconst 0, 1) := by decide +kernel
theorem dX12_heap_2 : decode cX12_heap 2 = .ok (.putfield 145, 3) := by decide +kernel
theorem dX12_heap_5 : decode cX12_heap 5 = .ok (.iload_n 1, 1) := by decide +kernel
theorem dX12_heap_6 : decode cX12_heap 6 = .ok (.iconst 2, 1) := by decide +kernel
theorem dX12_heap_7 : decode cX12_heap 7 = .ok (.if_icmp .lt 20, 3) := by decide +kernel
theorem dX12_heap_10 : decode cX12_heap 10 = .ok (.iload_n 1, 1) := by decide +kernel
theorem dX12_heap_11 : decode cX12_heap 11 = .ok (.bipush 12, 2) := by decide +kernel
theorem dX12_heap_13 : decode cX12_heap 13 = .ok (.if_icmp .gt 14, 3) := by decide +kernel
theorem dX12_heap_16 : decode cX12_heap 16 = .ok (.iload_n 2, 1) := by decide +kernel
theorem dX12_heap_17 : decode cX12_heap 17 = .ok (.iconst 2, 1) := by decide +kernel
theorem dX12_heap_18 : decode cX12_heap 18 = .ok (.if_icmp .lt 9, 3) := by decide +kernel
theorem dX12_heap_21 : decode cX12_heap 21 = .ok (.iload_n 2, 1) := by decide +kernel
theorem dX12_heap_22 : decode cX12_heap 22 = .ok (.bipush 12, 2) := by decide +kernel
theorem dX12_heap_24 : decode cX12_heap 24 = .ok (.if_icmp .le 5, 3) := by decide +kernel
theorem dX12_heap_27 : decode cX12_heap 27 = .ok (.iconst 0, 1) := by decide +kernel
theorem dX12_heap_28 : decode cX12_heap 28 = .ok (.ireturn, 1) := by decide +kernel
theorem dX12_heap_29 : decode cX12_heap 29 = .ok (.aload_n 0, 1) := by decide +kernel
theorem dX12_heap_30 : decode cX12_heap 30 = .ok (.iload_n 1, 1) := by decide +kernel
theorem dX12_heap_31 : decode cX12_heap 31 = .ok (.putfield 47, 3) := by decide +kernel
theorem dX12_heap_34 : decode cX12_heap 34 = .ok (.aload_n 0, 1) := by decide +kernel
theorem dX12_heap_35 : decode cX12_heap 35 = .ok (.iload_n 2, 1) := by decide +kernel
theorem dX12_heap_36 : decode cX12_heap 36 = .ok (.putfield 51, 3) := by decide +kernel
theorem dX12_heap_39 : decode cX12_heap 39 = .ok (.aload_n 0, 1) := by decide +kernel
theorem dX12_heap_40 : decode cX12_heap 40 = .ok (.iconst 0, 1) := by decide +kernel
theorem dX12_heap_41 : decode cX12_heap 41 = .ok (.putfield 181, 3) := by decide +kernel
theorem dX12_heap_44 : decode cX12_heap 44 = .ok (.iconst 1, 1) := by decide +kernel
theorem dX12_heap_45 : decode cX12_heap 45 = .ok (.ireturn, 1) := by decide +kernel
theorem dX12_holds_0 : decode cX12_holds 0 = .ok (.aload_n 0, 1) := by decide +kernel
theorem dX12_holds_1 : decode cX12_holds 1 = .ok (.iconst 0, 1) := by decide +kernel
theorem dX12_holds_2 : decode cX12_holds 2 = .ok (.putfield 145, 3) := by decide +kernel
theorem dX12_holds_5 : decode cX12_holds 5 = .ok (.aload_n 0, 1) := by decide +kernel
theorem dX12_holds_6 : decode cX12_holds 6 = .ok (.iload_n 1, 1) := by decide +kernel
theorem dX12_holds_7 : decode cX12_holds 7 = .ok (.invokevirtual 157, 3) := by decide +kernel
theorem dX12_holds_10 : decode cX12_holds 10 = .ok (.ifCond .eq 19, 3) := by decide +kernel
theorem dX12_holds_29 : decode cX12_holds 29 = .ok (.iconst (-1), 1) := by decide +kernel
theorem dX12_holds_30 : decode cX12_holds 30 = .ok (.ireturn, 1) := by decide +kernel
theorem dX12_isKind_0 : decode cX12_isKind 0 = .ok (.iload_n 1, 1) := by decide +kernel
theorem dX12_isKind_1 : decode cX12_isKind 1 = .ok (.ifCond .lt 15, 3) := by decide +kernel
theorem dX12_isKind_4 : decode cX12_isKind 4 = .ok (.iload_n 1, 1) := by decide +kernel
theorem dX12_isKind_5 : decode cX12_isKind 5 = .ok (.aload_n 0, 1) := by decide +kernel
theorem dX12_isKind_6 : decode cX12_isKind 6 = .ok (.getfield 192, 3) := by decide +kernel
theorem dX12_isKind_9 : decode cX12_isKind 9 = .ok (.if_icmp .ge 7, 3) := by decide +kernel
theorem dX12_isKind_16 : decode cX12_isKind 16 = .ok (.iconst 0, 1) := by decide +kernel
theorem dX12_isKind_17 : decode cX12_isKind 17 = .ok (.ireturn, 1) := by decide +kernel
theorem dX12_isKnown_0 : decode cX12_isKnown 0 = .ok (.iload_n 1, 1) := by decide +kernel
theorem dX12_isKnown_1 : decode cX12_isKnown 1 = .ok (.ifCond .lt 15, 3) := by decide +kernel
theorem dX12_isKnown_4 : decode cX12_isKnown 4 = .ok (.iload_n 1, 1) := by decide +kernel
theorem dX12_isKnown_5 : decode cX12_isKnown 5 = .ok (.aload_n 0, 1) := by decide +kernel
theorem dX12_isKnown_6 : decode cX12_isKnown 6 = .ok (.getfield 154, 3) := by decide +kernel
theorem dX12_isKnown_9 : decode cX12_isKnown 9 = .ok (.if_icmp .gt 7, 3) := by decide +kernel
theorem dX12_isKnown_12 : decode cX12_isKnown 12 = .ok (.iconst 1, 1) := by decide +kernel
theorem dX12_isKnown_13 : decode cX12_isKnown 13 = .ok (.goto 4, 3) := by decide +kernel
theorem dX12_isKnown_16 : decode cX12_isKnown 16 = .ok (.iconst 0, 1) := by decide +kernel
theorem dX12_isKnown_17 : decode cX12_isKnown 17 = .ok (.ireturn, 1) := by decide +kernel
theorem dX12_isLayer_0 : decode cX12_isLayer 0 = .ok (.iload_n 1, 1) := by decide +kernel
theorem dX12_isLayer_1 : decode cX12_isLayer 1 = .ok (.ifCond .lt 15, 3) := by decide +kernel
theorem dX12_isLayer_4 : decode cX12_isLayer 4 = .ok (.iload_n 1, 1) := by decide +kernel
theorem dX12_isLayer_5 : decode cX12_isLayer 5 = .ok (.aload_n 0, 1) := by decide +kernel
theorem dX12_isLayer_6 : decode cX12_isLayer 6 = .ok (.getfield 151, 3) := by decide +kernel
theorem dX12_isLayer_9 : decode cX12_isLayer 9 = .ok (.if_icmp .ge 7, 3) := by decide +kernel
theorem dX12_isLayer_16 : decode cX12_isLayer 16 = .ok (.iconst 0, 1) := by decide +kernel
theorem dX12_isLayer_17 : decode cX12_isLayer 17 = .ok (.ireturn, 1) := by decide +kernel
theorem dX12_isReader_0 : decode cX12_isReader 0 = .ok (.iload_n 0, 1) := by decide +kernel
theorem dX12_isReader_1 : decode cX12_isReader 1 = .ok (.ifCond .lt 12, 3) := by decide +kernel
theorem dX12_isReader_4 : decode cX12_isReader 4 = .ok (.iload_n 0, 1) := by decide +kernel
theorem dX12_isReader_5 : decode cX12_isReader 5 = .ok (.iconst 3, 1) := by decide +kernel
theorem dX12_isReader_6 : decode cX12_isReader 6 = .ok (.if_icmp .ge 7, 3) := by decide +kernel
theorem dX12_isReader_9 : decode cX12_isReader 9 = .ok (.iconst 1, 1) := by decide +kernel
theorem dX12_isReader_10 : decode cX12_isReader 10 = .ok (.goto 4, 3) := by decide +kernel
theorem dX12_isReader_13 : decode cX12_isReader 13 = .ok (.iconst 0, 1) := by decide +kernel
theorem dX12_isReader_14 : decode cX12_isReader 14 = .ok (.ireturn, 1) := by decide +kernel
theorem dX12_kept_0 : decode cX12_kept 0 = .ok (.aload_n 0, 1) := by decide +kernel
theorem dX12_kept_1 : decode cX12_kept 1 = .ok (.iconst 0, 1) := by decide +kernel
theorem dX12_kept_2 : decode cX12_kept 2 = .ok (.putfield 145, 3) := by decide +kernel
theorem dX12_kept_5 : decode cX12_kept 5 = .ok (.aload_n 0, 1) := by decide +kernel
theorem dX12_kept_6 : decode cX12_kept 6 = .ok (.iload_n 1, 1) := by decide +kernel
theorem dX12_kept_7 : decode cX12_kept 7 = .ok (.invokevirtual 195, 3) := by decide +kernel
theorem dX12_kept_10 : decode cX12_kept 10 = .ok (.ifCond .eq 23, 3) := by decide +kernel
theorem dX12_kept_33 : decode cX12_kept 33 = .ok (.iconst 0, 1) := by decide +kernel
theorem dX12_kept_34 : decode cX12_kept 34 = .ok (.ireturn, 1) := by decide +kernel
theorem dX12_kind_0 : decode cX12_kind 0 = .ok (.aload_n 0, 1) := by decide +kernel
theorem dX12_kind_1 : decode cX12_kind 1 = .ok (.iconst 0, 1) := by decide +kernel
theorem dX12_kind_2 : decode cX12_kind 2 = .ok (.putfield 145, 3) := by decide +kernel
theorem dX12_kind_5 : decode cX12_kind 5 = .ok (.aload_n 0, 1) := by decide +kernel
theorem dX12_kind_6 : decode cX12_kind 6 = .ok (.getfield 192, 3) := by decide +kernel
theorem dX12_kind_9 : decode cX12_kind 9 = .ok (.bipush 6, 2) := by decide +kernel
theorem dX12_kind_11 : decode cX12_kind 11 = .ok (.if_icmp .eq 24, 3) := by decide +kernel
theorem dX12_kind_14 : decode cX12_kind 14 = .ok (.iload_n 1, 1) := by decide +kernel
theorem dX12_kind_15 : decode cX12_kind 15 = .ok (.ifCond .lt 20, 3) := by decide +kernel
theorem dX12_kind_18 : decode cX12_kind 18 = .ok (.iload_n 1, 1) := by decide +kernel
theorem dX12_kind_19 : decode cX12_kind 19 = .ok (.sipush 999, 3) := by decide +kernel
theorem dX12_kind_22 : decode cX12_kind 22 = .ok (.if_icmp .gt 13, 3) := by decide +kernel
theorem dX12_kind_25 : decode cX12_kind 25 = .ok (.iload_n 2, 1) := by decide +kernel
theorem dX12_kind_26 : decode cX12_kind 26 = .ok (.iconst 1, 1) := by decide +kernel
theorem dX12_kind_27 : decode cX12_kind 27 = .ok (.if_icmp .lt 8, 3) := by decide +kernel
theorem dX12_kind_30 : decode cX12_kind 30 = .ok (.iload_n 2, 1) := by decide +kernel
theorem dX12_kind_31 : decode cX12_kind 31 = .ok (.iconst 2, 1) := by decide +kernel
theorem dX12_kind_32 : decode cX12_kind 32 = .ok (.if_icmp .le 5, 3) := by decide +kernel
theorem dX12_kind_35 : decode cX12_kind 35 = .ok (.iconst (-1), 1) := by decide +kernel
theorem dX12_kind_36 : decode cX12_kind 36 = .ok (.ireturn, 1) := by decide +kernel
theorem dX12_kind_37 : decode cX12_kind 37 = .ok (.aload_n 0, 1) := by decide +kernel
theorem dX12_kind_38 : decode cX12_kind 38 = .ok (.getfield 63, 3) := by decide +kernel
theorem dX12_kind_41 : decode cX12_kind 41 = .ok (.aload_n 0, 1) := by decide +kernel
theorem dX12_kind_42 : decode cX12_kind 42 = .ok (.getfield 192, 3) := by decide +kernel
theorem dX12_kind_45 : decode cX12_kind 45 = .ok (.iload_n 1, 1) := by decide +kernel
theorem dX12_kind_46 : decode cX12_kind 46 = .ok (.iastore, 1) := by decide +kernel
theorem dX12_kind_47 : decode cX12_kind 47 = .ok (.aload_n 0, 1) := by decide +kernel
theorem dX12_kind_48 : decode cX12_kind 48 = .ok (.getfield 66, 3) := by decide +kernel
theorem dX12_kind_51 : decode cX12_kind 51 = .ok (.aload_n 0, 1) := by decide +kernel
theorem dX12_kind_52 : decode cX12_kind 52 = .ok (.getfield 192, 3) := by decide +kernel
theorem dX12_kind_55 : decode cX12_kind 55 = .ok (.iload_n 2, 1) := by decide +kernel
theorem dX12_kind_56 : decode cX12_kind 56 = .ok (.iastore, 1) := by decide +kernel
theorem dX12_kind_57 : decode cX12_kind 57 = .ok (.aload_n 0, 1) := by decide +kernel
theorem dX12_kind_58 : decode cX12_kind 58 = .ok (.dup, 1) := by decide +kernel
theorem dX12_kind_59 : decode cX12_kind 59 = .ok (.getfield 192, 3) := by decide +kernel
theorem dX12_kind_62 : decode cX12_kind 62 = .ok (.iconst 1, 1) := by decide +kernel
theorem dX12_kind_63 : decode cX12_kind 63 = .ok (.iadd, 1) := by decide +kernel
theorem dX12_kind_64 : decode cX12_kind 64 = .ok (.putfield 192, 3) := by decide +kernel
theorem dX12_kind_67 : decode cX12_kind 67 = .ok (.aload_n 0, 1) := by decide +kernel
theorem dX12_kind_68 : decode cX12_kind 68 = .ok (.getfield 192, 3) := by decide +kernel
theorem dX12_kind_71 : decode cX12_kind 71 = .ok (.iconst 1, 1) := by decide +kernel
theorem dX12_kind_72 : decode cX12_kind 72 = .ok (.isub, 1) := by decide +kernel
theorem dX12_kind_73 : decode cX12_kind 73 = .ok (.ireturn, 1) := by decide +kernel
theorem dX12_layer_0 : decode cX12_layer 0 = .ok (.aload_n 0, 1) := by decide +kernel
theorem dX12_layer_1 : decode cX12_layer 1 = .ok (.iconst 0, 1) := by decide +kernel
theorem dX12_layer_2 : decode cX12_layer 2 = .ok (.putfield 145, 3) := by decide +kernel
theorem dX12_layer_5 : decode cX12_layer 5 = .ok (.aload_n 0, 1) := by decide +kernel
theorem dX12_layer_6 : decode cX12_layer 6 = .ok (.getfield 151, 3) := by decide +kernel
theorem dX12_layer_9 : decode cX12_layer 9 = .ok (.bipush 12, 2) := by decide +kernel
theorem dX12_layer_11 : decode cX12_layer 11 = .ok (.if_icmp .ne 5, 3) := by decide +kernel
theorem dX12_layer_16 : decode cX12_layer 16 = .ok (.aload_n 0, 1) := by decide +kernel
theorem dX12_layer_17 : decode cX12_layer 17 = .ok (.dup, 1) := by decide +kernel
theorem dX12_layer_18 : decode cX12_layer 18 = .ok (.getfield 151, 3) := by decide +kernel
theorem dX12_layer_21 : decode cX12_layer 21 = .ok (.iconst 1, 1) := by decide +kernel
theorem dX12_layer_22 : decode cX12_layer 22 = .ok (.iadd, 1) := by decide +kernel
theorem dX12_layer_23 : decode cX12_layer 23 = .ok (.putfield 151, 3) := by decide +kernel
theorem dX12_layer_26 : decode cX12_layer 26 = .ok (.aload_n 0, 1) := by decide +kernel
theorem dX12_layer_27 : decode cX12_layer 27 = .ok (.getfield 151, 3) := by decide +kernel
theorem dX12_layer_30 : decode cX12_layer 30 = .ok (.iconst 1, 1) := by decide +kernel
theorem dX12_layer_31 : decode cX12_layer 31 = .ok (.isub, 1) := by decide +kernel
theorem dX12_layer_32 : decode cX12_layer 32 = .ok (.ireturn, 1) := by decide +kernel
theorem dX12_measure_0 : decode cX12_measure 0 = .ok (.aload_n 0, 1) := by decide +kernel
theorem dX12_measure_1 : decode cX12_measure 1 = .ok (.iconst 0, 1) := by decide +kernel
theorem dX12_measure_2 : decode cX12_measure 2 = .ok (.putfield 145, 3) := by decide +kernel
theorem dX12_measure_5 : decode cX12_measure 5 = .ok (.aload_n 0, 1) := by decide +kernel
theorem dX12_measure_6 : decode cX12_measure 6 = .ok (.iload_n 1, 1) := by decide +kernel
theorem dX12_measure_7 : decode cX12_measure 7 = .ok (.invokevirtual 157, 3) := by decide +kernel
theorem dX12_measure_10 : decode cX12_measure 10 = .ok (.ifCond .eq 45, 3) := by decide +kernel
theorem dX12_measure_55 : decode cX12_measure 55 = .ok (.iconst (-1), 1) := by decide +kernel
theorem dX12_measure_56 : decode cX12_measure 56 = .ok (.ireturn, 1) := by decide +kernel
theorem dX12_middle_0 : decode cX12_middle 0 = .ok (.aload_n 0, 1) := by decide +kernel
theorem dX12_middle_1 : decode cX12_middle 1 = .ok (.iconst 0, 1) := by decide +kernel
theorem dX12_middle_2 : decode cX12_middle 2 = .ok (.putfield 145, 3) := by decide +kernel
theorem dX12_middle_5 : decode cX12_middle 5 = .ok (.aload_n 0, 1) := by decide +kernel
theorem dX12_middle_6 : decode cX12_middle 6 = .ok (.iload_n 1, 1) := by decide +kernel
theorem dX12_middle_7 : decode cX12_middle 7 = .ok (.invokevirtual 157, 3) := by decide +kernel
theorem dX12_middle_10 : decode cX12_middle 10 = .ok (.ifCond .eq 12, 3) := by decide +kernel
theorem dX12_middle_22 : decode cX12_middle 22 = .ok (.bipush (-2), 2) := by decide +kernel
theorem dX12_middle_24 : decode cX12_middle 24 = .ok (.ireturn, 1) := by decide +kernel
theorem dX12_note_0 : decode cX12_note 0 = .ok (.aload_n 0, 1) := by decide +kernel
theorem dX12_note_1 : decode cX12_note 1 = .ok (.iconst 0, 1) := by decide +kernel
theorem dX12_note_2 : decode cX12_note 2 = .ok (.putfield 145, 3) := by decide +kernel
theorem dX12_note_5 : decode cX12_note 5 = .ok (.iload_n 1, 1) := by decide +kernel
theorem dX12_note_6 : decode cX12_note 6 = .ok (.ifCond .lt 25, 3) := by decide +kernel
theorem dX12_note_9 : decode cX12_note 9 = .ok (.iload_n 1, 1) := by decide +kernel
theorem dX12_note_10 : decode cX12_note 10 = .ok (.iconst 3, 1) := by decide +kernel
theorem dX12_note_11 : decode cX12_note 11 = .ok (.if_icmp .gt 20, 3) := by decide +kernel
theorem dX12_note_14 : decode cX12_note 14 = .ok (.aload_n 0, 1) := by decide +kernel
theorem dX12_note_15 : decode cX12_note 15 = .ok (.getfield 154, 3) := by decide +kernel
theorem dX12_note_18 : decode cX12_note 18 = .ok (.bipush 80, 2) := by decide +kernel
theorem dX12_note_20 : decode cX12_note 20 = .ok (.if_icmp .eq 11, 3) := by decide +kernel
theorem dX12_note_23 : decode cX12_note 23 = .ok (.aload_n 0, 1) := by decide +kernel
theorem dX12_note_24 : decode cX12_note 24 = .ok (.iload_n 2, 1) := by decide +kernel
theorem dX12_note_25 : decode cX12_note 25 = .ok (.invokevirtual 157, 3) := by decide +kernel
theorem dX12_note_28 : decode cX12_note 28 = .ok (.ifCond .ne 5, 3) := by decide +kernel
theorem dX12_note_31 : decode cX12_note 31 = .ok (.iconst (-1), 1) := by decide +kernel
theorem dX12_note_32 : decode cX12_note 32 = .ok (.ireturn, 1) := by decide +kernel
theorem dX12_order_0 : decode cX12_order 0 = .ok (.aload_n 0, 1) := by decide +kernel
theorem dX12_order_1 : decode cX12_order 1 = .ok (.iconst 0, 1) := by decide +kernel
theorem dX12_order_2 : decode cX12_order 2 = .ok (.putfield 145, 3) := by decide +kernel
theorem dX12_order_5 : decode cX12_order 5 = .ok (.aload_n 0, 1) := by decide +kernel
theorem dX12_order_6 : decode cX12_order 6 = .ok (.iload_n 1, 1) := by decide +kernel
theorem dX12_order_7 : decode cX12_order 7 = .ok (.invokevirtual 170, 3) := by decide +kernel
theorem dX12_order_10 : decode cX12_order 10 = .ok (.ifCond .eq 19, 3) := by decide +kernel
theorem dX12_order_13 : decode cX12_order 13 = .ok (.aload_n 0, 1) := by decide +kernel
theorem dX12_order_14 : decode cX12_order 14 = .ok (.iload_n 2, 1) := by decide +kernel
theorem dX12_order_15 : decode cX12_order 15 = .ok (.invokevirtual 157, 3) := by decide +kernel
theorem dX12_order_18 : decode cX12_order 18 = .ok (.ifCond .eq 11, 3) := by decide +kernel
theorem dX12_order_29 : decode cX12_order 29 = .ok (.iconst (-1), 1) := by decide +kernel
theorem dX12_order_30 : decode cX12_order 30 = .ok (.ireturn, 1) := by decide +kernel
theorem dX12_readings_0 : decode cX12_readings 0 = .ok (.aload_n 0, 1) := by decide +kernel
theorem dX12_readings_1 : decode cX12_readings 1 = .ok (.iconst 0, 1) := by decide +kernel
theorem dX12_readings_2 : decode cX12_readings 2 = .ok (.putfield 145, 3) := by decide +kernel
theorem dX12_readings_5 : decode cX12_readings 5 = .ok (.aload_n 0, 1) := by decide +kernel
theorem dX12_readings_6 : decode cX12_readings 6 = .ok (.iload_n 1, 1) := by decide +kernel
theorem dX12_readings_7 : decode cX12_readings 7 = .ok (.invokevirtual 157, 3) := by decide +kernel
theorem dX12_readings_10 : decode cX12_readings 10 = .ok (.ifCond .eq 54, 3) := by decide +kernel
theorem dX12_readings_64 : decode cX12_readings 64 = .ok (.iconst (-1), 1) := by decide +kernel
theorem dX12_readings_65 : decode cX12_readings 65 = .ok (.ireturn, 1) := by decide +kernel
theorem dX12_reads_0 : decode cX12_reads 0 = .ok (.aload_n 0, 1) := by decide +kernel
theorem dX12_reads_1 : decode cX12_reads 1 = .ok (.iconst 0, 1) := by decide +kernel
theorem dX12_reads_2 : decode cX12_reads 2 = .ok (.putfield 145, 3) := by decide +kernel
theorem dX12_reads_5 : decode cX12_reads 5 = .ok (.iload_n 1, 1) := by decide +kernel
theorem dX12_reads_6 : decode cX12_reads 6 = .ok (.invokestatic 288, 3) := by decide +kernel
theorem dX12_reads_9 : decode cX12_reads 9 = .ok (.ifCond .eq 73, 3) := by decide +kernel
theorem dX12_reads_12 : decode cX12_reads 12 = .ok (.iload_n 2, 1) := by decide +kernel
theorem dX12_reads_13 : decode cX12_reads 13 = .ok (.ifCond .lt 69, 3) := by decide +kernel
theorem dX12_reads_16 : decode cX12_reads 16 = .ok (.iload_n 2, 1) := by decide +kernel
theorem dX12_reads_17 : decode cX12_reads 17 = .ok (.iconst 3, 1) := by decide +kernel
theorem dX12_reads_18 : decode cX12_reads 18 = .ok (.if_icmp .gt 64, 3) := by decide +kernel
theorem dX12_reads_21 : decode cX12_reads 21 = .ok (.iload_n 3, 1) := by decide +kernel
theorem dX12_reads_22 : decode cX12_reads 22 = .ok (.ifCond .lt 60, 3) := by decide +kernel
theorem dX12_reads_25 : decode cX12_reads 25 = .ok (.iload 4, 2) := by decide +kernel
theorem dX12_reads_27 : decode cX12_reads 27 = .ok (.ifCond .lt 55, 3) := by decide +kernel
theorem dX12_reads_30 : decode cX12_reads 30 = .ok (.iload 5, 2) := by decide +kernel
theorem dX12_reads_32 : decode cX12_reads 32 = .ok (.ifCond .lt 50, 3) := by decide +kernel
theorem dX12_reads_35 : decode cX12_reads 35 = .ok (.iload 6, 2) := by decide +kernel
theorem dX12_reads_37 : decode cX12_reads 37 = .ok (.ifCond .lt 45, 3) := by decide +kernel
theorem dX12_reads_40 : decode cX12_reads 40 = .ok (.iload_n 3, 1) := by decide +kernel
theorem dX12_reads_41 : decode cX12_reads 41 = .ok (.bipush 16, 2) := by decide +kernel
theorem dX12_reads_43 : decode cX12_reads 43 = .ok (.if_icmp .gt 39, 3) := by decide +kernel
theorem dX12_reads_46 : decode cX12_reads 46 = .ok (.iload 4, 2) := by decide +kernel
theorem dX12_reads_48 : decode cX12_reads 48 = .ok (.bipush 16, 2) := by decide +kernel
theorem dX12_reads_50 : decode cX12_reads 50 = .ok (.if_icmp .gt 32, 3) := by decide +kernel
theorem dX12_reads_53 : decode cX12_reads 53 = .ok (.iload 5, 2) := by decide +kernel
theorem dX12_reads_55 : decode cX12_reads 55 = .ok (.bipush 16, 2) := by decide +kernel
theorem dX12_reads_57 : decode cX12_reads 57 = .ok (.if_icmp .gt 25, 3) := by decide +kernel
theorem dX12_reads_60 : decode cX12_reads 60 = .ok (.iload 6, 2) := by decide +kernel
theorem dX12_reads_62 : decode cX12_reads 62 = .ok (.bipush 16, 2) := by decide +kernel
theorem dX12_reads_64 : decode cX12_reads 64 = .ok (.if_icmp .gt 18, 3) := by decide +kernel
theorem dX12_reads_67 : decode cX12_reads 67 = .ok (.iload_n 3, 1) := by decide +kernel
theorem dX12_reads_68 : decode cX12_reads 68 = .ok (.iload 4, 2) := by decide +kernel
theorem dX12_reads_70 : decode cX12_reads 70 = .ok (.iadd, 1) := by decide +kernel
theorem dX12_reads_71 : decode cX12_reads 71 = .ok (.iload 5, 2) := by decide +kernel
theorem dX12_reads_73 : decode cX12_reads 73 = .ok (.iadd, 1) := by decide +kernel
theorem dX12_reads_74 : decode cX12_reads 74 = .ok (.iload 6, 2) := by decide +kernel
theorem dX12_reads_76 : decode cX12_reads 76 = .ok (.iadd, 1) := by decide +kernel
theorem dX12_reads_77 : decode cX12_reads 77 = .ok (.bipush 16, 2) := by decide +kernel
theorem dX12_reads_79 : decode cX12_reads 79 = .ok (.if_icmp .eq 5, 3) := by decide +kernel
theorem dX12_reads_82 : decode cX12_reads 82 = .ok (.iconst 0, 1) := by decide +kernel
theorem dX12_reads_83 : decode cX12_reads 83 = .ok (.ireturn, 1) := by decide +kernel
theorem dX12_reads_84 : decode cX12_reads 84 = .ok (.bipush 16, 2) := by decide +kernel
theorem dX12_reads_86 : decode cX12_reads 86 = .ok (.iload_n 1, 1) := by decide +kernel
theorem dX12_reads_87 : decode cX12_reads 87 = .ok (.imul, 1) := by decide +kernel
theorem dX12_reads_88 : decode cX12_reads 88 = .ok (.iconst 4, 1) := by decide +kernel
theorem dX12_reads_89 : decode cX12_reads 89 = .ok (.iload_n 2, 1) := by decide +kernel
theorem dX12_reads_90 : decode cX12_reads 90 = .ok (.imul, 1) := by decide +kernel
theorem dX12_reads_91 : decode cX12_reads 91 = .ok (.iadd, 1) := by decide +kernel
theorem dX12_reads_92 : decode cX12_reads 92 = .ok (.istore 7, 2) := by decide +kernel
theorem dX12_reads_94 : decode cX12_reads 94 = .ok (.aload_n 0, 1) := by decide +kernel
theorem dX12_reads_95 : decode cX12_reads 95 = .ok (.getfield 78, 3) := by decide +kernel
theorem dX12_reads_98 : decode cX12_reads 98 = .ok (.iload 7, 2) := by decide +kernel
theorem dX12_reads_100 : decode cX12_reads 100 = .ok (.iload_n 3, 1) := by decide +kernel
theorem dX12_reads_101 : decode cX12_reads 101 = .ok (.iastore, 1) := by decide +kernel
theorem dX12_reads_102 : decode cX12_reads 102 = .ok (.aload_n 0, 1) := by decide +kernel
theorem dX12_reads_103 : decode cX12_reads 103 = .ok (.getfield 78, 3) := by decide +kernel
theorem dX12_reads_106 : decode cX12_reads 106 = .ok (.iload 7, 2) := by decide +kernel
theorem dX12_reads_108 : decode cX12_reads 108 = .ok (.iconst 1, 1) := by decide +kernel
theorem dX12_reads_109 : decode cX12_reads 109 = .ok (.iadd, 1) := by decide +kernel
theorem dX12_reads_110 : decode cX12_reads 110 = .ok (.iload 4, 2) := by decide +kernel
theorem dX12_reads_112 : decode cX12_reads 112 = .ok (.iastore, 1) := by decide +kernel
theorem dX12_reads_113 : decode cX12_reads 113 = .ok (.aload_n 0, 1) := by decide +kernel
theorem dX12_reads_114 : decode cX12_reads 114 = .ok (.getfield 78, 3) := by decide +kernel
theorem dX12_reads_117 : decode cX12_reads 117 = .ok (.iload 7, 2) := by decide +kernel
theorem dX12_reads_119 : decode cX12_reads 119 = .ok (.iconst 2, 1) := by decide +kernel
theorem dX12_reads_120 : decode cX12_reads 120 = .ok (.iadd, 1) := by decide +kernel
theorem dX12_reads_121 : decode cX12_reads 121 = .ok (.iload 5, 2) := by decide +kernel
theorem dX12_reads_123 : decode cX12_reads 123 = .ok (.iastore, 1) := by decide +kernel
theorem dX12_reads_124 : decode cX12_reads 124 = .ok (.aload_n 0, 1) := by decide +kernel
theorem dX12_reads_125 : decode cX12_reads 125 = .ok (.getfield 78, 3) := by decide +kernel
theorem dX12_reads_128 : decode cX12_reads 128 = .ok (.iload 7, 2) := by decide +kernel
theorem dX12_reads_130 : decode cX12_reads 130 = .ok (.iconst 3, 1) := by decide +kernel
theorem dX12_reads_131 : decode cX12_reads 131 = .ok (.iadd, 1) := by decide +kernel
theorem dX12_reads_132 : decode cX12_reads 132 = .ok (.iload 6, 2) := by decide +kernel
theorem dX12_reads_134 : decode cX12_reads 134 = .ok (.iastore, 1) := by decide +kernel
theorem dX12_reads_135 : decode cX12_reads 135 = .ok (.iconst 1, 1) := by decide +kernel
theorem dX12_reads_136 : decode cX12_reads 136 = .ok (.ireturn, 1) := by decide +kernel
theorem dX12_rules_0 : decode cX12_rules 0 = .ok (.aload_n 0, 1) := by decide +kernel
theorem dX12_rules_1 : decode cX12_rules 1 = .ok (.iconst 0, 1) := by decide +kernel
theorem dX12_rules_2 : decode cX12_rules 2 = .ok (.putfield 145, 3) := by decide +kernel
theorem dX12_rules_5 : decode cX12_rules 5 = .ok (.iload_n 1, 1) := by decide +kernel
theorem dX12_rules_6 : decode cX12_rules 6 = .ok (.ifCond .lt 11, 3) := by decide +kernel
theorem dX12_rules_9 : decode cX12_rules 9 = .ok (.iload_n 1, 1) := by decide +kernel
theorem dX12_rules_10 : decode cX12_rules 10 = .ok (.aload_n 0, 1) := by decide +kernel
theorem dX12_rules_11 : decode cX12_rules 11 = .ok (.getfield 148, 3) := by decide +kernel
theorem dX12_rules_14 : decode cX12_rules 14 = .ok (.if_icmp .le 6, 3) := by decide +kernel
theorem dX12_rules_17 : decode cX12_rules 17 = .ok (.bipush (-2), 2) := by decide +kernel
theorem dX12_rules_19 : decode cX12_rules 19 = .ok (.ireturn, 1) := by decide +kernel
theorem dX12_rules_20 : decode cX12_rules 20 = .ok (.aload_n 0, 1) := by decide +kernel
theorem dX12_rules_21 : decode cX12_rules 21 = .ok (.iload_n 1, 1) := by decide +kernel
theorem dX12_rules_22 : decode cX12_rules 22 = .ok (.iconst 0, 1) := by decide +kernel
theorem dX12_rules_23 : decode cX12_rules 23 = .ok (.invokevirtual 250, 3) := by decide +kernel
theorem dX12_rules_26 : decode cX12_rules 26 = .ok (.aload_n 0, 1) := by decide +kernel
theorem dX12_rules_27 : decode cX12_rules 27 = .ok (.iconst 0, 1) := by decide +kernel
theorem dX12_rules_28 : decode cX12_rules 28 = .ok (.putfield 378, 3) := by decide +kernel
theorem dX12_rules_31 : decode cX12_rules 31 = .ok (.aload_n 0, 1) := by decide +kernel
theorem dX12_rules_32 : decode cX12_rules 32 = .ok (.iconst 0, 1) := by decide +kernel
theorem dX12_rules_33 : decode cX12_rules 33 = .ok (.putfield 317, 3) := by decide +kernel
theorem dX12_rules_36 : decode cX12_rules 36 = .ok (.aload_n 0, 1) := by decide +kernel
theorem dX12_rules_37 : decode cX12_rules 37 = .ok (.iconst 0, 1) := by decide +kernel
theorem dX12_rules_38 : decode cX12_rules 38 = .ok (.putfield 320, 3) := by decide +kernel
theorem dX12_rules_41 : decode cX12_rules 41 = .ok (.aload_n 0, 1) := by decide +kernel
theorem dX12_rules_42 : decode cX12_rules 42 = .ok (.getfield 221, 3) := by decide +kernel
theorem dX12_rules_45 : decode cX12_rules 45 = .ok (.ifCond .eq 12, 3) := by decide +kernel
theorem dX12_rules_57 : decode cX12_rules 57 = .ok (.aload_n 0, 1) := by decide +kernel
theorem dX12_rules_58 : decode cX12_rules 58 = .ok (.aload_n 0, 1) := by decide +kernel
theorem dX12_rules_59 : decode cX12_rules 59 = .ok (.getfield 378, 3) := by decide +kernel
theorem dX12_rules_62 : decode cX12_rules 62 = .ok (.putfield 390, 3) := by decide +kernel
theorem dX12_rules_65 : decode cX12_rules 65 = .ok (.aload_n 0, 1) := by decide +kernel
theorem dX12_rules_66 : decode cX12_rules 66 = .ok (.aload_n 0, 1) := by decide +kernel
theorem dX12_rules_67 : decode cX12_rules 67 = .ok (.getfield 317, 3) := by decide +kernel
theorem dX12_rules_70 : decode cX12_rules 70 = .ok (.putfield 393, 3) := by decide +kernel
theorem dX12_rules_73 : decode cX12_rules 73 = .ok (.iconst 0, 1) := by decide +kernel
theorem dX12_rules_74 : decode cX12_rules 74 = .ok (.istore_n 2, 1) := by decide +kernel
theorem dX12_rules_75 : decode cX12_rules 75 = .ok (.iload_n 2, 1) := by decide +kernel
theorem dX12_rules_76 : decode cX12_rules 76 = .ok (.bipush 6, 2) := by decide +kernel
theorem dX12_rules_78 : decode cX12_rules 78 = .ok (.if_icmp .ge 39, 3) := by decide +kernel
theorem dX12_rules_81 : decode cX12_rules 81 = .ok (.aload_n 0, 1) := by decide +kernel
theorem dX12_rules_82 : decode cX12_rules 82 = .ok (.getfield 105, 3) := by decide +kernel
theorem dX12_rules_85 : decode cX12_rules 85 = .ok (.iload_n 2, 1) := by decide +kernel
theorem dX12_rules_86 : decode cX12_rules 86 = .ok (.aload_n 0, 1) := by decide +kernel
theorem dX12_rules_87 : decode cX12_rules 87 = .ok (.getfield 105, 3) := by decide +kernel
theorem dX12_rules_90 : decode cX12_rules 90 = .ok (.bipush 6, 2) := by decide +kernel
theorem dX12_rules_92 : decode cX12_rules 92 = .ok (.iload_n 2, 1) := by decide +kernel
theorem dX12_rules_93 : decode cX12_rules 93 = .ok (.iadd, 1) := by decide +kernel
theorem dX12_rules_94 : decode cX12_rules 94 = .ok (.iaload, 1) := by decide +kernel
theorem dX12_rules_95 : decode cX12_rules 95 = .ok (.iastore, 1) := by decide +kernel
theorem dX12_rules_96 : decode cX12_rules 96 = .ok (.aload_n 0, 1) := by decide +kernel
theorem dX12_rules_97 : decode cX12_rules 97 = .ok (.getfield 108, 3) := by decide +kernel
theorem dX12_rules_100 : decode cX12_rules 100 = .ok (.iload_n 2, 1) := by decide +kernel
theorem dX12_rules_101 : decode cX12_rules 101 = .ok (.aload_n 0, 1) := by decide +kernel
theorem dX12_rules_102 : decode cX12_rules 102 = .ok (.getfield 108, 3) := by decide +kernel
theorem dX12_rules_105 : decode cX12_rules 105 = .ok (.bipush 6, 2) := by decide +kernel
theorem dX12_rules_107 : decode cX12_rules 107 = .ok (.iload_n 2, 1) := by decide +kernel
theorem dX12_rules_108 : decode cX12_rules 108 = .ok (.iadd, 1) := by decide +kernel
theorem dX12_rules_109 : decode cX12_rules 109 = .ok (.iaload, 1) := by decide +kernel
theorem dX12_rules_110 : decode cX12_rules 110 = .ok (.iastore, 1) := by decide +kernel
theorem dX12_rules_111 : decode cX12_rules 111 = .ok (.iinc 2 1, 3) := by decide +kernel
theorem dX12_rules_114 : decode cX12_rules 114 = .ok (.goto (-39), 3) := by decide +kernel
theorem dX12_rules_117 : decode cX12_rules 117 = .ok (.iconst 0, 1) := by decide +kernel
theorem dX12_rules_118 : decode cX12_rules 118 = .ok (.istore_n 2, 1) := by decide +kernel
theorem dX12_rules_119 : decode cX12_rules 119 = .ok (.iload_n 2, 1) := by decide +kernel
theorem dX12_rules_120 : decode cX12_rules 120 = .ok (.aload_n 0, 1) := by decide +kernel
theorem dX12_rules_121 : decode cX12_rules 121 = .ok (.getfield 393, 3) := by decide +kernel
theorem dX12_rules_124 : decode cX12_rules 124 = .ok (.if_icmp .ge 108, 3) := by decide +kernel
theorem dX12_rules_232 : decode cX12_rules 232 = .ok (.aload_n 0, 1) := by decide +kernel
theorem dX12_rules_233 : decode cX12_rules 233 = .ok (.getfield 390, 3) := by decide +kernel
theorem dX12_rules_236 : decode cX12_rules 236 = .ok (.ireturn, 1) := by decide +kernel
theorem dX12_season_0 : decode cX12_season 0 = .ok (.aload_n 0, 1) := by decide +kernel
theorem dX12_season_1 : decode cX12_season 1 = .ok (.iconst 0, 1) := by decide +kernel
theorem dX12_season_2 : decode cX12_season 2 = .ok (.putfield 145, 3) := by decide +kernel
theorem dX12_season_5 : decode cX12_season 5 = .ok (.aload_n 0, 1) := by decide +kernel
theorem dX12_season_6 : decode cX12_season 6 = .ok (.iload_n 1, 1) := by decide +kernel
theorem dX12_season_7 : decode cX12_season 7 = .ok (.invokevirtual 157, 3) := by decide +kernel
theorem dX12_season_10 : decode cX12_season 10 = .ok (.ifCond .eq 19, 3) := by decide +kernel
theorem dX12_season_29 : decode cX12_season 29 = .ok (.iconst (-1), 1) := by decide +kernel
theorem dX12_season_30 : decode cX12_season 30 = .ok (.ireturn, 1) := by decide +kernel
theorem dX12_stay_0 : decode cX12_stay 0 = .ok (.aload_n 0, 1) := by decide +kernel
theorem dX12_stay_1 : decode cX12_stay 1 = .ok (.iconst 0, 1) := by decide +kernel
theorem dX12_stay_2 : decode cX12_stay 2 = .ok (.putfield 145, 3) := by decide +kernel
theorem dX12_stay_5 : decode cX12_stay 5 = .ok (.aload_n 0, 1) := by decide +kernel
theorem dX12_stay_6 : decode cX12_stay 6 = .ok (.iload_n 1, 1) := by decide +kernel
theorem dX12_stay_7 : decode cX12_stay 7 = .ok (.invokevirtual 157, 3) := by decide +kernel
theorem dX12_stay_10 : decode cX12_stay 10 = .ok (.ifCond .ne 5, 3) := by decide +kernel
theorem dX12_stay_13 : decode cX12_stay 13 = .ok (.iconst (-1), 1) := by decide +kernel
theorem dX12_stay_14 : decode cX12_stay 14 = .ok (.ireturn, 1) := by decide +kernel
theorem dX12_strike_0 : decode cX12_strike 0 = .ok (.aload_n 0, 1) := by decide +kernel
theorem dX12_strike_1 : decode cX12_strike 1 = .ok (.iconst 0, 1) := by decide +kernel
theorem dX12_strike_2 : decode cX12_strike 2 = .ok (.putfield 145, 3) := by decide +kernel
theorem dX12_strike_5 : decode cX12_strike 5 = .ok (.iload_n 1, 1) := by decide +kernel
theorem dX12_strike_6 : decode cX12_strike 6 = .ok (.ifCond .lt 20, 3) := by decide +kernel
theorem dX12_strike_9 : decode cX12_strike 9 = .ok (.iload_n 1, 1) := by decide +kernel
theorem dX12_strike_10 : decode cX12_strike 10 = .ok (.aload_n 0, 1) := by decide +kernel
theorem dX12_strike_11 : decode cX12_strike 11 = .ok (.getfield 154, 3) := by decide +kernel
theorem dX12_strike_14 : decode cX12_strike 14 = .ok (.if_icmp .ge 12, 3) := by decide +kernel
theorem dX12_strike_26 : decode cX12_strike 26 = .ok (.iconst (-1), 1) := by decide +kernel
theorem dX12_strike_27 : decode cX12_strike 27 = .ok (.ireturn, 1) := by decide +kernel
theorem dX12_take_0 : decode cX12_take 0 = .ok (.aload_n 0, 1) := by decide +kernel
theorem dX12_take_1 : decode cX12_take 1 = .ok (.getfield 207, 3) := by decide +kernel
theorem dX12_take_4 : decode cX12_take 4 = .ok (.aload_n 0, 1) := by decide +kernel
theorem dX12_take_5 : decode cX12_take 5 = .ok (.getfield 204, 3) := by decide +kernel
theorem dX12_take_8 : decode cX12_take 8 = .ok (.if_icmp .ge 44, 3) := by decide +kernel
theorem dX12_take_52 : decode cX12_take 52 = .ok (.aload_n 0, 1) := by decide +kernel
theorem dX12_take_53 : decode cX12_take 53 = .ok (.aload_n 0, 1) := by decide +kernel
theorem dX12_take_54 : decode cX12_take 54 = .ok (.getfield 207, 3) := by decide +kernel
theorem dX12_take_57 : decode cX12_take 57 = .ok (.putfield 201, 3) := by decide +kernel
theorem dX12_take_60 : decode cX12_take 60 = .ok (.aload_n 0, 1) := by decide +kernel
theorem dX12_take_61 : decode cX12_take 61 = .ok (.getfield 207, 3) := by decide +kernel
theorem dX12_take_64 : decode cX12_take 64 = .ok (.aload_n 0, 1) := by decide +kernel
theorem dX12_take_65 : decode cX12_take 65 = .ok (.getfield 204, 3) := by decide +kernel
theorem dX12_take_68 : decode cX12_take 68 = .ok (.if_icmp .ne 11, 3) := by decide +kernel
theorem dX12_take_71 : decode cX12_take 71 = .ok (.aload_n 0, 1) := by decide +kernel
theorem dX12_take_72 : decode cX12_take 72 = .ok (.iconst 0, 1) := by decide +kernel
theorem dX12_take_73 : decode cX12_take 73 = .ok (.putfield 221, 3) := by decide +kernel
theorem dX12_take_76 : decode cX12_take 76 = .ok (.goto 266, 3) := by decide +kernel
theorem dX12_take_342 : decode cX12_take 342 = .ok (.return_, 1) := by decide +kernel
theorem dX12_thick_0 : decode cX12_thick 0 = .ok (.aload_n 0, 1) := by decide +kernel
theorem dX12_thick_1 : decode cX12_thick 1 = .ok (.iconst 0, 1) := by decide +kernel
theorem dX12_thick_2 : decode cX12_thick 2 = .ok (.putfield 145, 3) := by decide +kernel
theorem dX12_thick_5 : decode cX12_thick 5 = .ok (.iload_n 1, 1) := by decide +kernel
theorem dX12_thick_6 : decode cX12_thick 6 = .ok (.ifCond .lt 30, 3) := by decide +kernel
theorem dX12_thick_9 : decode cX12_thick 9 = .ok (.iload_n 1, 1) := by decide +kernel
theorem dX12_thick_10 : decode cX12_thick 10 = .ok (.aload_n 0, 1) := by decide +kernel
theorem dX12_thick_11 : decode cX12_thick 11 = .ok (.getfield 181, 3) := by decide +kernel
theorem dX12_thick_14 : decode cX12_thick 14 = .ok (.if_icmp .ge 22, 3) := by decide +kernel
theorem dX12_thick_36 : decode cX12_thick 36 = .ok (.iconst 0, 1) := by decide +kernel
theorem dX12_thick_37 : decode cX12_thick 37 = .ok (.ireturn, 1) := by decide +kernel
theorem dX12_thrown_0 : decode cX12_thrown 0 = .ok (.aload_n 0, 1) := by decide +kernel
theorem dX12_thrown_1 : decode cX12_thrown 1 = .ok (.getfield 145, 3) := by decide +kernel
theorem dX12_thrown_4 : decode cX12_thrown 4 = .ok (.ireturn, 1) := by decide +kernel
theorem dX12_why_0 : decode cX12_why 0 = .ok (.aload_n 0, 1) := by decide +kernel
theorem dX12_why_1 : decode cX12_why 1 = .ok (.iconst 0, 1) := by decide +kernel
theorem dX12_why_2 : decode cX12_why 2 = .ok (.putfield 145, 3) := by decide +kernel
theorem dX12_why_5 : decode cX12_why 5 = .ok (.aload_n 0, 1) := by decide +kernel
theorem dX12_why_6 : decode cX12_why 6 = .ok (.iload_n 1, 1) := by decide +kernel
theorem dX12_why_7 : decode cX12_why 7 = .ok (.invokevirtual 157, 3) := by decide +kernel
theorem dX12_why_10 : decode cX12_why 10 = .ok (.ifCond .ne 5, 3) := by decide +kernel
theorem dX12_why_13 : decode cX12_why 13 = .ok (.iconst (-1), 1) := by decide +kernel
theorem dX12_why_14 : decode cX12_why 14 = .ok (.ireturn, 1) := by decide +kernel
theorem dX6_setRow_0 : decode cX6_setRow 0 = .ok (.iload_n 1, 1) := by decide +kernel
theorem dX6_setRow_1 : decode cX6_setRow 1 = .ok (.iconst 4, 1) := by decide +kernel
theorem dX6_setRow_2 : decode cX6_setRow 2 = .ok (.imul, 1) := by decide +kernel
theorem dX6_setRow_3 : decode cX6_setRow 3 = .ok (.iload_n 2, 1) := by decide +kernel
theorem dX6_setRow_4 : decode cX6_setRow 4 = .ok (.iadd, 1) := by decide +kernel
theorem dX6_setRow_5 : decode cX6_setRow 5 = .ok (.iconst 4, 1) := by decide +kernel
theorem dX6_setRow_6 : decode cX6_setRow 6 = .ok (.imul, 1) := by decide +kernel
theorem dX6_setRow_7 : decode cX6_setRow 7 = .ok (.istore 7, 2) := by decide +kernel
theorem dX6_setRow_9 : decode cX6_setRow 9 = .ok (.aload_n 0, 1) := by decide +kernel
theorem dX6_setRow_10 : decode cX6_setRow 10 = .ok (.getfield 11, 3) := by decide +kernel
theorem dX6_setRow_13 : decode cX6_setRow 13 = .ok (.iload 7, 2) := by decide +kernel
theorem dX6_setRow_15 : decode cX6_setRow 15 = .ok (.iload_n 3, 1) := by decide +kernel
theorem dX6_setRow_16 : decode cX6_setRow 16 = .ok (.iastore, 1) := by decide +kernel
theorem dX6_setRow_17 : decode cX6_setRow 17 = .ok (.aload_n 0, 1) := by decide +kernel
theorem dX6_setRow_18 : decode cX6_setRow 18 = .ok (.getfield 11, 3) := by decide +kernel
theorem dX6_setRow_21 : decode cX6_setRow 21 = .ok (.iload 7, 2) := by decide +kernel
theorem dX6_setRow_23 : decode cX6_setRow 23 = .ok (.iconst 1, 1) := by decide +kernel
theorem dX6_setRow_24 : decode cX6_setRow 24 = .ok (.iadd, 1) := by decide +kernel
theorem dX6_setRow_25 : decode cX6_setRow 25 = .ok (.iload 4, 2) := by decide +kernel
theorem dX6_setRow_27 : decode cX6_setRow 27 = .ok (.iastore, 1) := by decide +kernel
theorem dX6_setRow_28 : decode cX6_setRow 28 = .ok (.aload_n 0, 1) := by decide +kernel
theorem dX6_setRow_29 : decode cX6_setRow 29 = .ok (.getfield 11, 3) := by decide +kernel
theorem dX6_setRow_32 : decode cX6_setRow 32 = .ok (.iload 7, 2) := by decide +kernel
theorem dX6_setRow_34 : decode cX6_setRow 34 = .ok (.iconst 2, 1) := by decide +kernel
theorem dX6_setRow_35 : decode cX6_setRow 35 = .ok (.iadd, 1) := by decide +kernel
theorem dX6_setRow_36 : decode cX6_setRow 36 = .ok (.iload 5, 2) := by decide +kernel
theorem dX6_setRow_38 : decode cX6_setRow 38 = .ok (.iastore, 1) := by decide +kernel
theorem dX6_setRow_39 : decode cX6_setRow 39 = .ok (.aload_n 0, 1) := by decide +kernel
theorem dX6_setRow_40 : decode cX6_setRow 40 = .ok (.getfield 11, 3) := by decide +kernel
theorem dX6_setRow_43 : decode cX6_setRow 43 = .ok (.iload 7, 2) := by decide +kernel
theorem dX6_setRow_45 : decode cX6_setRow 45 = .ok (.iconst 3, 1) := by decide +kernel
theorem dX6_setRow_46 : decode cX6_setRow 46 = .ok (.iadd, 1) := by decide +kernel
theorem dX6_setRow_47 : decode cX6_setRow 47 = .ok (.iload 6, 2) := by decide +kernel
theorem dX6_setRow_49 : decode cX6_setRow 49 = .ok (.iastore, 1) := by decide +kernel
theorem dX6_setRow_50 : decode cX6_setRow 50 = .ok (.return_, 1) := by decide +kernel
