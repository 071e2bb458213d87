theorem zwX12_bed_0 : ((cX12_bed.data.toList.drop 0).take 34).map UInt8.toNat = [42, 3, 181, 0, 145, 42, 27, 182, 0, 170, 153, 0, 20, 42, 28, 182, 0, 157, 153, 0, 12, 29, 155, 0, 8, 29, 7, 164, 0, 6, 16, 254, 172, 42] := by decide +kernel
theorem dX12_bed_0 : decode cX12_bed 0 = .ok (.aload_n 0, 1) := z_o42 (z_wat (q := 0) (j := 0) zwX12_bed_0 rfl)
theorem dX12_bed_1 : decode cX12_bed 1 = .ok (.iconst 0, 1) := z_o3 (z_wat (q := 0) (j := 1) zwX12_bed_0 rfl)
theorem dX12_bed_2 : decode cX12_bed 2 = .ok (.putfield 145, 3) := z_o181 (z_wat (q := 0) (j := 2) zwX12_bed_0 rfl) (z_wat (q := 0) (j := 3) zwX12_bed_0 rfl) (z_wat (q := 0) (j := 4) zwX12_bed_0 rfl) rfl
theorem dX12_bed_5 : decode cX12_bed 5 = .ok (.aload_n 0, 1) := z_o42 (z_wat (q := 0) (j := 5) zwX12_bed_0 rfl)
theorem dX12_bed_6 : decode cX12_bed 6 = .ok (.iload_n 1, 1) := z_o27 (z_wat (q := 0) (j := 6) zwX12_bed_0 rfl)
theorem dX12_bed_7 : decode cX12_bed 7 = .ok (.invokevirtual 170, 3) := z_o182 (z_wat (q := 0) (j := 7) zwX12_bed_0 rfl) (z_wat (q := 0) (j := 8) zwX12_bed_0 rfl) (z_wat (q := 0) (j := 9) zwX12_bed_0 rfl) rfl
theorem dX12_bed_10 : decode cX12_bed 10 = .ok (.ifCond .eq 20, 3) := z_o153 (z_wat (q := 0) (j := 10) zwX12_bed_0 rfl) (z_wat (q := 0) (j := 11) zwX12_bed_0 rfl) (z_wat (q := 0) (j := 12) zwX12_bed_0 rfl) rfl
theorem dX12_bed_13 : decode cX12_bed 13 = .ok (.aload_n 0, 1) := z_o42 (z_wat (q := 0) (j := 13) zwX12_bed_0 rfl)
theorem dX12_bed_14 : decode cX12_bed 14 = .ok (.iload_n 2, 1) := z_o28 (z_wat (q := 0) (j := 14) zwX12_bed_0 rfl)
theorem dX12_bed_15 : decode cX12_bed 15 = .ok (.invokevirtual 157, 3) := z_o182 (z_wat (q := 0) (j := 15) zwX12_bed_0 rfl) (z_wat (q := 0) (j := 16) zwX12_bed_0 rfl) (z_wat (q := 0) (j := 17) zwX12_bed_0 rfl) rfl
theorem dX12_bed_18 : decode cX12_bed 18 = .ok (.ifCond .eq 12, 3) := z_o153 (z_wat (q := 0) (j := 18) zwX12_bed_0 rfl) (z_wat (q := 0) (j := 19) zwX12_bed_0 rfl) (z_wat (q := 0) (j := 20) zwX12_bed_0 rfl) rfl
theorem dX12_bed_21 : decode cX12_bed 21 = .ok (.iload_n 3, 1) := z_o29 (z_wat (q := 0) (j := 21) zwX12_bed_0 rfl)
theorem dX12_bed_22 : decode cX12_bed 22 = .ok (.ifCond .lt 8, 3) := z_o155 (z_wat (q := 0) (j := 22) zwX12_bed_0 rfl) (z_wat (q := 0) (j := 23) zwX12_bed_0 rfl) (z_wat (q := 0) (j := 24) zwX12_bed_0 rfl) rfl
theorem dX12_bed_25 : decode cX12_bed 25 = .ok (.iload_n 3, 1) := z_o29 (z_wat (q := 0) (j := 25) zwX12_bed_0 rfl)
theorem dX12_bed_26 : decode cX12_bed 26 = .ok (.iconst 4, 1) := z_o7 (z_wat (q := 0) (j := 26) zwX12_bed_0 rfl)
theorem dX12_bed_27 : decode cX12_bed 27 = .ok (.if_icmp .le 6, 3) := z_o164 (z_wat (q := 0) (j := 27) zwX12_bed_0 rfl) (z_wat (q := 0) (j := 28) zwX12_bed_0 rfl) (z_wat (q := 0) (j := 29) zwX12_bed_0 rfl) rfl
theorem dX12_bed_30 : decode cX12_bed 30 = .ok (.bipush (-2), 2) := z_o16 (z_wat (q := 0) (j := 30) zwX12_bed_0 rfl) (z_wat (q := 0) (j := 31) zwX12_bed_0 rfl) rfl
theorem zwX12_bed_32 : ((cX12_bed.data.toList.drop 32).take 34).map UInt8.toNat = [172, 42, 27, 182, 0, 173, 42, 180, 0, 32, 28, 46, 54, 4, 29, 170, 0, 0, 0, 78, 0, 0, 0, 0, 0, 0, 0, 3, 0, 0, 0, 29, 0, 0] := by decide +kernel
theorem dX12_bed_32 : decode cX12_bed 32 = .ok (.ireturn, 1) := z_o172 (z_wat (q := 32) (j := 0) zwX12_bed_32 rfl)
theorem dX12_bed_33 : decode cX12_bed 33 = .ok (.aload_n 0, 1) := z_o42 (z_wat (q := 32) (j := 1) zwX12_bed_32 rfl)
theorem dX12_bed_34 : decode cX12_bed 34 = .ok (.iload_n 1, 1) := z_o27 (z_wat (q := 32) (j := 2) zwX12_bed_32 rfl)
theorem dX12_bed_35 : decode cX12_bed 35 = .ok (.invokevirtual 173, 3) := z_o182 (z_wat (q := 32) (j := 3) zwX12_bed_32 rfl) (z_wat (q := 32) (j := 4) zwX12_bed_32 rfl) (z_wat (q := 32) (j := 5) zwX12_bed_32 rfl) rfl
theorem dX12_bed_38 : decode cX12_bed 38 = .ok (.aload_n 0, 1) := z_o42 (z_wat (q := 32) (j := 6) zwX12_bed_32 rfl)
theorem dX12_bed_39 : decode cX12_bed 39 = .ok (.getfield 32, 3) := z_o180 (z_wat (q := 32) (j := 7) zwX12_bed_32 rfl) (z_wat (q := 32) (j := 8) zwX12_bed_32 rfl) (z_wat (q := 32) (j := 9) zwX12_bed_32 rfl) rfl
theorem dX12_bed_42 : decode cX12_bed 42 = .ok (.iload_n 2, 1) := z_o28 (z_wat (q := 32) (j := 10) zwX12_bed_32 rfl)
theorem dX12_bed_43 : decode cX12_bed 43 = .ok (.iaload, 1) := z_o46 (z_wat (q := 32) (j := 11) zwX12_bed_32 rfl)
theorem dX12_bed_44 : decode cX12_bed 44 = .ok (.istore 4, 2) := z_o54 (z_wat (q := 32) (j := 12) zwX12_bed_32 rfl) (z_wat (q := 32) (j := 13) zwX12_bed_32 rfl)
theorem dX12_bed_46 : decode cX12_bed 46 = .ok (.iload_n 3, 1) := z_o29 (z_wat (q := 32) (j := 14) zwX12_bed_32 rfl)
theorem dX12_bed_47 : decode cX12_bed 47 = .ok (.tableswitch 78 0 3 #[29, 32, 39, 59], 29) := by decide +kernel
theorem zwX12_bed_64 : ((cX12_bed.data.toList.drop 64).take 34).map UInt8.toNat = [0, 0, 0, 32, 0, 0, 0, 39, 0, 0, 0, 59, 21, 4, 172, 42, 21, 4, 182, 0, 177, 172, 42, 180, 0, 167, 4, 160, 0, 7, 2, 167, 0, 10] := by decide +kernel
theorem dX12_bed_76 : decode cX12_bed 76 = .ok (.iload 4, 2) := z_o21 (z_wat (q := 64) (j := 12) zwX12_bed_64 rfl) (z_wat (q := 64) (j := 13) zwX12_bed_64 rfl)
theorem dX12_bed_78 : decode cX12_bed 78 = .ok (.ireturn, 1) := z_o172 (z_wat (q := 64) (j := 14) zwX12_bed_64 rfl)
theorem dX12_bed_79 : decode cX12_bed 79 = .ok (.aload_n 0, 1) := z_o42 (z_wat (q := 64) (j := 15) zwX12_bed_64 rfl)
theorem dX12_bed_80 : decode cX12_bed 80 = .ok (.iload 4, 2) := z_o21 (z_wat (q := 64) (j := 16) zwX12_bed_64 rfl) (z_wat (q := 64) (j := 17) zwX12_bed_64 rfl)
theorem dX12_bed_82 : decode cX12_bed 82 = .ok (.invokevirtual 177, 3) := z_o182 (z_wat (q := 64) (j := 18) zwX12_bed_64 rfl) (z_wat (q := 64) (j := 19) zwX12_bed_64 rfl) (z_wat (q := 64) (j := 20) zwX12_bed_64 rfl) rfl
theorem dX12_bed_85 : decode cX12_bed 85 = .ok (.ireturn, 1) := z_o172 (z_wat (q := 64) (j := 21) zwX12_bed_64 rfl)
theorem dX12_bed_86 : decode cX12_bed 86 = .ok (.aload_n 0, 1) := z_o42 (z_wat (q := 64) (j := 22) zwX12_bed_64 rfl)
theorem dX12_bed_87 : decode cX12_bed 87 = .ok (.getfield 167, 3) := z_o180 (z_wat (q := 64) (j := 23) zwX12_bed_64 rfl) (z_wat (q := 64) (j := 24) zwX12_bed_64 rfl) (z_wat (q := 64) (j := 25) zwX12_bed_64 rfl) rfl
theorem dX12_bed_90 : decode cX12_bed 90 = .ok (.iconst 1, 1) := z_o4 (z_wat (q := 64) (j := 26) zwX12_bed_64 rfl)
theorem dX12_bed_91 : decode cX12_bed 91 = .ok (.if_icmp .ne 7, 3) := z_o160 (z_wat (q := 64) (j := 27) zwX12_bed_64 rfl) (z_wat (q := 64) (j := 28) zwX12_bed_64 rfl) (z_wat (q := 64) (j := 29) zwX12_bed_64 rfl) rfl
theorem dX12_bed_94 : decode cX12_bed 94 = .ok (.iconst (-1), 1) := z_o2 (z_wat (q := 64) (j := 30) zwX12_bed_64 rfl)
theorem dX12_bed_95 : decode cX12_bed 95 = .ok (.goto 10, 3) := z_o167 (z_wat (q := 64) (j := 31) zwX12_bed_64 rfl) (z_wat (q := 64) (j := 32) zwX12_bed_64 rfl) (z_wat (q := 64) (j := 33) zwX12_bed_64 rfl) rfl
theorem zwX12_bed_96 : ((cX12_bed.data.toList.drop 96).take 34).map UInt8.toNat = [0, 10, 42, 180, 0, 38, 21, 4, 46, 172, 42, 180, 0, 167, 158, 0, 7, 2, 167, 0, 10, 42, 180, 0, 41, 21, 4, 46, 172, 42, 180, 0, 167, 158] := by decide +kernel
theorem dX12_bed_98 : decode cX12_bed 98 = .ok (.aload_n 0, 1) := z_o42 (z_wat (q := 96) (j := 2) zwX12_bed_96 rfl)
theorem dX12_bed_99 : decode cX12_bed 99 = .ok (.getfield 38, 3) := z_o180 (z_wat (q := 96) (j := 3) zwX12_bed_96 rfl) (z_wat (q := 96) (j := 4) zwX12_bed_96 rfl) (z_wat (q := 96) (j := 5) zwX12_bed_96 rfl) rfl
theorem dX12_bed_102 : decode cX12_bed 102 = .ok (.iload 4, 2) := z_o21 (z_wat (q := 96) (j := 6) zwX12_bed_96 rfl) (z_wat (q := 96) (j := 7) zwX12_bed_96 rfl)
theorem dX12_bed_104 : decode cX12_bed 104 = .ok (.iaload, 1) := z_o46 (z_wat (q := 96) (j := 8) zwX12_bed_96 rfl)
theorem dX12_bed_105 : decode cX12_bed 105 = .ok (.ireturn, 1) := z_o172 (z_wat (q := 96) (j := 9) zwX12_bed_96 rfl)
theorem dX12_bed_106 : decode cX12_bed 106 = .ok (.aload_n 0, 1) := z_o42 (z_wat (q := 96) (j := 10) zwX12_bed_96 rfl)
theorem dX12_bed_107 : decode cX12_bed 107 = .ok (.getfield 167, 3) := z_o180 (z_wat (q := 96) (j := 11) zwX12_bed_96 rfl) (z_wat (q := 96) (j := 12) zwX12_bed_96 rfl) (z_wat (q := 96) (j := 13) zwX12_bed_96 rfl) rfl
theorem dX12_bed_110 : decode cX12_bed 110 = .ok (.ifCond .le 7, 3) := z_o158 (z_wat (q := 96) (j := 14) zwX12_bed_96 rfl) (z_wat (q := 96) (j := 15) zwX12_bed_96 rfl) (z_wat (q := 96) (j := 16) zwX12_bed_96 rfl) rfl
theorem dX12_bed_113 : decode cX12_bed 113 = .ok (.iconst (-1), 1) := z_o2 (z_wat (q := 96) (j := 17) zwX12_bed_96 rfl)
theorem dX12_bed_114 : decode cX12_bed 114 = .ok (.goto 10, 3) := z_o167 (z_wat (q := 96) (j := 18) zwX12_bed_96 rfl) (z_wat (q := 96) (j := 19) zwX12_bed_96 rfl) (z_wat (q := 96) (j := 20) zwX12_bed_96 rfl) rfl
theorem dX12_bed_117 : decode cX12_bed 117 = .ok (.aload_n 0, 1) := z_o42 (z_wat (q := 96) (j := 21) zwX12_bed_96 rfl)
theorem dX12_bed_118 : decode cX12_bed 118 = .ok (.getfield 41, 3) := z_o180 (z_wat (q := 96) (j := 22) zwX12_bed_96 rfl) (z_wat (q := 96) (j := 23) zwX12_bed_96 rfl) (z_wat (q := 96) (j := 24) zwX12_bed_96 rfl) rfl
theorem dX12_bed_121 : decode cX12_bed 121 = .ok (.iload 4, 2) := z_o21 (z_wat (q := 96) (j := 25) zwX12_bed_96 rfl) (z_wat (q := 96) (j := 26) zwX12_bed_96 rfl)
theorem dX12_bed_123 : decode cX12_bed 123 = .ok (.iaload, 1) := z_o46 (z_wat (q := 96) (j := 27) zwX12_bed_96 rfl)
theorem dX12_bed_124 : decode cX12_bed 124 = .ok (.ireturn, 1) := z_o172 (z_wat (q := 96) (j := 28) zwX12_bed_96 rfl)
theorem dX12_bed_125 : decode cX12_bed 125 = .ok (.aload_n 0, 1) := z_o42 (z_wat (q := 96) (j := 29) zwX12_bed_96 rfl)
theorem dX12_bed_126 : decode cX12_bed 126 = .ok (.getfield 167, 3) := z_o180 (z_wat (q := 96) (j := 30) zwX12_bed_96 rfl) (z_wat (q := 96) (j := 31) zwX12_bed_96 rfl) (z_wat (q := 96) (j := 32) zwX12_bed_96 rfl) rfl
theorem zwX12_bed_128 : ((cX12_bed.data.toList.drop 128).take 16).map UInt8.toNat = [167, 158, 0, 7, 2, 167, 0, 10, 42, 180, 0, 44, 21, 4, 46, 172] := by decide +kernel
theorem dX12_bed_129 : decode cX12_bed 129 = .ok (.ifCond .le 7, 3) := z_o158 (z_wat (q := 128) (j := 1) zwX12_bed_128 rfl) (z_wat (q := 128) (j := 2) zwX12_bed_128 rfl) (z_wat (q := 128) (j := 3) zwX12_bed_128 rfl) rfl
theorem dX12_bed_132 : decode cX12_bed 132 = .ok (.iconst (-1), 1) := z_o2 (z_wat (q := 128) (j := 4) zwX12_bed_128 rfl)
theorem dX12_bed_133 : decode cX12_bed 133 = .ok (.goto 10, 3) := z_o167 (z_wat (q := 128) (j := 5) zwX12_bed_128 rfl) (z_wat (q := 128) (j := 6) zwX12_bed_128 rfl) (z_wat (q := 128) (j := 7) zwX12_bed_128 rfl) rfl
theorem dX12_bed_136 : decode cX12_bed 136 = .ok (.aload_n 0, 1) := z_o42 (z_wat (q := 128) (j := 8) zwX12_bed_128 rfl)
theorem dX12_bed_137 : decode cX12_bed 137 = .ok (.getfield 44, 3) := z_o180 (z_wat (q := 128) (j := 9) zwX12_bed_128 rfl) (z_wat (q := 128) (j := 10) zwX12_bed_128 rfl) (z_wat (q := 128) (j := 11) zwX12_bed_128 rfl) rfl
theorem dX12_bed_140 : decode cX12_bed 140 = .ok (.iload 4, 2) := z_o21 (z_wat (q := 128) (j := 12) zwX12_bed_128 rfl) (z_wat (q := 128) (j := 13) zwX12_bed_128 rfl)
theorem dX12_bed_142 : decode cX12_bed 142 = .ok (.iaload, 1) := z_o46 (z_wat (q := 128) (j := 14) zwX12_bed_128 rfl)
theorem dX12_bed_143 : decode cX12_bed 143 = .ok (.ireturn, 1) := z_o172 (z_wat (q := 128) (j := 15) zwX12_bed_128 rfl)
theorem zwX12_cause_0 : ((cX12_cause.data.toList.drop 0).take 34).map UInt8.toNat = [42, 3, 181, 0, 145, 27, 155, 0, 19, 27, 42, 180, 1, 134, 162, 0, 11, 42, 28, 182, 0, 157, 154, 0, 7, 20, 1, 140, 173, 42, 42, 180, 0, 154] := by decide +kernel
theorem dX12_cause_0 : decode cX12_cause 0 = .ok (.aload_n 0, 1) := z_o42 (z_wat (q := 0) (j := 0) zwX12_cause_0 rfl)
theorem dX12_cause_1 : decode cX12_cause 1 = .ok (.iconst 0, 1) := z_o3 (z_wat (q := 0) (j := 1) zwX12_cause_0 rfl)
theorem dX12_cause_2 : decode cX12_cause 2 = .ok (.putfield 145, 3) := z_o181 (z_wat (q := 0) (j := 2) zwX12_cause_0 rfl) (z_wat (q := 0) (j := 3) zwX12_cause_0 rfl) (z_wat (q := 0) (j := 4) zwX12_cause_0 rfl) rfl
theorem dX12_cause_5 : decode cX12_cause 5 = .ok (.iload_n 1, 1) := z_o27 (z_wat (q := 0) (j := 5) zwX12_cause_0 rfl)
theorem dX12_cause_6 : decode cX12_cause 6 = .ok (.ifCond .lt 19, 3) := z_o155 (z_wat (q := 0) (j := 6) zwX12_cause_0 rfl) (z_wat (q := 0) (j := 7) zwX12_cause_0 rfl) (z_wat (q := 0) (j := 8) zwX12_cause_0 rfl) rfl
theorem dX12_cause_9 : decode cX12_cause 9 = .ok (.iload_n 1, 1) := z_o27 (z_wat (q := 0) (j := 9) zwX12_cause_0 rfl)
theorem dX12_cause_10 : decode cX12_cause 10 = .ok (.aload_n 0, 1) := z_o42 (z_wat (q := 0) (j := 10) zwX12_cause_0 rfl)
theorem dX12_cause_11 : decode cX12_cause 11 = .ok (.getfield 390, 3) := z_o180 (z_wat (q := 0) (j := 11) zwX12_cause_0 rfl) (z_wat (q := 0) (j := 12) zwX12_cause_0 rfl) (z_wat (q := 0) (j := 13) zwX12_cause_0 rfl) rfl
theorem dX12_cause_14 : decode cX12_cause 14 = .ok (.if_icmp .ge 11, 3) := z_o162 (z_wat (q := 0) (j := 14) zwX12_cause_0 rfl) (z_wat (q := 0) (j := 15) zwX12_cause_0 rfl) (z_wat (q := 0) (j := 16) zwX12_cause_0 rfl) rfl
theorem dX12_cause_17 : decode cX12_cause 17 = .ok (.aload_n 0, 1) := z_o42 (z_wat (q := 0) (j := 17) zwX12_cause_0 rfl)
theorem dX12_cause_18 : decode cX12_cause 18 = .ok (.iload_n 2, 1) := z_o28 (z_wat (q := 0) (j := 18) zwX12_cause_0 rfl)
theorem dX12_cause_19 : decode cX12_cause 19 = .ok (.invokevirtual 157, 3) := z_o182 (z_wat (q := 0) (j := 19) zwX12_cause_0 rfl) (z_wat (q := 0) (j := 20) zwX12_cause_0 rfl) (z_wat (q := 0) (j := 21) zwX12_cause_0 rfl) rfl
theorem dX12_cause_22 : decode cX12_cause 22 = .ok (.ifCond .ne 7, 3) := z_o154 (z_wat (q := 0) (j := 22) zwX12_cause_0 rfl) (z_wat (q := 0) (j := 23) zwX12_cause_0 rfl) (z_wat (q := 0) (j := 24) zwX12_cause_0 rfl) rfl
theorem dX12_cause_25 : decode cX12_cause 25 = .ok (.ldc2_w 396, 3) := z_o20 (z_wat (q := 0) (j := 25) zwX12_cause_0 rfl) (z_wat (q := 0) (j := 26) zwX12_cause_0 rfl) (z_wat (q := 0) (j := 27) zwX12_cause_0 rfl) rfl
theorem dX12_cause_28 : decode cX12_cause 28 = .ok (.lreturn, 1) := z_o173 (z_wat (q := 0) (j := 28) zwX12_cause_0 rfl)
theorem dX12_cause_29 : decode cX12_cause 29 = .ok (.aload_n 0, 1) := z_o42 (z_wat (q := 0) (j := 29) zwX12_cause_0 rfl)
theorem dX12_cause_30 : decode cX12_cause 30 = .ok (.aload_n 0, 1) := z_o42 (z_wat (q := 0) (j := 30) zwX12_cause_0 rfl)
theorem dX12_cause_31 : decode cX12_cause 31 = .ok (.getfield 154, 3) := z_o180 (z_wat (q := 0) (j := 31) zwX12_cause_0 rfl) (z_wat (q := 0) (j := 32) zwX12_cause_0 rfl) (z_wat (q := 0) (j := 33) zwX12_cause_0 rfl) rfl
theorem zwX12_cause_32 : ((cX12_cause.data.toList.drop 32).take 17).map UInt8.toNat = [0, 154, 182, 0, 173, 42, 27, 42, 180, 0, 32, 28, 46, 182, 1, 170, 173] := by decide +kernel
theorem dX12_cause_34 : decode cX12_cause 34 = .ok (.invokevirtual 173, 3) := z_o182 (z_wat (q := 32) (j := 2) zwX12_cause_32 rfl) (z_wat (q := 32) (j := 3) zwX12_cause_32 rfl) (z_wat (q := 32) (j := 4) zwX12_cause_32 rfl) rfl
theorem dX12_cause_37 : decode cX12_cause 37 = .ok (.aload_n 0, 1) := z_o42 (z_wat (q := 32) (j := 5) zwX12_cause_32 rfl)
theorem dX12_cause_38 : decode cX12_cause 38 = .ok (.iload_n 1, 1) := z_o27 (z_wat (q := 32) (j := 6) zwX12_cause_32 rfl)
theorem dX12_cause_39 : decode cX12_cause 39 = .ok (.aload_n 0, 1) := z_o42 (z_wat (q := 32) (j := 7) zwX12_cause_32 rfl)
theorem dX12_cause_40 : decode cX12_cause 40 = .ok (.getfield 32, 3) := z_o180 (z_wat (q := 32) (j := 8) zwX12_cause_32 rfl) (z_wat (q := 32) (j := 9) zwX12_cause_32 rfl) (z_wat (q := 32) (j := 10) zwX12_cause_32 rfl) rfl
theorem dX12_cause_43 : decode cX12_cause 43 = .ok (.iload_n 2, 1) := z_o28 (z_wat (q := 32) (j := 11) zwX12_cause_32 rfl)
theorem dX12_cause_44 : decode cX12_cause 44 = .ok (.iaload, 1) := z_o46 (z_wat (q := 32) (j := 12) zwX12_cause_32 rfl)
theorem dX12_cause_45 : decode cX12_cause 45 = .ok (.invokevirtual 426, 3) := z_o182 (z_wat (q := 32) (j := 13) zwX12_cause_32 rfl) (z_wat (q := 32) (j := 14) zwX12_cause_32 rfl) (z_wat (q := 32) (j := 15) zwX12_cause_32 rfl) rfl
theorem dX12_cause_48 : decode cX12_cause 48 = .ok (.lreturn, 1) := z_o173 (z_wat (q := 32) (j := 16) zwX12_cause_32 rfl)
theorem zwX12_causeOf_0 : ((cX12_causeOf.data.toList.drop 0).take 34).map UInt8.toNat = [20, 1, 140, 66, 3, 54, 5, 21, 5, 42, 180, 0, 108, 27, 46, 162, 0, 216, 42, 180, 0, 126, 42, 180, 0, 105, 27, 46, 21, 5, 96, 46, 54, 6] := by decide +kernel
theorem dX12_causeOf_0 : decode cX12_causeOf 0 = .ok (.ldc2_w 396, 3) := z_o20 (z_wat (q := 0) (j := 0) zwX12_causeOf_0 rfl) (z_wat (q := 0) (j := 1) zwX12_causeOf_0 rfl) (z_wat (q := 0) (j := 2) zwX12_causeOf_0 rfl) rfl
theorem dX12_causeOf_3 : decode cX12_causeOf 3 = .ok (.lstore_n 3, 1) := z_o66 (z_wat (q := 0) (j := 3) zwX12_causeOf_0 rfl)
theorem dX12_causeOf_4 : decode cX12_causeOf 4 = .ok (.iconst 0, 1) := z_o3 (z_wat (q := 0) (j := 4) zwX12_causeOf_0 rfl)
theorem dX12_causeOf_5 : decode cX12_causeOf 5 = .ok (.istore 5, 2) := z_o54 (z_wat (q := 0) (j := 5) zwX12_causeOf_0 rfl) (z_wat (q := 0) (j := 6) zwX12_causeOf_0 rfl)
theorem dX12_causeOf_7 : decode cX12_causeOf 7 = .ok (.iload 5, 2) := z_o21 (z_wat (q := 0) (j := 7) zwX12_causeOf_0 rfl) (z_wat (q := 0) (j := 8) zwX12_causeOf_0 rfl)
theorem dX12_causeOf_9 : decode cX12_causeOf 9 = .ok (.aload_n 0, 1) := z_o42 (z_wat (q := 0) (j := 9) zwX12_causeOf_0 rfl)
theorem dX12_causeOf_10 : decode cX12_causeOf 10 = .ok (.getfield 108, 3) := z_o180 (z_wat (q := 0) (j := 10) zwX12_causeOf_0 rfl) (z_wat (q := 0) (j := 11) zwX12_causeOf_0 rfl) (z_wat (q := 0) (j := 12) zwX12_causeOf_0 rfl) rfl
theorem dX12_causeOf_13 : decode cX12_causeOf 13 = .ok (.iload_n 1, 1) := z_o27 (z_wat (q := 0) (j := 13) zwX12_causeOf_0 rfl)
theorem dX12_causeOf_14 : decode cX12_causeOf 14 = .ok (.iaload, 1) := z_o46 (z_wat (q := 0) (j := 14) zwX12_causeOf_0 rfl)
theorem dX12_causeOf_15 : decode cX12_causeOf 15 = .ok (.if_icmp .ge 216, 3) := z_o162 (z_wat (q := 0) (j := 15) zwX12_causeOf_0 rfl) (z_wat (q := 0) (j := 16) zwX12_causeOf_0 rfl) (z_wat (q := 0) (j := 17) zwX12_causeOf_0 rfl) rfl
theorem dX12_causeOf_18 : decode cX12_causeOf 18 = .ok (.aload_n 0, 1) := z_o42 (z_wat (q := 0) (j := 18) zwX12_causeOf_0 rfl)
theorem dX12_causeOf_19 : decode cX12_causeOf 19 = .ok (.getfield 126, 3) := z_o180 (z_wat (q := 0) (j := 19) zwX12_causeOf_0 rfl) (z_wat (q := 0) (j := 20) zwX12_causeOf_0 rfl) (z_wat (q := 0) (j := 21) zwX12_causeOf_0 rfl) rfl
theorem dX12_causeOf_22 : decode cX12_causeOf 22 = .ok (.aload_n 0, 1) := z_o42 (z_wat (q := 0) (j := 22) zwX12_causeOf_0 rfl)
theorem dX12_causeOf_23 : decode cX12_causeOf 23 = .ok (.getfield 105, 3) := z_o180 (z_wat (q := 0) (j := 23) zwX12_causeOf_0 rfl) (z_wat (q := 0) (j := 24) zwX12_causeOf_0 rfl) (z_wat (q := 0) (j := 25) zwX12_causeOf_0 rfl) rfl
theorem dX12_causeOf_26 : decode cX12_causeOf 26 = .ok (.iload_n 1, 1) := z_o27 (z_wat (q := 0) (j := 26) zwX12_causeOf_0 rfl)
theorem dX12_causeOf_27 : decode cX12_causeOf 27 = .ok (.iaload, 1) := z_o46 (z_wat (q := 0) (j := 27) zwX12_causeOf_0 rfl)
theorem dX12_causeOf_28 : decode cX12_causeOf 28 = .ok (.iload 5, 2) := z_o21 (z_wat (q := 0) (j := 28) zwX12_causeOf_0 rfl) (z_wat (q := 0) (j := 29) zwX12_causeOf_0 rfl)
theorem dX12_causeOf_30 : decode cX12_causeOf 30 = .ok (.iadd, 1) := z_o96 (z_wat (q := 0) (j := 30) zwX12_causeOf_0 rfl)
theorem dX12_causeOf_31 : decode cX12_causeOf 31 = .ok (.iaload, 1) := z_o46 (z_wat (q := 0) (j := 31) zwX12_causeOf_0 rfl)
theorem zwX12_causeOf_32 : ((cX12_causeOf.data.toList.drop 32).take 34).map UInt8.toNat = [54, 6, 42, 180, 0, 111, 21, 6, 46, 54, 7, 21, 7, 154, 0, 15, 42, 180, 0, 120, 21, 6, 46, 133, 66, 167, 0, 148, 21, 7, 16, 15, 160, 0] := by decide +kernel
theorem dX12_causeOf_32 : decode cX12_causeOf 32 = .ok (.istore 6, 2) := z_o54 (z_wat (q := 32) (j := 0) zwX12_causeOf_32 rfl) (z_wat (q := 32) (j := 1) zwX12_causeOf_32 rfl)
theorem dX12_causeOf_34 : decode cX12_causeOf 34 = .ok (.aload_n 0, 1) := z_o42 (z_wat (q := 32) (j := 2) zwX12_causeOf_32 rfl)
theorem dX12_causeOf_35 : decode cX12_causeOf 35 = .ok (.getfield 111, 3) := z_o180 (z_wat (q := 32) (j := 3) zwX12_causeOf_32 rfl) (z_wat (q := 32) (j := 4) zwX12_causeOf_32 rfl) (z_wat (q := 32) (j := 5) zwX12_causeOf_32 rfl) rfl
theorem dX12_causeOf_38 : decode cX12_causeOf 38 = .ok (.iload 6, 2) := z_o21 (z_wat (q := 32) (j := 6) zwX12_causeOf_32 rfl) (z_wat (q := 32) (j := 7) zwX12_causeOf_32 rfl)
theorem dX12_causeOf_40 : decode cX12_causeOf 40 = .ok (.iaload, 1) := z_o46 (z_wat (q := 32) (j := 8) zwX12_causeOf_32 rfl)
theorem dX12_causeOf_41 : decode cX12_causeOf 41 = .ok (.istore 7, 2) := z_o54 (z_wat (q := 32) (j := 9) zwX12_causeOf_32 rfl) (z_wat (q := 32) (j := 10) zwX12_causeOf_32 rfl)
theorem dX12_causeOf_43 : decode cX12_causeOf 43 = .ok (.iload 7, 2) := z_o21 (z_wat (q := 32) (j := 11) zwX12_causeOf_32 rfl) (z_wat (q := 32) (j := 12) zwX12_causeOf_32 rfl)
theorem dX12_causeOf_45 : decode cX12_causeOf 45 = .ok (.ifCond .ne 15, 3) := z_o154 (z_wat (q := 32) (j := 13) zwX12_causeOf_32 rfl) (z_wat (q := 32) (j := 14) zwX12_causeOf_32 rfl) (z_wat (q := 32) (j := 15) zwX12_causeOf_32 rfl) rfl
theorem dX12_causeOf_48 : decode cX12_causeOf 48 = .ok (.aload_n 0, 1) := z_o42 (z_wat (q := 32) (j := 16) zwX12_causeOf_32 rfl)
theorem dX12_causeOf_49 : decode cX12_causeOf 49 = .ok (.getfield 120, 3) := z_o180 (z_wat (q := 32) (j := 17) zwX12_causeOf_32 rfl) (z_wat (q := 32) (j := 18) zwX12_causeOf_32 rfl) (z_wat (q := 32) (j := 19) zwX12_causeOf_32 rfl) rfl
theorem dX12_causeOf_52 : decode cX12_causeOf 52 = .ok (.iload 6, 2) := z_o21 (z_wat (q := 32) (j := 20) zwX12_causeOf_32 rfl) (z_wat (q := 32) (j := 21) zwX12_causeOf_32 rfl)
theorem dX12_causeOf_54 : decode cX12_causeOf 54 = .ok (.iaload, 1) := z_o46 (z_wat (q := 32) (j := 22) zwX12_causeOf_32 rfl)
theorem dX12_causeOf_55 : decode cX12_causeOf 55 = .ok (.i2l, 1) := z_o133 (z_wat (q := 32) (j := 23) zwX12_causeOf_32 rfl)
theorem dX12_causeOf_56 : decode cX12_causeOf 56 = .ok (.lstore_n 3, 1) := z_o66 (z_wat (q := 32) (j := 24) zwX12_causeOf_32 rfl)
theorem dX12_causeOf_57 : decode cX12_causeOf 57 = .ok (.goto 148, 3) := z_o167 (z_wat (q := 32) (j := 25) zwX12_causeOf_32 rfl) (z_wat (q := 32) (j := 26) zwX12_causeOf_32 rfl) (z_wat (q := 32) (j := 27) zwX12_causeOf_32 rfl) rfl
theorem dX12_causeOf_60 : decode cX12_causeOf 60 = .ok (.iload 7, 2) := z_o21 (z_wat (q := 32) (j := 28) zwX12_causeOf_32 rfl) (z_wat (q := 32) (j := 29) zwX12_causeOf_32 rfl)
theorem dX12_causeOf_62 : decode cX12_causeOf 62 = .ok (.bipush 15, 2) := z_o16 (z_wat (q := 32) (j := 30) zwX12_causeOf_32 rfl) (z_wat (q := 32) (j := 31) zwX12_causeOf_32 rfl) rfl
theorem zwX12_causeOf_64 : ((cX12_causeOf.data.toList.drop 64).take 34).map UInt8.toNat = [160, 0, 52, 42, 180, 0, 123, 21, 6, 51, 153, 0, 11, 42, 28, 182, 1, 160, 167, 0, 4, 28, 54, 8, 21, 8, 156, 0, 9, 20, 1, 140, 167, 0] := by decide +kernel
theorem dX12_causeOf_64 : decode cX12_causeOf 64 = .ok (.if_icmp .ne 52, 3) := z_o160 (z_wat (q := 64) (j := 0) zwX12_causeOf_64 rfl) (z_wat (q := 64) (j := 1) zwX12_causeOf_64 rfl) (z_wat (q := 64) (j := 2) zwX12_causeOf_64 rfl) rfl
theorem dX12_causeOf_67 : decode cX12_causeOf 67 = .ok (.aload_n 0, 1) := z_o42 (z_wat (q := 64) (j := 3) zwX12_causeOf_64 rfl)
theorem dX12_causeOf_68 : decode cX12_causeOf 68 = .ok (.getfield 123, 3) := z_o180 (z_wat (q := 64) (j := 4) zwX12_causeOf_64 rfl) (z_wat (q := 64) (j := 5) zwX12_causeOf_64 rfl) (z_wat (q := 64) (j := 6) zwX12_causeOf_64 rfl) rfl
theorem dX12_causeOf_71 : decode cX12_causeOf 71 = .ok (.iload 6, 2) := z_o21 (z_wat (q := 64) (j := 7) zwX12_causeOf_64 rfl) (z_wat (q := 64) (j := 8) zwX12_causeOf_64 rfl)
theorem dX12_causeOf_73 : decode cX12_causeOf 73 = .ok (.baload, 1) := z_o51 (z_wat (q := 64) (j := 9) zwX12_causeOf_64 rfl)
theorem dX12_causeOf_74 : decode cX12_causeOf 74 = .ok (.ifCond .eq 11, 3) := z_o153 (z_wat (q := 64) (j := 10) zwX12_causeOf_64 rfl) (z_wat (q := 64) (j := 11) zwX12_causeOf_64 rfl) (z_wat (q := 64) (j := 12) zwX12_causeOf_64 rfl) rfl
theorem dX12_causeOf_77 : decode cX12_causeOf 77 = .ok (.aload_n 0, 1) := z_o42 (z_wat (q := 64) (j := 13) zwX12_causeOf_64 rfl)
theorem dX12_causeOf_78 : decode cX12_causeOf 78 = .ok (.iload_n 2, 1) := z_o28 (z_wat (q := 64) (j := 14) zwX12_causeOf_64 rfl)
theorem dX12_causeOf_79 : decode cX12_causeOf 79 = .ok (.invokevirtual 416, 3) := z_o182 (z_wat (q := 64) (j := 15) zwX12_causeOf_64 rfl) (z_wat (q := 64) (j := 16) zwX12_causeOf_64 rfl) (z_wat (q := 64) (j := 17) zwX12_causeOf_64 rfl) rfl
theorem dX12_causeOf_82 : decode cX12_causeOf 82 = .ok (.goto 4, 3) := z_o167 (z_wat (q := 64) (j := 18) zwX12_causeOf_64 rfl) (z_wat (q := 64) (j := 19) zwX12_causeOf_64 rfl) (z_wat (q := 64) (j := 20) zwX12_causeOf_64 rfl) rfl
theorem dX12_causeOf_85 : decode cX12_causeOf 85 = .ok (.iload_n 2, 1) := z_o28 (z_wat (q := 64) (j := 21) zwX12_causeOf_64 rfl)
theorem dX12_causeOf_86 : decode cX12_causeOf 86 = .ok (.istore 8, 2) := z_o54 (z_wat (q := 64) (j := 22) zwX12_causeOf_64 rfl) (z_wat (q := 64) (j := 23) zwX12_causeOf_64 rfl)
theorem dX12_causeOf_88 : decode cX12_causeOf 88 = .ok (.iload 8, 2) := z_o21 (z_wat (q := 64) (j := 24) zwX12_causeOf_64 rfl) (z_wat (q := 64) (j := 25) zwX12_causeOf_64 rfl)
theorem dX12_causeOf_90 : decode cX12_causeOf 90 = .ok (.ifCond .ge 9, 3) := z_o156 (z_wat (q := 64) (j := 26) zwX12_causeOf_64 rfl) (z_wat (q := 64) (j := 27) zwX12_causeOf_64 rfl) (z_wat (q := 64) (j := 28) zwX12_causeOf_64 rfl) rfl
theorem dX12_causeOf_93 : decode cX12_causeOf 93 = .ok (.ldc2_w 396, 3) := z_o20 (z_wat (q := 64) (j := 29) zwX12_causeOf_64 rfl) (z_wat (q := 64) (j := 30) zwX12_causeOf_64 rfl) (z_wat (q := 64) (j := 31) zwX12_causeOf_64 rfl) rfl
theorem zwX12_causeOf_96 : ((cX12_causeOf.data.toList.drop 96).take 34).map UInt8.toNat = [167, 0, 16, 42, 21, 8, 42, 180, 0, 120, 21, 6, 46, 182, 1, 163, 66, 167, 0, 92, 21, 7, 16, 14, 160, 0, 19, 42, 180, 0, 141, 42, 180, 0] := by decide +kernel
theorem dX12_causeOf_96 : decode cX12_causeOf 96 = .ok (.goto 16, 3) := z_o167 (z_wat (q := 96) (j := 0) zwX12_causeOf_96 rfl) (z_wat (q := 96) (j := 1) zwX12_causeOf_96 rfl) (z_wat (q := 96) (j := 2) zwX12_causeOf_96 rfl) rfl
theorem dX12_causeOf_99 : decode cX12_causeOf 99 = .ok (.aload_n 0, 1) := z_o42 (z_wat (q := 96) (j := 3) zwX12_causeOf_96 rfl)
theorem dX12_causeOf_100 : decode cX12_causeOf 100 = .ok (.iload 8, 2) := z_o21 (z_wat (q := 96) (j := 4) zwX12_causeOf_96 rfl) (z_wat (q := 96) (j := 5) zwX12_causeOf_96 rfl)
theorem dX12_causeOf_102 : decode cX12_causeOf 102 = .ok (.aload_n 0, 1) := z_o42 (z_wat (q := 96) (j := 6) zwX12_causeOf_96 rfl)
theorem dX12_causeOf_103 : decode cX12_causeOf 103 = .ok (.getfield 120, 3) := z_o180 (z_wat (q := 96) (j := 7) zwX12_causeOf_96 rfl) (z_wat (q := 96) (j := 8) zwX12_causeOf_96 rfl) (z_wat (q := 96) (j := 9) zwX12_causeOf_96 rfl) rfl
theorem dX12_causeOf_106 : decode cX12_causeOf 106 = .ok (.iload 6, 2) := z_o21 (z_wat (q := 96) (j := 10) zwX12_causeOf_96 rfl) (z_wat (q := 96) (j := 11) zwX12_causeOf_96 rfl)
theorem dX12_causeOf_108 : decode cX12_causeOf 108 = .ok (.iaload, 1) := z_o46 (z_wat (q := 96) (j := 12) zwX12_causeOf_96 rfl)
theorem dX12_causeOf_109 : decode cX12_causeOf 109 = .ok (.invokevirtual 419, 3) := z_o182 (z_wat (q := 96) (j := 13) zwX12_causeOf_96 rfl) (z_wat (q := 96) (j := 14) zwX12_causeOf_96 rfl) (z_wat (q := 96) (j := 15) zwX12_causeOf_96 rfl) rfl
theorem dX12_causeOf_112 : decode cX12_causeOf 112 = .ok (.lstore_n 3, 1) := z_o66 (z_wat (q := 96) (j := 16) zwX12_causeOf_96 rfl)
theorem dX12_causeOf_113 : decode cX12_causeOf 113 = .ok (.goto 92, 3) := z_o167 (z_wat (q := 96) (j := 17) zwX12_causeOf_96 rfl) (z_wat (q := 96) (j := 18) zwX12_causeOf_96 rfl) (z_wat (q := 96) (j := 19) zwX12_causeOf_96 rfl) rfl
theorem dX12_causeOf_116 : decode cX12_causeOf 116 = .ok (.iload 7, 2) := z_o21 (z_wat (q := 96) (j := 20) zwX12_causeOf_96 rfl) (z_wat (q := 96) (j := 21) zwX12_causeOf_96 rfl)
theorem dX12_causeOf_118 : decode cX12_causeOf 118 = .ok (.bipush 14, 2) := z_o16 (z_wat (q := 96) (j := 22) zwX12_causeOf_96 rfl) (z_wat (q := 96) (j := 23) zwX12_causeOf_96 rfl) rfl
theorem dX12_causeOf_120 : decode cX12_causeOf 120 = .ok (.if_icmp .ne 19, 3) := z_o160 (z_wat (q := 96) (j := 24) zwX12_causeOf_96 rfl) (z_wat (q := 96) (j := 25) zwX12_causeOf_96 rfl) (z_wat (q := 96) (j := 26) zwX12_causeOf_96 rfl) rfl
theorem dX12_causeOf_123 : decode cX12_causeOf 123 = .ok (.aload_n 0, 1) := z_o42 (z_wat (q := 96) (j := 27) zwX12_causeOf_96 rfl)
theorem dX12_causeOf_124 : decode cX12_causeOf 124 = .ok (.getfield 141, 3) := z_o180 (z_wat (q := 96) (j := 28) zwX12_causeOf_96 rfl) (z_wat (q := 96) (j := 29) zwX12_causeOf_96 rfl) (z_wat (q := 96) (j := 30) zwX12_causeOf_96 rfl) rfl
theorem dX12_causeOf_127 : decode cX12_causeOf 127 = .ok (.aload_n 0, 1) := z_o42 (z_wat (q := 96) (j := 31) zwX12_causeOf_96 rfl)
theorem zwX12_causeOf_128 : ((cX12_causeOf.data.toList.drop 128).take 34).map UInt8.toNat = [180, 0, 114, 21, 6, 46, 47, 66, 167, 0, 69, 21, 7, 16, 11, 160, 0, 32, 42, 180, 0, 141, 42, 180, 0, 114, 21, 6, 46, 47, 9, 148, 154, 0] := by decide +kernel
theorem dX12_causeOf_128 : decode cX12_causeOf 128 = .ok (.getfield 114, 3) := z_o180 (z_wat (q := 128) (j := 0) zwX12_causeOf_128 rfl) (z_wat (q := 128) (j := 1) zwX12_causeOf_128 rfl) (z_wat (q := 128) (j := 2) zwX12_causeOf_128 rfl) rfl
theorem dX12_causeOf_131 : decode cX12_causeOf 131 = .ok (.iload 6, 2) := z_o21 (z_wat (q := 128) (j := 3) zwX12_causeOf_128 rfl) (z_wat (q := 128) (j := 4) zwX12_causeOf_128 rfl)
theorem dX12_causeOf_133 : decode cX12_causeOf 133 = .ok (.iaload, 1) := z_o46 (z_wat (q := 128) (j := 5) zwX12_causeOf_128 rfl)
theorem dX12_causeOf_134 : decode cX12_causeOf 134 = .ok (.laload, 1) := z_o47 (z_wat (q := 128) (j := 6) zwX12_causeOf_128 rfl)
theorem dX12_causeOf_135 : decode cX12_causeOf 135 = .ok (.lstore_n 3, 1) := z_o66 (z_wat (q := 128) (j := 7) zwX12_causeOf_128 rfl)
theorem dX12_causeOf_136 : decode cX12_causeOf 136 = .ok (.goto 69, 3) := z_o167 (z_wat (q := 128) (j := 8) zwX12_causeOf_128 rfl) (z_wat (q := 128) (j := 9) zwX12_causeOf_128 rfl) (z_wat (q := 128) (j := 10) zwX12_causeOf_128 rfl) rfl
theorem dX12_causeOf_139 : decode cX12_causeOf 139 = .ok (.iload 7, 2) := z_o21 (z_wat (q := 128) (j := 11) zwX12_causeOf_128 rfl) (z_wat (q := 128) (j := 12) zwX12_causeOf_128 rfl)
theorem dX12_causeOf_141 : decode cX12_causeOf 141 = .ok (.bipush 11, 2) := z_o16 (z_wat (q := 128) (j := 13) zwX12_causeOf_128 rfl) (z_wat (q := 128) (j := 14) zwX12_causeOf_128 rfl) rfl
theorem dX12_causeOf_143 : decode cX12_causeOf 143 = .ok (.if_icmp .ne 32, 3) := z_o160 (z_wat (q := 128) (j := 15) zwX12_causeOf_128 rfl) (z_wat (q := 128) (j := 16) zwX12_causeOf_128 rfl) (z_wat (q := 128) (j := 17) zwX12_causeOf_128 rfl) rfl
theorem dX12_causeOf_146 : decode cX12_causeOf 146 = .ok (.aload_n 0, 1) := z_o42 (z_wat (q := 128) (j := 18) zwX12_causeOf_128 rfl)
theorem dX12_causeOf_147 : decode cX12_causeOf 147 = .ok (.getfield 141, 3) := z_o180 (z_wat (q := 128) (j := 19) zwX12_causeOf_128 rfl) (z_wat (q := 128) (j := 20) zwX12_causeOf_128 rfl) (z_wat (q := 128) (j := 21) zwX12_causeOf_128 rfl) rfl
theorem dX12_causeOf_150 : decode cX12_causeOf 150 = .ok (.aload_n 0, 1) := z_o42 (z_wat (q := 128) (j := 22) zwX12_causeOf_128 rfl)
theorem dX12_causeOf_151 : decode cX12_causeOf 151 = .ok (.getfield 114, 3) := z_o180 (z_wat (q := 128) (j := 23) zwX12_causeOf_128 rfl) (z_wat (q := 128) (j := 24) zwX12_causeOf_128 rfl) (z_wat (q := 128) (j := 25) zwX12_causeOf_128 rfl) rfl
theorem dX12_causeOf_154 : decode cX12_causeOf 154 = .ok (.iload 6, 2) := z_o21 (z_wat (q := 128) (j := 26) zwX12_causeOf_128 rfl) (z_wat (q := 128) (j := 27) zwX12_causeOf_128 rfl)
theorem dX12_causeOf_156 : decode cX12_causeOf 156 = .ok (.iaload, 1) := z_o46 (z_wat (q := 128) (j := 28) zwX12_causeOf_128 rfl)
theorem dX12_causeOf_157 : decode cX12_causeOf 157 = .ok (.laload, 1) := z_o47 (z_wat (q := 128) (j := 29) zwX12_causeOf_128 rfl)
theorem dX12_causeOf_158 : decode cX12_causeOf 158 = .ok (.lconst 0, 1) := z_o9 (z_wat (q := 128) (j := 30) zwX12_causeOf_128 rfl)
theorem dX12_causeOf_159 : decode cX12_causeOf 159 = .ok (.lcmp, 1) := z_o148 (z_wat (q := 128) (j := 31) zwX12_causeOf_128 rfl)
theorem zwX12_causeOf_160 : ((cX12_causeOf.data.toList.drop 160).take 34).map UInt8.toNat = [154, 0, 7, 4, 167, 0, 4, 3, 184, 1, 153, 66, 167, 0, 33, 21, 7, 42, 180, 0, 141, 42, 180, 0, 114, 21, 6, 46, 47, 42, 180, 0, 141, 42] := by decide +kernel
theorem dX12_causeOf_160 : decode cX12_causeOf 160 = .ok (.ifCond .ne 7, 3) := z_o154 (z_wat (q := 160) (j := 0) zwX12_causeOf_160 rfl) (z_wat (q := 160) (j := 1) zwX12_causeOf_160 rfl) (z_wat (q := 160) (j := 2) zwX12_causeOf_160 rfl) rfl
theorem dX12_causeOf_163 : decode cX12_causeOf 163 = .ok (.iconst 1, 1) := z_o4 (z_wat (q := 160) (j := 3) zwX12_causeOf_160 rfl)
theorem dX12_causeOf_164 : decode cX12_causeOf 164 = .ok (.goto 4, 3) := z_o167 (z_wat (q := 160) (j := 4) zwX12_causeOf_160 rfl) (z_wat (q := 160) (j := 5) zwX12_causeOf_160 rfl) (z_wat (q := 160) (j := 6) zwX12_causeOf_160 rfl) rfl
theorem dX12_causeOf_167 : decode cX12_causeOf 167 = .ok (.iconst 0, 1) := z_o3 (z_wat (q := 160) (j := 7) zwX12_causeOf_160 rfl)
theorem dX12_causeOf_168 : decode cX12_causeOf 168 = .ok (.invokestatic 409, 3) := z_o184 (z_wat (q := 160) (j := 8) zwX12_causeOf_160 rfl) (z_wat (q := 160) (j := 9) zwX12_causeOf_160 rfl) (z_wat (q := 160) (j := 10) zwX12_causeOf_160 rfl) rfl
theorem dX12_causeOf_171 : decode cX12_causeOf 171 = .ok (.lstore_n 3, 1) := z_o66 (z_wat (q := 160) (j := 11) zwX12_causeOf_160 rfl)
theorem dX12_causeOf_172 : decode cX12_causeOf 172 = .ok (.goto 33, 3) := z_o167 (z_wat (q := 160) (j := 12) zwX12_causeOf_160 rfl) (z_wat (q := 160) (j := 13) zwX12_causeOf_160 rfl) (z_wat (q := 160) (j := 14) zwX12_causeOf_160 rfl) rfl
theorem dX12_causeOf_175 : decode cX12_causeOf 175 = .ok (.iload 7, 2) := z_o21 (z_wat (q := 160) (j := 15) zwX12_causeOf_160 rfl) (z_wat (q := 160) (j := 16) zwX12_causeOf_160 rfl)
theorem dX12_causeOf_177 : decode cX12_causeOf 177 = .ok (.aload_n 0, 1) := z_o42 (z_wat (q := 160) (j := 17) zwX12_causeOf_160 rfl)
theorem dX12_causeOf_178 : decode cX12_causeOf 178 = .ok (.getfield 141, 3) := z_o180 (z_wat (q := 160) (j := 18) zwX12_causeOf_160 rfl) (z_wat (q := 160) (j := 19) zwX12_causeOf_160 rfl) (z_wat (q := 160) (j := 20) zwX12_causeOf_160 rfl) rfl
theorem dX12_causeOf_181 : decode cX12_causeOf 181 = .ok (.aload_n 0, 1) := z_o42 (z_wat (q := 160) (j := 21) zwX12_causeOf_160 rfl)
theorem dX12_causeOf_182 : decode cX12_causeOf 182 = .ok (.getfield 114, 3) := z_o180 (z_wat (q := 160) (j := 22) zwX12_causeOf_160 rfl) (z_wat (q := 160) (j := 23) zwX12_causeOf_160 rfl) (z_wat (q := 160) (j := 24) zwX12_causeOf_160 rfl) rfl
theorem dX12_causeOf_185 : decode cX12_causeOf 185 = .ok (.iload 6, 2) := z_o21 (z_wat (q := 160) (j := 25) zwX12_causeOf_160 rfl) (z_wat (q := 160) (j := 26) zwX12_causeOf_160 rfl)
theorem dX12_causeOf_187 : decode cX12_causeOf 187 = .ok (.iaload, 1) := z_o46 (z_wat (q := 160) (j := 27) zwX12_causeOf_160 rfl)
theorem dX12_causeOf_188 : decode cX12_causeOf 188 = .ok (.laload, 1) := z_o47 (z_wat (q := 160) (j := 28) zwX12_causeOf_160 rfl)
theorem dX12_causeOf_189 : decode cX12_causeOf 189 = .ok (.aload_n 0, 1) := z_o42 (z_wat (q := 160) (j := 29) zwX12_causeOf_160 rfl)
theorem dX12_causeOf_190 : decode cX12_causeOf 190 = .ok (.getfield 141, 3) := z_o180 (z_wat (q := 160) (j := 30) zwX12_causeOf_160 rfl) (z_wat (q := 160) (j := 31) zwX12_causeOf_160 rfl) (z_wat (q := 160) (j := 32) zwX12_causeOf_160 rfl) rfl
theorem zwX12_causeOf_192 : ((cX12_causeOf.data.toList.drop 192).take 34).map UInt8.toNat = [141, 42, 180, 0, 117, 21, 6, 46, 47, 184, 1, 166, 66, 33, 20, 1, 140, 148, 154, 0, 7, 20, 1, 140, 173, 42, 180, 0, 141, 21, 6, 33, 80, 132] := by decide +kernel
theorem dX12_causeOf_193 : decode cX12_causeOf 193 = .ok (.aload_n 0, 1) := z_o42 (z_wat (q := 192) (j := 1) zwX12_causeOf_192 rfl)
theorem dX12_causeOf_194 : decode cX12_causeOf 194 = .ok (.getfield 117, 3) := z_o180 (z_wat (q := 192) (j := 2) zwX12_causeOf_192 rfl) (z_wat (q := 192) (j := 3) zwX12_causeOf_192 rfl) (z_wat (q := 192) (j := 4) zwX12_causeOf_192 rfl) rfl
theorem dX12_causeOf_197 : decode cX12_causeOf 197 = .ok (.iload 6, 2) := z_o21 (z_wat (q := 192) (j := 5) zwX12_causeOf_192 rfl) (z_wat (q := 192) (j := 6) zwX12_causeOf_192 rfl)
theorem dX12_causeOf_199 : decode cX12_causeOf 199 = .ok (.iaload, 1) := z_o46 (z_wat (q := 192) (j := 7) zwX12_causeOf_192 rfl)
theorem dX12_causeOf_200 : decode cX12_causeOf 200 = .ok (.laload, 1) := z_o47 (z_wat (q := 192) (j := 8) zwX12_causeOf_192 rfl)
theorem dX12_causeOf_201 : decode cX12_causeOf 201 = .ok (.invokestatic 422, 3) := z_o184 (z_wat (q := 192) (j := 9) zwX12_causeOf_192 rfl) (z_wat (q := 192) (j := 10) zwX12_causeOf_192 rfl) (z_wat (q := 192) (j := 11) zwX12_causeOf_192 rfl) rfl
theorem dX12_causeOf_204 : decode cX12_causeOf 204 = .ok (.lstore_n 3, 1) := z_o66 (z_wat (q := 192) (j := 12) zwX12_causeOf_192 rfl)
theorem dX12_causeOf_205 : decode cX12_causeOf 205 = .ok (.lload_n 3, 1) := z_o33 (z_wat (q := 192) (j := 13) zwX12_causeOf_192 rfl)
theorem dX12_causeOf_206 : decode cX12_causeOf 206 = .ok (.ldc2_w 396, 3) := z_o20 (z_wat (q := 192) (j := 14) zwX12_causeOf_192 rfl) (z_wat (q := 192) (j := 15) zwX12_causeOf_192 rfl) (z_wat (q := 192) (j := 16) zwX12_causeOf_192 rfl) rfl
theorem dX12_causeOf_209 : decode cX12_causeOf 209 = .ok (.lcmp, 1) := z_o148 (z_wat (q := 192) (j := 17) zwX12_causeOf_192 rfl)
theorem dX12_causeOf_210 : decode cX12_causeOf 210 = .ok (.ifCond .ne 7, 3) := z_o154 (z_wat (q := 192) (j := 18) zwX12_causeOf_192 rfl) (z_wat (q := 192) (j := 19) zwX12_causeOf_192 rfl) (z_wat (q := 192) (j := 20) zwX12_causeOf_192 rfl) rfl
theorem dX12_causeOf_213 : decode cX12_causeOf 213 = .ok (.ldc2_w 396, 3) := z_o20 (z_wat (q := 192) (j := 21) zwX12_causeOf_192 rfl) (z_wat (q := 192) (j := 22) zwX12_causeOf_192 rfl) (z_wat (q := 192) (j := 23) zwX12_causeOf_192 rfl) rfl
theorem dX12_causeOf_216 : decode cX12_causeOf 216 = .ok (.lreturn, 1) := z_o173 (z_wat (q := 192) (j := 24) zwX12_causeOf_192 rfl)
theorem dX12_causeOf_217 : decode cX12_causeOf 217 = .ok (.aload_n 0, 1) := z_o42 (z_wat (q := 192) (j := 25) zwX12_causeOf_192 rfl)
theorem dX12_causeOf_218 : decode cX12_causeOf 218 = .ok (.getfield 141, 3) := z_o180 (z_wat (q := 192) (j := 26) zwX12_causeOf_192 rfl) (z_wat (q := 192) (j := 27) zwX12_causeOf_192 rfl) (z_wat (q := 192) (j := 28) zwX12_causeOf_192 rfl) rfl
theorem dX12_causeOf_221 : decode cX12_causeOf 221 = .ok (.iload 6, 2) := z_o21 (z_wat (q := 192) (j := 29) zwX12_causeOf_192 rfl) (z_wat (q := 192) (j := 30) zwX12_causeOf_192 rfl)
theorem dX12_causeOf_223 : decode cX12_causeOf 223 = .ok (.lload_n 3, 1) := z_o33 (z_wat (q := 192) (j := 31) zwX12_causeOf_192 rfl)
theorem zwX12_causeOf_224 : ((cX12_causeOf.data.toList.drop 224).take 9).map UInt8.toNat = [80, 132, 5, 1, 167, 255, 35, 33, 173] := by decide +kernel
theorem dX12_causeOf_224 : decode cX12_causeOf 224 = .ok (.lastore, 1) := z_o80 (z_wat (q := 224) (j := 0) zwX12_causeOf_224 rfl)
theorem dX12_causeOf_225 : decode cX12_causeOf 225 = .ok (.iinc 5 1, 3) := z_o132 (z_wat (q := 224) (j := 1) zwX12_causeOf_224 rfl) (z_wat (q := 224) (j := 2) zwX12_causeOf_224 rfl) (z_wat (q := 224) (j := 3) zwX12_causeOf_224 rfl) rfl
theorem dX12_causeOf_228 : decode cX12_causeOf 228 = .ok (.goto (-221), 3) := z_o167 (z_wat (q := 224) (j := 4) zwX12_causeOf_224 rfl) (z_wat (q := 224) (j := 5) zwX12_causeOf_224 rfl) (z_wat (q := 224) (j := 6) zwX12_causeOf_224 rfl) rfl
theorem dX12_causeOf_231 : decode cX12_causeOf 231 = .ok (.lload_n 3, 1) := z_o33 (z_wat (q := 224) (j := 7) zwX12_causeOf_224 rfl)
theorem dX12_causeOf_232 : decode cX12_causeOf 232 = .ok (.lreturn, 1) := z_o173 (z_wat (q := 224) (j := 8) zwX12_causeOf_224 rfl)
theorem zwX12_count_0 : ((cX12_count.data.toList.drop 0).take 34).map UInt8.toNat = [42, 3, 181, 0, 145, 3, 61, 27, 170, 0, 0, 0, 0, 0, 0, 127, 0, 0, 0, 0, 0, 0, 0, 7, 0, 0, 0, 48, 0, 0, 0, 92, 0, 0] := by decide +kernel
theorem dX12_count_0 : decode cX12_count 0 = .ok (.aload_n 0, 1) := z_o42 (z_wat (q := 0) (j := 0) zwX12_count_0 rfl)
theorem dX12_count_1 : decode cX12_count 1 = .ok (.iconst 0, 1) := z_o3 (z_wat (q := 0) (j := 1) zwX12_count_0 rfl)
theorem dX12_count_2 : decode cX12_count 2 = .ok (.putfield 145, 3) := z_o181 (z_wat (q := 0) (j := 2) zwX12_count_0 rfl) (z_wat (q := 0) (j := 3) zwX12_count_0 rfl) (z_wat (q := 0) (j := 4) zwX12_count_0 rfl) rfl
theorem dX12_count_5 : decode cX12_count 5 = .ok (.iconst 0, 1) := z_o3 (z_wat (q := 0) (j := 5) zwX12_count_0 rfl)
theorem dX12_count_6 : decode cX12_count 6 = .ok (.istore_n 2, 1) := z_o61 (z_wat (q := 0) (j := 6) zwX12_count_0 rfl)
theorem dX12_count_7 : decode cX12_count 7 = .ok (.iload_n 1, 1) := z_o27 (z_wat (q := 0) (j := 7) zwX12_count_0 rfl)
theorem dX12_count_8 : decode cX12_count 8 = .ok (.tableswitch 127 0 7 #[48, 92, 97, 102, 107, 112, 117, 122], 48) := by decide +kernel
theorem zwX12_count_32 : ((cX12_count.data.toList.drop 32).take 34).map UInt8.toNat = [0, 0, 0, 97, 0, 0, 0, 102, 0, 0, 0, 107, 0, 0, 0, 112, 0, 0, 0, 117, 0, 0, 0, 122, 42, 42, 180, 0, 154, 182, 0, 173, 3, 62] := by decide +kernel
theorem dX12_count_56 : decode cX12_count 56 = .ok (.aload_n 0, 1) := z_o42 (z_wat (q := 32) (j := 24) zwX12_count_32 rfl)
theorem dX12_count_57 : decode cX12_count 57 = .ok (.aload_n 0, 1) := z_o42 (z_wat (q := 32) (j := 25) zwX12_count_32 rfl)
theorem dX12_count_58 : decode cX12_count 58 = .ok (.getfield 154, 3) := z_o180 (z_wat (q := 32) (j := 26) zwX12_count_32 rfl) (z_wat (q := 32) (j := 27) zwX12_count_32 rfl) (z_wat (q := 32) (j := 28) zwX12_count_32 rfl) rfl
theorem dX12_count_61 : decode cX12_count 61 = .ok (.invokevirtual 173, 3) := z_o182 (z_wat (q := 32) (j := 29) zwX12_count_32 rfl) (z_wat (q := 32) (j := 30) zwX12_count_32 rfl) (z_wat (q := 32) (j := 31) zwX12_count_32 rfl) rfl
theorem zwX12_count_64 : ((cX12_count.data.toList.drop 64).take 34).map UInt8.toNat = [3, 62, 29, 42, 180, 0, 151, 162, 0, 27, 28, 42, 180, 0, 32, 29, 46, 29, 160, 0, 7, 4, 167, 0, 4, 3, 96, 61, 132, 3, 1, 167, 255, 227] := by decide +kernel
theorem dX12_count_64 : decode cX12_count 64 = .ok (.iconst 0, 1) := z_o3 (z_wat (q := 64) (j := 0) zwX12_count_64 rfl)
theorem dX12_count_65 : decode cX12_count 65 = .ok (.istore_n 3, 1) := z_o62 (z_wat (q := 64) (j := 1) zwX12_count_64 rfl)
theorem dX12_count_66 : decode cX12_count 66 = .ok (.iload_n 3, 1) := z_o29 (z_wat (q := 64) (j := 2) zwX12_count_64 rfl)
theorem dX12_count_67 : decode cX12_count 67 = .ok (.aload_n 0, 1) := z_o42 (z_wat (q := 64) (j := 3) zwX12_count_64 rfl)
theorem dX12_count_68 : decode cX12_count 68 = .ok (.getfield 151, 3) := z_o180 (z_wat (q := 64) (j := 4) zwX12_count_64 rfl) (z_wat (q := 64) (j := 5) zwX12_count_64 rfl) (z_wat (q := 64) (j := 6) zwX12_count_64 rfl) rfl
theorem dX12_count_71 : decode cX12_count 71 = .ok (.if_icmp .ge 27, 3) := z_o162 (z_wat (q := 64) (j := 7) zwX12_count_64 rfl) (z_wat (q := 64) (j := 8) zwX12_count_64 rfl) (z_wat (q := 64) (j := 9) zwX12_count_64 rfl) rfl
theorem dX12_count_74 : decode cX12_count 74 = .ok (.iload_n 2, 1) := z_o28 (z_wat (q := 64) (j := 10) zwX12_count_64 rfl)
theorem dX12_count_75 : decode cX12_count 75 = .ok (.aload_n 0, 1) := z_o42 (z_wat (q := 64) (j := 11) zwX12_count_64 rfl)
theorem dX12_count_76 : decode cX12_count 76 = .ok (.getfield 32, 3) := z_o180 (z_wat (q := 64) (j := 12) zwX12_count_64 rfl) (z_wat (q := 64) (j := 13) zwX12_count_64 rfl) (z_wat (q := 64) (j := 14) zwX12_count_64 rfl) rfl
theorem dX12_count_79 : decode cX12_count 79 = .ok (.iload_n 3, 1) := z_o29 (z_wat (q := 64) (j := 15) zwX12_count_64 rfl)
theorem dX12_count_80 : decode cX12_count 80 = .ok (.iaload, 1) := z_o46 (z_wat (q := 64) (j := 16) zwX12_count_64 rfl)
theorem dX12_count_81 : decode cX12_count 81 = .ok (.iload_n 3, 1) := z_o29 (z_wat (q := 64) (j := 17) zwX12_count_64 rfl)
theorem dX12_count_82 : decode cX12_count 82 = .ok (.if_icmp .ne 7, 3) := z_o160 (z_wat (q := 64) (j := 18) zwX12_count_64 rfl) (z_wat (q := 64) (j := 19) zwX12_count_64 rfl) (z_wat (q := 64) (j := 20) zwX12_count_64 rfl) rfl
theorem dX12_count_85 : decode cX12_count 85 = .ok (.iconst 1, 1) := z_o4 (z_wat (q := 64) (j := 21) zwX12_count_64 rfl)
theorem dX12_count_86 : decode cX12_count 86 = .ok (.goto 4, 3) := z_o167 (z_wat (q := 64) (j := 22) zwX12_count_64 rfl) (z_wat (q := 64) (j := 23) zwX12_count_64 rfl) (z_wat (q := 64) (j := 24) zwX12_count_64 rfl) rfl
theorem dX12_count_89 : decode cX12_count 89 = .ok (.iconst 0, 1) := z_o3 (z_wat (q := 64) (j := 25) zwX12_count_64 rfl)
theorem dX12_count_90 : decode cX12_count 90 = .ok (.iadd, 1) := z_o96 (z_wat (q := 64) (j := 26) zwX12_count_64 rfl)
theorem dX12_count_91 : decode cX12_count 91 = .ok (.istore_n 2, 1) := z_o61 (z_wat (q := 64) (j := 27) zwX12_count_64 rfl)
theorem dX12_count_92 : decode cX12_count 92 = .ok (.iinc 3 1, 3) := z_o132 (z_wat (q := 64) (j := 28) zwX12_count_64 rfl) (z_wat (q := 64) (j := 29) zwX12_count_64 rfl) (z_wat (q := 64) (j := 30) zwX12_count_64 rfl) rfl
theorem dX12_count_95 : decode cX12_count 95 = .ok (.goto (-29), 3) := z_o167 (z_wat (q := 64) (j := 31) zwX12_count_64 rfl) (z_wat (q := 64) (j := 32) zwX12_count_64 rfl) (z_wat (q := 64) (j := 33) zwX12_count_64 rfl) rfl
theorem zwX12_count_96 : ((cX12_count.data.toList.drop 96).take 34).map UInt8.toNat = [255, 227, 28, 172, 42, 180, 0, 151, 172, 42, 180, 0, 154, 172, 42, 180, 0, 181, 172, 42, 180, 0, 192, 172, 42, 180, 1, 55, 172, 42, 180, 1, 134, 172] := by decide +kernel
theorem dX12_count_98 : decode cX12_count 98 = .ok (.iload_n 2, 1) := z_o28 (z_wat (q := 96) (j := 2) zwX12_count_96 rfl)
theorem dX12_count_99 : decode cX12_count 99 = .ok (.ireturn, 1) := z_o172 (z_wat (q := 96) (j := 3) zwX12_count_96 rfl)
theorem dX12_count_100 : decode cX12_count 100 = .ok (.aload_n 0, 1) := z_o42 (z_wat (q := 96) (j := 4) zwX12_count_96 rfl)
theorem dX12_count_101 : decode cX12_count 101 = .ok (.getfield 151, 3) := z_o180 (z_wat (q := 96) (j := 5) zwX12_count_96 rfl) (z_wat (q := 96) (j := 6) zwX12_count_96 rfl) (z_wat (q := 96) (j := 7) zwX12_count_96 rfl) rfl
theorem dX12_count_104 : decode cX12_count 104 = .ok (.ireturn, 1) := z_o172 (z_wat (q := 96) (j := 8) zwX12_count_96 rfl)
theorem dX12_count_105 : decode cX12_count 105 = .ok (.aload_n 0, 1) := z_o42 (z_wat (q := 96) (j := 9) zwX12_count_96 rfl)
theorem dX12_count_106 : decode cX12_count 106 = .ok (.getfield 154, 3) := z_o180 (z_wat (q := 96) (j := 10) zwX12_count_96 rfl) (z_wat (q := 96) (j := 11) zwX12_count_96 rfl) (z_wat (q := 96) (j := 12) zwX12_count_96 rfl) rfl
theorem dX12_count_109 : decode cX12_count 109 = .ok (.ireturn, 1) := z_o172 (z_wat (q := 96) (j := 13) zwX12_count_96 rfl)
theorem dX12_count_110 : decode cX12_count 110 = .ok (.aload_n 0, 1) := z_o42 (z_wat (q := 96) (j := 14) zwX12_count_96 rfl)
theorem dX12_count_111 : decode cX12_count 111 = .ok (.getfield 181, 3) := z_o180 (z_wat (q := 96) (j := 15) zwX12_count_96 rfl) (z_wat (q := 96) (j := 16) zwX12_count_96 rfl) (z_wat (q := 96) (j := 17) zwX12_count_96 rfl) rfl
theorem dX12_count_114 : decode cX12_count 114 = .ok (.ireturn, 1) := z_o172 (z_wat (q := 96) (j := 18) zwX12_count_96 rfl)
theorem dX12_count_115 : decode cX12_count 115 = .ok (.aload_n 0, 1) := z_o42 (z_wat (q := 96) (j := 19) zwX12_count_96 rfl)
theorem dX12_count_116 : decode cX12_count 116 = .ok (.getfield 192, 3) := z_o180 (z_wat (q := 96) (j := 20) zwX12_count_96 rfl) (z_wat (q := 96) (j := 21) zwX12_count_96 rfl) (z_wat (q := 96) (j := 22) zwX12_count_96 rfl) rfl
theorem dX12_count_119 : decode cX12_count 119 = .ok (.ireturn, 1) := z_o172 (z_wat (q := 96) (j := 23) zwX12_count_96 rfl)
theorem dX12_count_120 : decode cX12_count 120 = .ok (.aload_n 0, 1) := z_o42 (z_wat (q := 96) (j := 24) zwX12_count_96 rfl)
theorem dX12_count_121 : decode cX12_count 121 = .ok (.getfield 311, 3) := z_o180 (z_wat (q := 96) (j := 25) zwX12_count_96 rfl) (z_wat (q := 96) (j := 26) zwX12_count_96 rfl) (z_wat (q := 96) (j := 27) zwX12_count_96 rfl) rfl
theorem dX12_count_124 : decode cX12_count 124 = .ok (.ireturn, 1) := z_o172 (z_wat (q := 96) (j := 28) zwX12_count_96 rfl)
theorem dX12_count_125 : decode cX12_count 125 = .ok (.aload_n 0, 1) := z_o42 (z_wat (q := 96) (j := 29) zwX12_count_96 rfl)
theorem dX12_count_126 : decode cX12_count 126 = .ok (.getfield 390, 3) := z_o180 (z_wat (q := 96) (j := 30) zwX12_count_96 rfl) (z_wat (q := 96) (j := 31) zwX12_count_96 rfl) (z_wat (q := 96) (j := 32) zwX12_count_96 rfl) rfl
theorem zwX12_count_128 : ((cX12_count.data.toList.drop 128).take 13).map UInt8.toNat = [134, 172, 42, 180, 1, 137, 172, 42, 4, 182, 1, 173, 172] := by decide +kernel
theorem dX12_count_129 : decode cX12_count 129 = .ok (.ireturn, 1) := z_o172 (z_wat (q := 128) (j := 1) zwX12_count_128 rfl)
theorem dX12_count_130 : decode cX12_count 130 = .ok (.aload_n 0, 1) := z_o42 (z_wat (q := 128) (j := 2) zwX12_count_128 rfl)
theorem dX12_count_131 : decode cX12_count 131 = .ok (.getfield 393, 3) := z_o180 (z_wat (q := 128) (j := 3) zwX12_count_128 rfl) (z_wat (q := 128) (j := 4) zwX12_count_128 rfl) (z_wat (q := 128) (j := 5) zwX12_count_128 rfl) rfl
theorem dX12_count_134 : decode cX12_count 134 = .ok (.ireturn, 1) := z_o172 (z_wat (q := 128) (j := 6) zwX12_count_128 rfl)
theorem dX12_count_135 : decode cX12_count 135 = .ok (.aload_n 0, 1) := z_o42 (z_wat (q := 128) (j := 7) zwX12_count_128 rfl)
theorem dX12_count_136 : decode cX12_count 136 = .ok (.iconst 1, 1) := z_o4 (z_wat (q := 128) (j := 8) zwX12_count_128 rfl)
theorem dX12_count_137 : decode cX12_count 137 = .ok (.invokevirtual 429, 3) := z_o182 (z_wat (q := 128) (j := 9) zwX12_count_128 rfl) (z_wat (q := 128) (j := 10) zwX12_count_128 rfl) (z_wat (q := 128) (j := 11) zwX12_count_128 rfl) rfl
theorem dX12_count_140 : decode cX12_count 140 = .ok (.ireturn, 1) := z_o172 (z_wat (q := 128) (j := 12) zwX12_count_128 rfl)
theorem zwX12_days_0 : ((cX12_days.data.toList.drop 0).take 34).map UInt8.toNat = [42, 3, 181, 0, 145, 42, 27, 182, 0, 157, 153, 0, 25, 28, 4, 161, 0, 20, 28, 18, 220, 163, 0, 14, 29, 4, 161, 0, 9, 29, 16, 100, 164, 0] := by decide +kernel
theorem dX12_days_0 : decode cX12_days 0 = .ok (.aload_n 0, 1) := z_o42 (z_wat (q := 0) (j := 0) zwX12_days_0 rfl)
theorem dX12_days_1 : decode cX12_days 1 = .ok (.iconst 0, 1) := z_o3 (z_wat (q := 0) (j := 1) zwX12_days_0 rfl)
theorem dX12_days_2 : decode cX12_days 2 = .ok (.putfield 145, 3) := z_o181 (z_wat (q := 0) (j := 2) zwX12_days_0 rfl) (z_wat (q := 0) (j := 3) zwX12_days_0 rfl) (z_wat (q := 0) (j := 4) zwX12_days_0 rfl) rfl
theorem dX12_days_5 : decode cX12_days 5 = .ok (.aload_n 0, 1) := z_o42 (z_wat (q := 0) (j := 5) zwX12_days_0 rfl)
theorem dX12_days_6 : decode cX12_days 6 = .ok (.iload_n 1, 1) := z_o27 (z_wat (q := 0) (j := 6) zwX12_days_0 rfl)
theorem dX12_days_7 : decode cX12_days 7 = .ok (.invokevirtual 157, 3) := z_o182 (z_wat (q := 0) (j := 7) zwX12_days_0 rfl) (z_wat (q := 0) (j := 8) zwX12_days_0 rfl) (z_wat (q := 0) (j := 9) zwX12_days_0 rfl) rfl
theorem dX12_days_10 : decode cX12_days 10 = .ok (.ifCond .eq 25, 3) := z_o153 (z_wat (q := 0) (j := 10) zwX12_days_0 rfl) (z_wat (q := 0) (j := 11) zwX12_days_0 rfl) (z_wat (q := 0) (j := 12) zwX12_days_0 rfl) rfl
theorem dX12_days_13 : decode cX12_days 13 = .ok (.iload_n 2, 1) := z_o28 (z_wat (q := 0) (j := 13) zwX12_days_0 rfl)
theorem dX12_days_14 : decode cX12_days 14 = .ok (.iconst 1, 1) := z_o4 (z_wat (q := 0) (j := 14) zwX12_days_0 rfl)
theorem dX12_days_15 : decode cX12_days 15 = .ok (.if_icmp .lt 20, 3) := z_o161 (z_wat (q := 0) (j := 15) zwX12_days_0 rfl) (z_wat (q := 0) (j := 16) zwX12_days_0 rfl) (z_wat (q := 0) (j := 17) zwX12_days_0 rfl) rfl
theorem dX12_days_18 : decode cX12_days 18 = .ok (.iload_n 2, 1) := z_o28 (z_wat (q := 0) (j := 18) zwX12_days_0 rfl)
theorem dX12_days_19 : decode cX12_days 19 = .ok (.ldc 220, 2) := z_o18 (z_wat (q := 0) (j := 19) zwX12_days_0 rfl) (z_wat (q := 0) (j := 20) zwX12_days_0 rfl)
theorem dX12_days_21 : decode cX12_days 21 = .ok (.if_icmp .gt 14, 3) := z_o163 (z_wat (q := 0) (j := 21) zwX12_days_0 rfl) (z_wat (q := 0) (j := 22) zwX12_days_0 rfl) (z_wat (q := 0) (j := 23) zwX12_days_0 rfl) rfl
theorem dX12_days_24 : decode cX12_days 24 = .ok (.iload_n 3, 1) := z_o29 (z_wat (q := 0) (j := 24) zwX12_days_0 rfl)
theorem dX12_days_25 : decode cX12_days 25 = .ok (.iconst 1, 1) := z_o4 (z_wat (q := 0) (j := 25) zwX12_days_0 rfl)
theorem dX12_days_26 : decode cX12_days 26 = .ok (.if_icmp .lt 9, 3) := z_o161 (z_wat (q := 0) (j := 26) zwX12_days_0 rfl) (z_wat (q := 0) (j := 27) zwX12_days_0 rfl) (z_wat (q := 0) (j := 28) zwX12_days_0 rfl) rfl
theorem dX12_days_29 : decode cX12_days 29 = .ok (.iload_n 3, 1) := z_o29 (z_wat (q := 0) (j := 29) zwX12_days_0 rfl)
theorem dX12_days_30 : decode cX12_days 30 = .ok (.bipush 100, 2) := z_o16 (z_wat (q := 0) (j := 30) zwX12_days_0 rfl) (z_wat (q := 0) (j := 31) zwX12_days_0 rfl) rfl
theorem zwX12_days_32 : ((cX12_days.data.toList.drop 32).take 34).map UInt8.toNat = [164, 0, 7, 20, 1, 18, 173, 42, 42, 180, 0, 154, 182, 0, 173, 42, 42, 180, 0, 32, 27, 46, 182, 1, 23, 20, 1, 30, 105, 28, 133, 29, 133, 105] := by decide +kernel
theorem dX12_days_32 : decode cX12_days 32 = .ok (.if_icmp .le 7, 3) := z_o164 (z_wat (q := 32) (j := 0) zwX12_days_32 rfl) (z_wat (q := 32) (j := 1) zwX12_days_32 rfl) (z_wat (q := 32) (j := 2) zwX12_days_32 rfl) rfl
theorem dX12_days_35 : decode cX12_days 35 = .ok (.ldc2_w 274, 3) := z_o20 (z_wat (q := 32) (j := 3) zwX12_days_32 rfl) (z_wat (q := 32) (j := 4) zwX12_days_32 rfl) (z_wat (q := 32) (j := 5) zwX12_days_32 rfl) rfl
theorem dX12_days_38 : decode cX12_days 38 = .ok (.lreturn, 1) := z_o173 (z_wat (q := 32) (j := 6) zwX12_days_32 rfl)
theorem dX12_days_39 : decode cX12_days 39 = .ok (.aload_n 0, 1) := z_o42 (z_wat (q := 32) (j := 7) zwX12_days_32 rfl)
theorem dX12_days_40 : decode cX12_days 40 = .ok (.aload_n 0, 1) := z_o42 (z_wat (q := 32) (j := 8) zwX12_days_32 rfl)
theorem dX12_days_41 : decode cX12_days 41 = .ok (.getfield 154, 3) := z_o180 (z_wat (q := 32) (j := 9) zwX12_days_32 rfl) (z_wat (q := 32) (j := 10) zwX12_days_32 rfl) (z_wat (q := 32) (j := 11) zwX12_days_32 rfl) rfl
theorem dX12_days_44 : decode cX12_days 44 = .ok (.invokevirtual 173, 3) := z_o182 (z_wat (q := 32) (j := 12) zwX12_days_32 rfl) (z_wat (q := 32) (j := 13) zwX12_days_32 rfl) (z_wat (q := 32) (j := 14) zwX12_days_32 rfl) rfl
theorem dX12_days_47 : decode cX12_days 47 = .ok (.aload_n 0, 1) := z_o42 (z_wat (q := 32) (j := 15) zwX12_days_32 rfl)
theorem dX12_days_48 : decode cX12_days 48 = .ok (.aload_n 0, 1) := z_o42 (z_wat (q := 32) (j := 16) zwX12_days_32 rfl)
theorem dX12_days_49 : decode cX12_days 49 = .ok (.getfield 32, 3) := z_o180 (z_wat (q := 32) (j := 17) zwX12_days_32 rfl) (z_wat (q := 32) (j := 18) zwX12_days_32 rfl) (z_wat (q := 32) (j := 19) zwX12_days_32 rfl) rfl
theorem dX12_days_52 : decode cX12_days 52 = .ok (.iload_n 1, 1) := z_o27 (z_wat (q := 32) (j := 20) zwX12_days_32 rfl)
theorem dX12_days_53 : decode cX12_days 53 = .ok (.iaload, 1) := z_o46 (z_wat (q := 32) (j := 21) zwX12_days_32 rfl)
theorem dX12_days_54 : decode cX12_days 54 = .ok (.invokevirtual 279, 3) := z_o182 (z_wat (q := 32) (j := 22) zwX12_days_32 rfl) (z_wat (q := 32) (j := 23) zwX12_days_32 rfl) (z_wat (q := 32) (j := 24) zwX12_days_32 rfl) rfl
theorem dX12_days_57 : decode cX12_days 57 = .ok (.ldc2_w 286, 3) := z_o20 (z_wat (q := 32) (j := 25) zwX12_days_32 rfl) (z_wat (q := 32) (j := 26) zwX12_days_32 rfl) (z_wat (q := 32) (j := 27) zwX12_days_32 rfl) rfl
theorem dX12_days_60 : decode cX12_days 60 = .ok (.lmul, 1) := z_o105 (z_wat (q := 32) (j := 28) zwX12_days_32 rfl)
theorem dX12_days_61 : decode cX12_days 61 = .ok (.iload_n 2, 1) := z_o28 (z_wat (q := 32) (j := 29) zwX12_days_32 rfl)
theorem dX12_days_62 : decode cX12_days 62 = .ok (.i2l, 1) := z_o133 (z_wat (q := 32) (j := 30) zwX12_days_32 rfl)
theorem dX12_days_63 : decode cX12_days 63 = .ok (.iload_n 3, 1) := z_o29 (z_wat (q := 32) (j := 31) zwX12_days_32 rfl)
theorem zwX12_days_64 : ((cX12_days.data.toList.drop 64).take 4).map UInt8.toNat = [133, 105, 109, 173] := by decide +kernel
theorem dX12_days_64 : decode cX12_days 64 = .ok (.i2l, 1) := z_o133 (z_wat (q := 64) (j := 0) zwX12_days_64 rfl)
theorem dX12_days_65 : decode cX12_days 65 = .ok (.lmul, 1) := z_o105 (z_wat (q := 64) (j := 1) zwX12_days_64 rfl)
theorem dX12_days_66 : decode cX12_days 66 = .ok (.ldiv, 1) := z_o109 (z_wat (q := 64) (j := 2) zwX12_days_64 rfl)
theorem dX12_days_67 : decode cX12_days 67 = .ok (.lreturn, 1) := z_o173 (z_wat (q := 64) (j := 3) zwX12_days_64 rfl)
theorem zwX12_eaten_0 : ((cX12_eaten.data.toList.drop 0).take 34).map UInt8.toNat = [42, 3, 181, 0, 145, 42, 27, 182, 0, 157, 153, 0, 25, 29, 155, 0, 21, 29, 6, 163, 0, 16, 29, 5, 162, 0, 15, 42, 28, 182, 0, 195, 154, 0] := by decide +kernel
theorem dX12_eaten_0 : decode cX12_eaten 0 = .ok (.aload_n 0, 1) := z_o42 (z_wat (q := 0) (j := 0) zwX12_eaten_0 rfl)
theorem dX12_eaten_1 : decode cX12_eaten 1 = .ok (.iconst 0, 1) := z_o3 (z_wat (q := 0) (j := 1) zwX12_eaten_0 rfl)
theorem dX12_eaten_2 : decode cX12_eaten 2 = .ok (.putfield 145, 3) := z_o181 (z_wat (q := 0) (j := 2) zwX12_eaten_0 rfl) (z_wat (q := 0) (j := 3) zwX12_eaten_0 rfl) (z_wat (q := 0) (j := 4) zwX12_eaten_0 rfl) rfl
theorem dX12_eaten_5 : decode cX12_eaten 5 = .ok (.aload_n 0, 1) := z_o42 (z_wat (q := 0) (j := 5) zwX12_eaten_0 rfl)
theorem dX12_eaten_6 : decode cX12_eaten 6 = .ok (.iload_n 1, 1) := z_o27 (z_wat (q := 0) (j := 6) zwX12_eaten_0 rfl)
theorem dX12_eaten_7 : decode cX12_eaten 7 = .ok (.invokevirtual 157, 3) := z_o182 (z_wat (q := 0) (j := 7) zwX12_eaten_0 rfl) (z_wat (q := 0) (j := 8) zwX12_eaten_0 rfl) (z_wat (q := 0) (j := 9) zwX12_eaten_0 rfl) rfl
theorem dX12_eaten_10 : decode cX12_eaten 10 = .ok (.ifCond .eq 25, 3) := z_o153 (z_wat (q := 0) (j := 10) zwX12_eaten_0 rfl) (z_wat (q := 0) (j := 11) zwX12_eaten_0 rfl) (z_wat (q := 0) (j := 12) zwX12_eaten_0 rfl) rfl
theorem dX12_eaten_13 : decode cX12_eaten 13 = .ok (.iload_n 3, 1) := z_o29 (z_wat (q := 0) (j := 13) zwX12_eaten_0 rfl)
theorem dX12_eaten_14 : decode cX12_eaten 14 = .ok (.ifCond .lt 21, 3) := z_o155 (z_wat (q := 0) (j := 14) zwX12_eaten_0 rfl) (z_wat (q := 0) (j := 15) zwX12_eaten_0 rfl) (z_wat (q := 0) (j := 16) zwX12_eaten_0 rfl) rfl
theorem dX12_eaten_17 : decode cX12_eaten 17 = .ok (.iload_n 3, 1) := z_o29 (z_wat (q := 0) (j := 17) zwX12_eaten_0 rfl)
theorem dX12_eaten_18 : decode cX12_eaten 18 = .ok (.iconst 3, 1) := z_o6 (z_wat (q := 0) (j := 18) zwX12_eaten_0 rfl)
theorem dX12_eaten_19 : decode cX12_eaten 19 = .ok (.if_icmp .gt 16, 3) := z_o163 (z_wat (q := 0) (j := 19) zwX12_eaten_0 rfl) (z_wat (q := 0) (j := 20) zwX12_eaten_0 rfl) (z_wat (q := 0) (j := 21) zwX12_eaten_0 rfl) rfl
theorem dX12_eaten_22 : decode cX12_eaten 22 = .ok (.iload_n 3, 1) := z_o29 (z_wat (q := 0) (j := 22) zwX12_eaten_0 rfl)
theorem dX12_eaten_23 : decode cX12_eaten 23 = .ok (.iconst 2, 1) := z_o5 (z_wat (q := 0) (j := 23) zwX12_eaten_0 rfl)
theorem dX12_eaten_24 : decode cX12_eaten 24 = .ok (.if_icmp .ge 15, 3) := z_o162 (z_wat (q := 0) (j := 24) zwX12_eaten_0 rfl) (z_wat (q := 0) (j := 25) zwX12_eaten_0 rfl) (z_wat (q := 0) (j := 26) zwX12_eaten_0 rfl) rfl
theorem dX12_eaten_27 : decode cX12_eaten 27 = .ok (.aload_n 0, 1) := z_o42 (z_wat (q := 0) (j := 27) zwX12_eaten_0 rfl)
theorem dX12_eaten_28 : decode cX12_eaten 28 = .ok (.iload_n 2, 1) := z_o28 (z_wat (q := 0) (j := 28) zwX12_eaten_0 rfl)
theorem dX12_eaten_29 : decode cX12_eaten 29 = .ok (.invokevirtual 195, 3) := z_o182 (z_wat (q := 0) (j := 29) zwX12_eaten_0 rfl) (z_wat (q := 0) (j := 30) zwX12_eaten_0 rfl) (z_wat (q := 0) (j := 31) zwX12_eaten_0 rfl) rfl
theorem zwX12_eaten_32 : ((cX12_eaten.data.toList.drop 32).take 34).map UInt8.toNat = [154, 0, 7, 20, 1, 18, 173, 42, 42, 180, 0, 154, 182, 0, 173, 42, 180, 0, 32, 27, 46, 54, 4, 29, 154, 0, 13, 42, 21, 4, 28, 182, 1, 20] := by decide +kernel
theorem dX12_eaten_32 : decode cX12_eaten 32 = .ok (.ifCond .ne 7, 3) := z_o154 (z_wat (q := 32) (j := 0) zwX12_eaten_32 rfl) (z_wat (q := 32) (j := 1) zwX12_eaten_32 rfl) (z_wat (q := 32) (j := 2) zwX12_eaten_32 rfl) rfl
theorem dX12_eaten_35 : decode cX12_eaten 35 = .ok (.ldc2_w 274, 3) := z_o20 (z_wat (q := 32) (j := 3) zwX12_eaten_32 rfl) (z_wat (q := 32) (j := 4) zwX12_eaten_32 rfl) (z_wat (q := 32) (j := 5) zwX12_eaten_32 rfl) rfl
theorem dX12_eaten_38 : decode cX12_eaten 38 = .ok (.lreturn, 1) := z_o173 (z_wat (q := 32) (j := 6) zwX12_eaten_32 rfl)
theorem dX12_eaten_39 : decode cX12_eaten 39 = .ok (.aload_n 0, 1) := z_o42 (z_wat (q := 32) (j := 7) zwX12_eaten_32 rfl)
theorem dX12_eaten_40 : decode cX12_eaten 40 = .ok (.aload_n 0, 1) := z_o42 (z_wat (q := 32) (j := 8) zwX12_eaten_32 rfl)
theorem dX12_eaten_41 : decode cX12_eaten 41 = .ok (.getfield 154, 3) := z_o180 (z_wat (q := 32) (j := 9) zwX12_eaten_32 rfl) (z_wat (q := 32) (j := 10) zwX12_eaten_32 rfl) (z_wat (q := 32) (j := 11) zwX12_eaten_32 rfl) rfl
theorem dX12_eaten_44 : decode cX12_eaten 44 = .ok (.invokevirtual 173, 3) := z_o182 (z_wat (q := 32) (j := 12) zwX12_eaten_32 rfl) (z_wat (q := 32) (j := 13) zwX12_eaten_32 rfl) (z_wat (q := 32) (j := 14) zwX12_eaten_32 rfl) rfl
theorem dX12_eaten_47 : decode cX12_eaten 47 = .ok (.aload_n 0, 1) := z_o42 (z_wat (q := 32) (j := 15) zwX12_eaten_32 rfl)
theorem dX12_eaten_48 : decode cX12_eaten 48 = .ok (.getfield 32, 3) := z_o180 (z_wat (q := 32) (j := 16) zwX12_eaten_32 rfl) (z_wat (q := 32) (j := 17) zwX12_eaten_32 rfl) (z_wat (q := 32) (j := 18) zwX12_eaten_32 rfl) rfl
theorem dX12_eaten_51 : decode cX12_eaten 51 = .ok (.iload_n 1, 1) := z_o27 (z_wat (q := 32) (j := 19) zwX12_eaten_32 rfl)
theorem dX12_eaten_52 : decode cX12_eaten 52 = .ok (.iaload, 1) := z_o46 (z_wat (q := 32) (j := 20) zwX12_eaten_32 rfl)
theorem dX12_eaten_53 : decode cX12_eaten 53 = .ok (.istore 4, 2) := z_o54 (z_wat (q := 32) (j := 21) zwX12_eaten_32 rfl) (z_wat (q := 32) (j := 22) zwX12_eaten_32 rfl)
theorem dX12_eaten_55 : decode cX12_eaten 55 = .ok (.iload_n 3, 1) := z_o29 (z_wat (q := 32) (j := 23) zwX12_eaten_32 rfl)
theorem dX12_eaten_56 : decode cX12_eaten 56 = .ok (.ifCond .ne 13, 3) := z_o154 (z_wat (q := 32) (j := 24) zwX12_eaten_32 rfl) (z_wat (q := 32) (j := 25) zwX12_eaten_32 rfl) (z_wat (q := 32) (j := 26) zwX12_eaten_32 rfl) rfl
theorem dX12_eaten_59 : decode cX12_eaten 59 = .ok (.aload_n 0, 1) := z_o42 (z_wat (q := 32) (j := 27) zwX12_eaten_32 rfl)
theorem dX12_eaten_60 : decode cX12_eaten 60 = .ok (.iload 4, 2) := z_o21 (z_wat (q := 32) (j := 28) zwX12_eaten_32 rfl) (z_wat (q := 32) (j := 29) zwX12_eaten_32 rfl)
theorem dX12_eaten_62 : decode cX12_eaten 62 = .ok (.iload_n 2, 1) := z_o28 (z_wat (q := 32) (j := 30) zwX12_eaten_32 rfl)
theorem dX12_eaten_63 : decode cX12_eaten 63 = .ok (.invokevirtual 276, 3) := z_o182 (z_wat (q := 32) (j := 31) zwX12_eaten_32 rfl) (z_wat (q := 32) (j := 32) zwX12_eaten_32 rfl) (z_wat (q := 32) (j := 33) zwX12_eaten_32 rfl) rfl
theorem zwX12_eaten_64 : ((cX12_eaten.data.toList.drop 64).take 34).map UInt8.toNat = [1, 20, 167, 0, 39, 29, 4, 160, 0, 13, 42, 21, 4, 28, 182, 1, 12, 167, 0, 24, 29, 5, 160, 0, 12, 42, 21, 4, 182, 1, 23, 167, 0, 10] := by decide +kernel
theorem dX12_eaten_66 : decode cX12_eaten 66 = .ok (.goto 39, 3) := z_o167 (z_wat (q := 64) (j := 2) zwX12_eaten_64 rfl) (z_wat (q := 64) (j := 3) zwX12_eaten_64 rfl) (z_wat (q := 64) (j := 4) zwX12_eaten_64 rfl) rfl
theorem dX12_eaten_69 : decode cX12_eaten 69 = .ok (.iload_n 3, 1) := z_o29 (z_wat (q := 64) (j := 5) zwX12_eaten_64 rfl)
theorem dX12_eaten_70 : decode cX12_eaten 70 = .ok (.iconst 1, 1) := z_o4 (z_wat (q := 64) (j := 6) zwX12_eaten_64 rfl)
theorem dX12_eaten_71 : decode cX12_eaten 71 = .ok (.if_icmp .ne 13, 3) := z_o160 (z_wat (q := 64) (j := 7) zwX12_eaten_64 rfl) (z_wat (q := 64) (j := 8) zwX12_eaten_64 rfl) (z_wat (q := 64) (j := 9) zwX12_eaten_64 rfl) rfl
theorem dX12_eaten_74 : decode cX12_eaten 74 = .ok (.aload_n 0, 1) := z_o42 (z_wat (q := 64) (j := 10) zwX12_eaten_64 rfl)
theorem dX12_eaten_75 : decode cX12_eaten 75 = .ok (.iload 4, 2) := z_o21 (z_wat (q := 64) (j := 11) zwX12_eaten_64 rfl) (z_wat (q := 64) (j := 12) zwX12_eaten_64 rfl)
theorem dX12_eaten_77 : decode cX12_eaten 77 = .ok (.iload_n 2, 1) := z_o28 (z_wat (q := 64) (j := 13) zwX12_eaten_64 rfl)
theorem dX12_eaten_78 : decode cX12_eaten 78 = .ok (.invokevirtual 268, 3) := z_o182 (z_wat (q := 64) (j := 14) zwX12_eaten_64 rfl) (z_wat (q := 64) (j := 15) zwX12_eaten_64 rfl) (z_wat (q := 64) (j := 16) zwX12_eaten_64 rfl) rfl
theorem dX12_eaten_81 : decode cX12_eaten 81 = .ok (.goto 24, 3) := z_o167 (z_wat (q := 64) (j := 17) zwX12_eaten_64 rfl) (z_wat (q := 64) (j := 18) zwX12_eaten_64 rfl) (z_wat (q := 64) (j := 19) zwX12_eaten_64 rfl) rfl
theorem dX12_eaten_84 : decode cX12_eaten 84 = .ok (.iload_n 3, 1) := z_o29 (z_wat (q := 64) (j := 20) zwX12_eaten_64 rfl)
theorem dX12_eaten_85 : decode cX12_eaten 85 = .ok (.iconst 2, 1) := z_o5 (z_wat (q := 64) (j := 21) zwX12_eaten_64 rfl)
theorem dX12_eaten_86 : decode cX12_eaten 86 = .ok (.if_icmp .ne 12, 3) := z_o160 (z_wat (q := 64) (j := 22) zwX12_eaten_64 rfl) (z_wat (q := 64) (j := 23) zwX12_eaten_64 rfl) (z_wat (q := 64) (j := 24) zwX12_eaten_64 rfl) rfl
theorem dX12_eaten_89 : decode cX12_eaten 89 = .ok (.aload_n 0, 1) := z_o42 (z_wat (q := 64) (j := 25) zwX12_eaten_64 rfl)
theorem dX12_eaten_90 : decode cX12_eaten 90 = .ok (.iload 4, 2) := z_o21 (z_wat (q := 64) (j := 26) zwX12_eaten_64 rfl) (z_wat (q := 64) (j := 27) zwX12_eaten_64 rfl)
theorem dX12_eaten_92 : decode cX12_eaten 92 = .ok (.invokevirtual 279, 3) := z_o182 (z_wat (q := 64) (j := 28) zwX12_eaten_64 rfl) (z_wat (q := 64) (j := 29) zwX12_eaten_64 rfl) (z_wat (q := 64) (j := 30) zwX12_eaten_64 rfl) rfl
theorem dX12_eaten_95 : decode cX12_eaten 95 = .ok (.goto 10, 3) := z_o167 (z_wat (q := 64) (j := 31) zwX12_eaten_64 rfl) (z_wat (q := 64) (j := 32) zwX12_eaten_64 rfl) (z_wat (q := 64) (j := 33) zwX12_eaten_64 rfl) rfl
theorem zwX12_eaten_96 : ((cX12_eaten.data.toList.drop 96).take 10).map UInt8.toNat = [0, 10, 42, 21, 4, 182, 1, 27, 133, 173] := by decide +kernel
theorem dX12_eaten_98 : decode cX12_eaten 98 = .ok (.aload_n 0, 1) := z_o42 (z_wat (q := 96) (j := 2) zwX12_eaten_96 rfl)
theorem dX12_eaten_99 : decode cX12_eaten 99 = .ok (.iload 4, 2) := z_o21 (z_wat (q := 96) (j := 3) zwX12_eaten_96 rfl) (z_wat (q := 96) (j := 4) zwX12_eaten_96 rfl)
theorem dX12_eaten_101 : decode cX12_eaten 101 = .ok (.invokevirtual 283, 3) := z_o182 (z_wat (q := 96) (j := 5) zwX12_eaten_96 rfl) (z_wat (q := 96) (j := 6) zwX12_eaten_96 rfl) (z_wat (q := 96) (j := 7) zwX12_eaten_96 rfl) rfl
theorem dX12_eaten_104 : decode cX12_eaten 104 = .ok (.i2l, 1) := z_o133 (z_wat (q := 96) (j := 8) zwX12_eaten_96 rfl)
theorem dX12_eaten_105 : decode cX12_eaten 105 = .ok (.lreturn, 1) := z_o173 (z_wat (q := 96) (j := 9) zwX12_eaten_96 rfl)
theorem zwX12_holds_0 : ((cX12_holds.data.toList.drop 0).take 34).map UInt8.toNat = [42, 3, 181, 0, 145, 42, 27, 182, 0, 157, 153, 0, 19, 28, 155, 0, 15, 28, 5, 163, 0, 10, 42, 180, 0, 181, 154, 0, 5, 2, 172, 42, 42, 180] := by decide +kernel
theorem dX12_holds_0 : decode cX12_holds 0 = .ok (.aload_n 0, 1) := z_o42 (z_wat (q := 0) (j := 0) zwX12_holds_0 rfl)
theorem dX12_holds_1 : decode cX12_holds 1 = .ok (.iconst 0, 1) := z_o3 (z_wat (q := 0) (j := 1) zwX12_holds_0 rfl)
theorem dX12_holds_2 : decode cX12_holds 2 = .ok (.putfield 145, 3) := z_o181 (z_wat (q := 0) (j := 2) zwX12_holds_0 rfl) (z_wat (q := 0) (j := 3) zwX12_holds_0 rfl) (z_wat (q := 0) (j := 4) zwX12_holds_0 rfl) rfl
theorem dX12_holds_5 : decode cX12_holds 5 = .ok (.aload_n 0, 1) := z_o42 (z_wat (q := 0) (j := 5) zwX12_holds_0 rfl)
theorem dX12_holds_6 : decode cX12_holds 6 = .ok (.iload_n 1, 1) := z_o27 (z_wat (q := 0) (j := 6) zwX12_holds_0 rfl)
theorem dX12_holds_7 : decode cX12_holds 7 = .ok (.invokevirtual 157, 3) := z_o182 (z_wat (q := 0) (j := 7) zwX12_holds_0 rfl) (z_wat (q := 0) (j := 8) zwX12_holds_0 rfl) (z_wat (q := 0) (j := 9) zwX12_holds_0 rfl) rfl
theorem dX12_holds_10 : decode cX12_holds 10 = .ok (.ifCond .eq 19, 3) := z_o153 (z_wat (q := 0) (j := 10) zwX12_holds_0 rfl) (z_wat (q := 0) (j := 11) zwX12_holds_0 rfl) (z_wat (q := 0) (j := 12) zwX12_holds_0 rfl) rfl
theorem dX12_holds_13 : decode cX12_holds 13 = .ok (.iload_n 2, 1) := z_o28 (z_wat (q := 0) (j := 13) zwX12_holds_0 rfl)
theorem dX12_holds_14 : decode cX12_holds 14 = .ok (.ifCond .lt 15, 3) := z_o155 (z_wat (q := 0) (j := 14) zwX12_holds_0 rfl) (z_wat (q := 0) (j := 15) zwX12_holds_0 rfl) (z_wat (q := 0) (j := 16) zwX12_holds_0 rfl) rfl
theorem dX12_holds_17 : decode cX12_holds 17 = .ok (.iload_n 2, 1) := z_o28 (z_wat (q := 0) (j := 17) zwX12_holds_0 rfl)
theorem dX12_holds_18 : decode cX12_holds 18 = .ok (.iconst 2, 1) := z_o5 (z_wat (q := 0) (j := 18) zwX12_holds_0 rfl)
theorem dX12_holds_19 : decode cX12_holds 19 = .ok (.if_icmp .gt 10, 3) := z_o163 (z_wat (q := 0) (j := 19) zwX12_holds_0 rfl) (z_wat (q := 0) (j := 20) zwX12_holds_0 rfl) (z_wat (q := 0) (j := 21) zwX12_holds_0 rfl) rfl
theorem dX12_holds_22 : decode cX12_holds 22 = .ok (.aload_n 0, 1) := z_o42 (z_wat (q := 0) (j := 22) zwX12_holds_0 rfl)
theorem dX12_holds_23 : decode cX12_holds 23 = .ok (.getfield 181, 3) := z_o180 (z_wat (q := 0) (j := 23) zwX12_holds_0 rfl) (z_wat (q := 0) (j := 24) zwX12_holds_0 rfl) (z_wat (q := 0) (j := 25) zwX12_holds_0 rfl) rfl
theorem dX12_holds_26 : decode cX12_holds 26 = .ok (.ifCond .ne 5, 3) := z_o154 (z_wat (q := 0) (j := 26) zwX12_holds_0 rfl) (z_wat (q := 0) (j := 27) zwX12_holds_0 rfl) (z_wat (q := 0) (j := 28) zwX12_holds_0 rfl) rfl
theorem dX12_holds_29 : decode cX12_holds 29 = .ok (.iconst (-1), 1) := z_o2 (z_wat (q := 0) (j := 29) zwX12_holds_0 rfl)
theorem dX12_holds_30 : decode cX12_holds 30 = .ok (.ireturn, 1) := z_o172 (z_wat (q := 0) (j := 30) zwX12_holds_0 rfl)
theorem dX12_holds_31 : decode cX12_holds 31 = .ok (.aload_n 0, 1) := z_o42 (z_wat (q := 0) (j := 31) zwX12_holds_0 rfl)
theorem zwX12_holds_32 : ((cX12_holds.data.toList.drop 32).take 34).map UInt8.toNat = [42, 180, 0, 154, 182, 0, 173, 42, 180, 0, 32, 27, 46, 62, 28, 153, 0, 11, 42, 180, 0, 181, 4, 160, 0, 10, 42, 29, 2, 182, 0, 188, 172, 2] := by decide +kernel
theorem dX12_holds_32 : decode cX12_holds 32 = .ok (.aload_n 0, 1) := z_o42 (z_wat (q := 32) (j := 0) zwX12_holds_32 rfl)
theorem dX12_holds_33 : decode cX12_holds 33 = .ok (.getfield 154, 3) := z_o180 (z_wat (q := 32) (j := 1) zwX12_holds_32 rfl) (z_wat (q := 32) (j := 2) zwX12_holds_32 rfl) (z_wat (q := 32) (j := 3) zwX12_holds_32 rfl) rfl
theorem dX12_holds_36 : decode cX12_holds 36 = .ok (.invokevirtual 173, 3) := z_o182 (z_wat (q := 32) (j := 4) zwX12_holds_32 rfl) (z_wat (q := 32) (j := 5) zwX12_holds_32 rfl) (z_wat (q := 32) (j := 6) zwX12_holds_32 rfl) rfl
theorem dX12_holds_39 : decode cX12_holds 39 = .ok (.aload_n 0, 1) := z_o42 (z_wat (q := 32) (j := 7) zwX12_holds_32 rfl)
theorem dX12_holds_40 : decode cX12_holds 40 = .ok (.getfield 32, 3) := z_o180 (z_wat (q := 32) (j := 8) zwX12_holds_32 rfl) (z_wat (q := 32) (j := 9) zwX12_holds_32 rfl) (z_wat (q := 32) (j := 10) zwX12_holds_32 rfl) rfl
theorem dX12_holds_43 : decode cX12_holds 43 = .ok (.iload_n 1, 1) := z_o27 (z_wat (q := 32) (j := 11) zwX12_holds_32 rfl)
theorem dX12_holds_44 : decode cX12_holds 44 = .ok (.iaload, 1) := z_o46 (z_wat (q := 32) (j := 12) zwX12_holds_32 rfl)
theorem dX12_holds_45 : decode cX12_holds 45 = .ok (.istore_n 3, 1) := z_o62 (z_wat (q := 32) (j := 13) zwX12_holds_32 rfl)
theorem dX12_holds_46 : decode cX12_holds 46 = .ok (.iload_n 2, 1) := z_o28 (z_wat (q := 32) (j := 14) zwX12_holds_32 rfl)
theorem dX12_holds_47 : decode cX12_holds 47 = .ok (.ifCond .eq 11, 3) := z_o153 (z_wat (q := 32) (j := 15) zwX12_holds_32 rfl) (z_wat (q := 32) (j := 16) zwX12_holds_32 rfl) (z_wat (q := 32) (j := 17) zwX12_holds_32 rfl) rfl
theorem dX12_holds_50 : decode cX12_holds 50 = .ok (.aload_n 0, 1) := z_o42 (z_wat (q := 32) (j := 18) zwX12_holds_32 rfl)
theorem dX12_holds_51 : decode cX12_holds 51 = .ok (.getfield 181, 3) := z_o180 (z_wat (q := 32) (j := 19) zwX12_holds_32 rfl) (z_wat (q := 32) (j := 20) zwX12_holds_32 rfl) (z_wat (q := 32) (j := 21) zwX12_holds_32 rfl) rfl
theorem dX12_holds_54 : decode cX12_holds 54 = .ok (.iconst 1, 1) := z_o4 (z_wat (q := 32) (j := 22) zwX12_holds_32 rfl)
theorem dX12_holds_55 : decode cX12_holds 55 = .ok (.if_icmp .ne 10, 3) := z_o160 (z_wat (q := 32) (j := 23) zwX12_holds_32 rfl) (z_wat (q := 32) (j := 24) zwX12_holds_32 rfl) (z_wat (q := 32) (j := 25) zwX12_holds_32 rfl) rfl
theorem dX12_holds_58 : decode cX12_holds 58 = .ok (.aload_n 0, 1) := z_o42 (z_wat (q := 32) (j := 26) zwX12_holds_32 rfl)
theorem dX12_holds_59 : decode cX12_holds 59 = .ok (.iload_n 3, 1) := z_o29 (z_wat (q := 32) (j := 27) zwX12_holds_32 rfl)
theorem dX12_holds_60 : decode cX12_holds 60 = .ok (.iconst (-1), 1) := z_o2 (z_wat (q := 32) (j := 28) zwX12_holds_32 rfl)
theorem dX12_holds_61 : decode cX12_holds 61 = .ok (.invokevirtual 188, 3) := z_o182 (z_wat (q := 32) (j := 29) zwX12_holds_32 rfl) (z_wat (q := 32) (j := 30) zwX12_holds_32 rfl) (z_wat (q := 32) (j := 31) zwX12_holds_32 rfl) rfl
theorem zwX12_holds_64 : ((cX12_holds.data.toList.drop 64).take 34).map UInt8.toNat = [172, 2, 54, 4, 3, 54, 5, 21, 5, 42, 180, 0, 181, 162, 0, 54, 42, 29, 21, 5, 182, 0, 188, 54, 6, 21, 4, 155, 0, 25, 28, 4, 160, 0] := by decide +kernel
theorem dX12_holds_64 : decode cX12_holds 64 = .ok (.ireturn, 1) := z_o172 (z_wat (q := 64) (j := 0) zwX12_holds_64 rfl)
theorem dX12_holds_65 : decode cX12_holds 65 = .ok (.iconst (-1), 1) := z_o2 (z_wat (q := 64) (j := 1) zwX12_holds_64 rfl)
theorem dX12_holds_66 : decode cX12_holds 66 = .ok (.istore 4, 2) := z_o54 (z_wat (q := 64) (j := 2) zwX12_holds_64 rfl) (z_wat (q := 64) (j := 3) zwX12_holds_64 rfl)
theorem dX12_holds_68 : decode cX12_holds 68 = .ok (.iconst 0, 1) := z_o3 (z_wat (q := 64) (j := 4) zwX12_holds_64 rfl)
theorem dX12_holds_69 : decode cX12_holds 69 = .ok (.istore 5, 2) := z_o54 (z_wat (q := 64) (j := 5) zwX12_holds_64 rfl) (z_wat (q := 64) (j := 6) zwX12_holds_64 rfl)
theorem dX12_holds_71 : decode cX12_holds 71 = .ok (.iload 5, 2) := z_o21 (z_wat (q := 64) (j := 7) zwX12_holds_64 rfl) (z_wat (q := 64) (j := 8) zwX12_holds_64 rfl)
theorem dX12_holds_73 : decode cX12_holds 73 = .ok (.aload_n 0, 1) := z_o42 (z_wat (q := 64) (j := 9) zwX12_holds_64 rfl)
theorem dX12_holds_74 : decode cX12_holds 74 = .ok (.getfield 181, 3) := z_o180 (z_wat (q := 64) (j := 10) zwX12_holds_64 rfl) (z_wat (q := 64) (j := 11) zwX12_holds_64 rfl) (z_wat (q := 64) (j := 12) zwX12_holds_64 rfl) rfl
theorem dX12_holds_77 : decode cX12_holds 77 = .ok (.if_icmp .ge 54, 3) := z_o162 (z_wat (q := 64) (j := 13) zwX12_holds_64 rfl) (z_wat (q := 64) (j := 14) zwX12_holds_64 rfl) (z_wat (q := 64) (j := 15) zwX12_holds_64 rfl) rfl
theorem dX12_holds_80 : decode cX12_holds 80 = .ok (.aload_n 0, 1) := z_o42 (z_wat (q := 64) (j := 16) zwX12_holds_64 rfl)
theorem dX12_holds_81 : decode cX12_holds 81 = .ok (.iload_n 3, 1) := z_o29 (z_wat (q := 64) (j := 17) zwX12_holds_64 rfl)
theorem dX12_holds_82 : decode cX12_holds 82 = .ok (.iload 5, 2) := z_o21 (z_wat (q := 64) (j := 18) zwX12_holds_64 rfl) (z_wat (q := 64) (j := 19) zwX12_holds_64 rfl)
theorem dX12_holds_84 : decode cX12_holds 84 = .ok (.invokevirtual 188, 3) := z_o182 (z_wat (q := 64) (j := 20) zwX12_holds_64 rfl) (z_wat (q := 64) (j := 21) zwX12_holds_64 rfl) (z_wat (q := 64) (j := 22) zwX12_holds_64 rfl) rfl
theorem dX12_holds_87 : decode cX12_holds 87 = .ok (.istore 6, 2) := z_o54 (z_wat (q := 64) (j := 23) zwX12_holds_64 rfl) (z_wat (q := 64) (j := 24) zwX12_holds_64 rfl)
theorem dX12_holds_89 : decode cX12_holds 89 = .ok (.iload 4, 2) := z_o21 (z_wat (q := 64) (j := 25) zwX12_holds_64 rfl) (z_wat (q := 64) (j := 26) zwX12_holds_64 rfl)
theorem dX12_holds_91 : decode cX12_holds 91 = .ok (.ifCond .lt 25, 3) := z_o155 (z_wat (q := 64) (j := 27) zwX12_holds_64 rfl) (z_wat (q := 64) (j := 28) zwX12_holds_64 rfl) (z_wat (q := 64) (j := 29) zwX12_holds_64 rfl) rfl
theorem dX12_holds_94 : decode cX12_holds 94 = .ok (.iload_n 2, 1) := z_o28 (z_wat (q := 64) (j := 30) zwX12_holds_64 rfl)
theorem dX12_holds_95 : decode cX12_holds 95 = .ok (.iconst 1, 1) := z_o4 (z_wat (q := 64) (j := 31) zwX12_holds_64 rfl)
theorem zwX12_holds_96 : ((cX12_holds.data.toList.drop 96).take 34).map UInt8.toNat = [160, 0, 13, 21, 6, 21, 4, 162, 0, 18, 167, 0, 10, 21, 6, 21, 4, 164, 0, 8, 21, 6, 167, 0, 5, 21, 4, 54, 4, 132, 5, 1, 167, 255] := by decide +kernel
theorem dX12_holds_96 : decode cX12_holds 96 = .ok (.if_icmp .ne 13, 3) := z_o160 (z_wat (q := 96) (j := 0) zwX12_holds_96 rfl) (z_wat (q := 96) (j := 1) zwX12_holds_96 rfl) (z_wat (q := 96) (j := 2) zwX12_holds_96 rfl) rfl
theorem dX12_holds_99 : decode cX12_holds 99 = .ok (.iload 6, 2) := z_o21 (z_wat (q := 96) (j := 3) zwX12_holds_96 rfl) (z_wat (q := 96) (j := 4) zwX12_holds_96 rfl)
theorem dX12_holds_101 : decode cX12_holds 101 = .ok (.iload 4, 2) := z_o21 (z_wat (q := 96) (j := 5) zwX12_holds_96 rfl) (z_wat (q := 96) (j := 6) zwX12_holds_96 rfl)
theorem dX12_holds_103 : decode cX12_holds 103 = .ok (.if_icmp .ge 18, 3) := z_o162 (z_wat (q := 96) (j := 7) zwX12_holds_96 rfl) (z_wat (q := 96) (j := 8) zwX12_holds_96 rfl) (z_wat (q := 96) (j := 9) zwX12_holds_96 rfl) rfl
theorem dX12_holds_106 : decode cX12_holds 106 = .ok (.goto 10, 3) := z_o167 (z_wat (q := 96) (j := 10) zwX12_holds_96 rfl) (z_wat (q := 96) (j := 11) zwX12_holds_96 rfl) (z_wat (q := 96) (j := 12) zwX12_holds_96 rfl) rfl
theorem dX12_holds_109 : decode cX12_holds 109 = .ok (.iload 6, 2) := z_o21 (z_wat (q := 96) (j := 13) zwX12_holds_96 rfl) (z_wat (q := 96) (j := 14) zwX12_holds_96 rfl)
theorem dX12_holds_111 : decode cX12_holds 111 = .ok (.iload 4, 2) := z_o21 (z_wat (q := 96) (j := 15) zwX12_holds_96 rfl) (z_wat (q := 96) (j := 16) zwX12_holds_96 rfl)
theorem dX12_holds_113 : decode cX12_holds 113 = .ok (.if_icmp .le 8, 3) := z_o164 (z_wat (q := 96) (j := 17) zwX12_holds_96 rfl) (z_wat (q := 96) (j := 18) zwX12_holds_96 rfl) (z_wat (q := 96) (j := 19) zwX12_holds_96 rfl) rfl
theorem dX12_holds_116 : decode cX12_holds 116 = .ok (.iload 6, 2) := z_o21 (z_wat (q := 96) (j := 20) zwX12_holds_96 rfl) (z_wat (q := 96) (j := 21) zwX12_holds_96 rfl)
theorem dX12_holds_118 : decode cX12_holds 118 = .ok (.goto 5, 3) := z_o167 (z_wat (q := 96) (j := 22) zwX12_holds_96 rfl) (z_wat (q := 96) (j := 23) zwX12_holds_96 rfl) (z_wat (q := 96) (j := 24) zwX12_holds_96 rfl) rfl
theorem dX12_holds_121 : decode cX12_holds 121 = .ok (.iload 4, 2) := z_o21 (z_wat (q := 96) (j := 25) zwX12_holds_96 rfl) (z_wat (q := 96) (j := 26) zwX12_holds_96 rfl)
theorem dX12_holds_123 : decode cX12_holds 123 = .ok (.istore 4, 2) := z_o54 (z_wat (q := 96) (j := 27) zwX12_holds_96 rfl) (z_wat (q := 96) (j := 28) zwX12_holds_96 rfl)
theorem dX12_holds_125 : decode cX12_holds 125 = .ok (.iinc 5 1, 3) := z_o132 (z_wat (q := 96) (j := 29) zwX12_holds_96 rfl) (z_wat (q := 96) (j := 30) zwX12_holds_96 rfl) (z_wat (q := 96) (j := 31) zwX12_holds_96 rfl) rfl
theorem zwX12_holds_128 : ((cX12_holds.data.toList.drop 128).take 6).map UInt8.toNat = [167, 255, 199, 21, 4, 172] := by decide +kernel
theorem dX12_holds_128 : decode cX12_holds 128 = .ok (.goto (-57), 3) := z_o167 (z_wat (q := 128) (j := 0) zwX12_holds_128 rfl) (z_wat (q := 128) (j := 1) zwX12_holds_128 rfl) (z_wat (q := 128) (j := 2) zwX12_holds_128 rfl) rfl
theorem dX12_holds_131 : decode cX12_holds 131 = .ok (.iload 4, 2) := z_o21 (z_wat (q := 128) (j := 3) zwX12_holds_128 rfl) (z_wat (q := 128) (j := 4) zwX12_holds_128 rfl)
theorem dX12_holds_133 : decode cX12_holds 133 = .ok (.ireturn, 1) := z_o172 (z_wat (q := 128) (j := 5) zwX12_holds_128 rfl)
theorem zwX12_middle_0 : ((cX12_middle.data.toList.drop 0).take 34).map UInt8.toNat = [42, 3, 181, 0, 145, 42, 27, 182, 0, 157, 153, 0, 12, 28, 155, 0, 8, 28, 6, 164, 0, 6, 16, 254, 172, 42, 42, 180, 0, 154, 182, 0, 173, 28] := by decide +kernel
theorem dX12_middle_0 : decode cX12_middle 0 = .ok (.aload_n 0, 1) := z_o42 (z_wat (q := 0) (j := 0) zwX12_middle_0 rfl)
theorem dX12_middle_1 : decode cX12_middle 1 = .ok (.iconst 0, 1) := z_o3 (z_wat (q := 0) (j := 1) zwX12_middle_0 rfl)
theorem dX12_middle_2 : decode cX12_middle 2 = .ok (.putfield 145, 3) := z_o181 (z_wat (q := 0) (j := 2) zwX12_middle_0 rfl) (z_wat (q := 0) (j := 3) zwX12_middle_0 rfl) (z_wat (q := 0) (j := 4) zwX12_middle_0 rfl) rfl
theorem dX12_middle_5 : decode cX12_middle 5 = .ok (.aload_n 0, 1) := z_o42 (z_wat (q := 0) (j := 5) zwX12_middle_0 rfl)
theorem dX12_middle_6 : decode cX12_middle 6 = .ok (.iload_n 1, 1) := z_o27 (z_wat (q := 0) (j := 6) zwX12_middle_0 rfl)
theorem dX12_middle_7 : decode cX12_middle 7 = .ok (.invokevirtual 157, 3) := z_o182 (z_wat (q := 0) (j := 7) zwX12_middle_0 rfl) (z_wat (q := 0) (j := 8) zwX12_middle_0 rfl) (z_wat (q := 0) (j := 9) zwX12_middle_0 rfl) rfl
theorem dX12_middle_10 : decode cX12_middle 10 = .ok (.ifCond .eq 12, 3) := z_o153 (z_wat (q := 0) (j := 10) zwX12_middle_0 rfl) (z_wat (q := 0) (j := 11) zwX12_middle_0 rfl) (z_wat (q := 0) (j := 12) zwX12_middle_0 rfl) rfl
theorem dX12_middle_13 : decode cX12_middle 13 = .ok (.iload_n 2, 1) := z_o28 (z_wat (q := 0) (j := 13) zwX12_middle_0 rfl)
theorem dX12_middle_14 : decode cX12_middle 14 = .ok (.ifCond .lt 8, 3) := z_o155 (z_wat (q := 0) (j := 14) zwX12_middle_0 rfl) (z_wat (q := 0) (j := 15) zwX12_middle_0 rfl) (z_wat (q := 0) (j := 16) zwX12_middle_0 rfl) rfl
theorem dX12_middle_17 : decode cX12_middle 17 = .ok (.iload_n 2, 1) := z_o28 (z_wat (q := 0) (j := 17) zwX12_middle_0 rfl)
theorem dX12_middle_18 : decode cX12_middle 18 = .ok (.iconst 3, 1) := z_o6 (z_wat (q := 0) (j := 18) zwX12_middle_0 rfl)
theorem dX12_middle_19 : decode cX12_middle 19 = .ok (.if_icmp .le 6, 3) := z_o164 (z_wat (q := 0) (j := 19) zwX12_middle_0 rfl) (z_wat (q := 0) (j := 20) zwX12_middle_0 rfl) (z_wat (q := 0) (j := 21) zwX12_middle_0 rfl) rfl
theorem dX12_middle_22 : decode cX12_middle 22 = .ok (.bipush (-2), 2) := z_o16 (z_wat (q := 0) (j := 22) zwX12_middle_0 rfl) (z_wat (q := 0) (j := 23) zwX12_middle_0 rfl) rfl
theorem dX12_middle_24 : decode cX12_middle 24 = .ok (.ireturn, 1) := z_o172 (z_wat (q := 0) (j := 24) zwX12_middle_0 rfl)
theorem dX12_middle_25 : decode cX12_middle 25 = .ok (.aload_n 0, 1) := z_o42 (z_wat (q := 0) (j := 25) zwX12_middle_0 rfl)
theorem dX12_middle_26 : decode cX12_middle 26 = .ok (.aload_n 0, 1) := z_o42 (z_wat (q := 0) (j := 26) zwX12_middle_0 rfl)
theorem dX12_middle_27 : decode cX12_middle 27 = .ok (.getfield 154, 3) := z_o180 (z_wat (q := 0) (j := 27) zwX12_middle_0 rfl) (z_wat (q := 0) (j := 28) zwX12_middle_0 rfl) (z_wat (q := 0) (j := 29) zwX12_middle_0 rfl) rfl
theorem dX12_middle_30 : decode cX12_middle 30 = .ok (.invokevirtual 173, 3) := z_o182 (z_wat (q := 0) (j := 30) zwX12_middle_0 rfl) (z_wat (q := 0) (j := 31) zwX12_middle_0 rfl) (z_wat (q := 0) (j := 32) zwX12_middle_0 rfl) rfl
theorem zwX12_middle_32 : ((cX12_middle.data.toList.drop 32).take 34).map UInt8.toNat = [173, 28, 6, 162, 0, 15, 42, 42, 180, 0, 32, 27, 46, 28, 182, 1, 58, 172, 3, 62, 3, 54, 4, 21, 4, 42, 180, 1, 55, 162, 0, 38, 29, 42] := by decide +kernel
theorem dX12_middle_33 : decode cX12_middle 33 = .ok (.iload_n 2, 1) := z_o28 (z_wat (q := 32) (j := 1) zwX12_middle_32 rfl)
theorem dX12_middle_34 : decode cX12_middle 34 = .ok (.iconst 3, 1) := z_o6 (z_wat (q := 32) (j := 2) zwX12_middle_32 rfl)
theorem dX12_middle_35 : decode cX12_middle 35 = .ok (.if_icmp .ge 15, 3) := z_o162 (z_wat (q := 32) (j := 3) zwX12_middle_32 rfl) (z_wat (q := 32) (j := 4) zwX12_middle_32 rfl) (z_wat (q := 32) (j := 5) zwX12_middle_32 rfl) rfl
theorem dX12_middle_38 : decode cX12_middle 38 = .ok (.aload_n 0, 1) := z_o42 (z_wat (q := 32) (j := 6) zwX12_middle_32 rfl)
theorem dX12_middle_39 : decode cX12_middle 39 = .ok (.aload_n 0, 1) := z_o42 (z_wat (q := 32) (j := 7) zwX12_middle_32 rfl)
theorem dX12_middle_40 : decode cX12_middle 40 = .ok (.getfield 32, 3) := z_o180 (z_wat (q := 32) (j := 8) zwX12_middle_32 rfl) (z_wat (q := 32) (j := 9) zwX12_middle_32 rfl) (z_wat (q := 32) (j := 10) zwX12_middle_32 rfl) rfl
theorem dX12_middle_43 : decode cX12_middle 43 = .ok (.iload_n 1, 1) := z_o27 (z_wat (q := 32) (j := 11) zwX12_middle_32 rfl)
theorem dX12_middle_44 : decode cX12_middle 44 = .ok (.iaload, 1) := z_o46 (z_wat (q := 32) (j := 12) zwX12_middle_32 rfl)
theorem dX12_middle_45 : decode cX12_middle 45 = .ok (.iload_n 2, 1) := z_o28 (z_wat (q := 32) (j := 13) zwX12_middle_32 rfl)
theorem dX12_middle_46 : decode cX12_middle 46 = .ok (.invokevirtual 314, 3) := z_o182 (z_wat (q := 32) (j := 14) zwX12_middle_32 rfl) (z_wat (q := 32) (j := 15) zwX12_middle_32 rfl) (z_wat (q := 32) (j := 16) zwX12_middle_32 rfl) rfl
theorem dX12_middle_49 : decode cX12_middle 49 = .ok (.ireturn, 1) := z_o172 (z_wat (q := 32) (j := 17) zwX12_middle_32 rfl)
theorem dX12_middle_50 : decode cX12_middle 50 = .ok (.iconst 0, 1) := z_o3 (z_wat (q := 32) (j := 18) zwX12_middle_32 rfl)
theorem dX12_middle_51 : decode cX12_middle 51 = .ok (.istore_n 3, 1) := z_o62 (z_wat (q := 32) (j := 19) zwX12_middle_32 rfl)
theorem dX12_middle_52 : decode cX12_middle 52 = .ok (.iconst 0, 1) := z_o3 (z_wat (q := 32) (j := 20) zwX12_middle_32 rfl)
theorem dX12_middle_53 : decode cX12_middle 53 = .ok (.istore 4, 2) := z_o54 (z_wat (q := 32) (j := 21) zwX12_middle_32 rfl) (z_wat (q := 32) (j := 22) zwX12_middle_32 rfl)
theorem dX12_middle_55 : decode cX12_middle 55 = .ok (.iload 4, 2) := z_o21 (z_wat (q := 32) (j := 23) zwX12_middle_32 rfl) (z_wat (q := 32) (j := 24) zwX12_middle_32 rfl)
theorem dX12_middle_57 : decode cX12_middle 57 = .ok (.aload_n 0, 1) := z_o42 (z_wat (q := 32) (j := 25) zwX12_middle_32 rfl)
theorem dX12_middle_58 : decode cX12_middle 58 = .ok (.getfield 311, 3) := z_o180 (z_wat (q := 32) (j := 26) zwX12_middle_32 rfl) (z_wat (q := 32) (j := 27) zwX12_middle_32 rfl) (z_wat (q := 32) (j := 28) zwX12_middle_32 rfl) rfl
theorem dX12_middle_61 : decode cX12_middle 61 = .ok (.if_icmp .ge 38, 3) := z_o162 (z_wat (q := 32) (j := 29) zwX12_middle_32 rfl) (z_wat (q := 32) (j := 30) zwX12_middle_32 rfl) (z_wat (q := 32) (j := 31) zwX12_middle_32 rfl) rfl
theorem zwX12_middle_64 : ((cX12_middle.data.toList.drop 64).take 34).map UInt8.toNat = [29, 42, 180, 0, 32, 42, 180, 0, 90, 21, 4, 46, 46, 42, 180, 0, 32, 27, 46, 160, 0, 7, 4, 167, 0, 4, 3, 96, 62, 132, 4, 1, 167, 255] := by decide +kernel
theorem dX12_middle_64 : decode cX12_middle 64 = .ok (.iload_n 3, 1) := z_o29 (z_wat (q := 64) (j := 0) zwX12_middle_64 rfl)
theorem dX12_middle_65 : decode cX12_middle 65 = .ok (.aload_n 0, 1) := z_o42 (z_wat (q := 64) (j := 1) zwX12_middle_64 rfl)
theorem dX12_middle_66 : decode cX12_middle 66 = .ok (.getfield 32, 3) := z_o180 (z_wat (q := 64) (j := 2) zwX12_middle_64 rfl) (z_wat (q := 64) (j := 3) zwX12_middle_64 rfl) (z_wat (q := 64) (j := 4) zwX12_middle_64 rfl) rfl
theorem dX12_middle_69 : decode cX12_middle 69 = .ok (.aload_n 0, 1) := z_o42 (z_wat (q := 64) (j := 5) zwX12_middle_64 rfl)
theorem dX12_middle_70 : decode cX12_middle 70 = .ok (.getfield 90, 3) := z_o180 (z_wat (q := 64) (j := 6) zwX12_middle_64 rfl) (z_wat (q := 64) (j := 7) zwX12_middle_64 rfl) (z_wat (q := 64) (j := 8) zwX12_middle_64 rfl) rfl
theorem dX12_middle_73 : decode cX12_middle 73 = .ok (.iload 4, 2) := z_o21 (z_wat (q := 64) (j := 9) zwX12_middle_64 rfl) (z_wat (q := 64) (j := 10) zwX12_middle_64 rfl)
theorem dX12_middle_75 : decode cX12_middle 75 = .ok (.iaload, 1) := z_o46 (z_wat (q := 64) (j := 11) zwX12_middle_64 rfl)
theorem dX12_middle_76 : decode cX12_middle 76 = .ok (.iaload, 1) := z_o46 (z_wat (q := 64) (j := 12) zwX12_middle_64 rfl)
theorem dX12_middle_77 : decode cX12_middle 77 = .ok (.aload_n 0, 1) := z_o42 (z_wat (q := 64) (j := 13) zwX12_middle_64 rfl)
theorem dX12_middle_78 : decode cX12_middle 78 = .ok (.getfield 32, 3) := z_o180 (z_wat (q := 64) (j := 14) zwX12_middle_64 rfl) (z_wat (q := 64) (j := 15) zwX12_middle_64 rfl) (z_wat (q := 64) (j := 16) zwX12_middle_64 rfl) rfl
theorem dX12_middle_81 : decode cX12_middle 81 = .ok (.iload_n 1, 1) := z_o27 (z_wat (q := 64) (j := 17) zwX12_middle_64 rfl)
theorem dX12_middle_82 : decode cX12_middle 82 = .ok (.iaload, 1) := z_o46 (z_wat (q := 64) (j := 18) zwX12_middle_64 rfl)
theorem dX12_middle_83 : decode cX12_middle 83 = .ok (.if_icmp .ne 7, 3) := z_o160 (z_wat (q := 64) (j := 19) zwX12_middle_64 rfl) (z_wat (q := 64) (j := 20) zwX12_middle_64 rfl) (z_wat (q := 64) (j := 21) zwX12_middle_64 rfl) rfl
theorem dX12_middle_86 : decode cX12_middle 86 = .ok (.iconst 1, 1) := z_o4 (z_wat (q := 64) (j := 22) zwX12_middle_64 rfl)
theorem dX12_middle_87 : decode cX12_middle 87 = .ok (.goto 4, 3) := z_o167 (z_wat (q := 64) (j := 23) zwX12_middle_64 rfl) (z_wat (q := 64) (j := 24) zwX12_middle_64 rfl) (z_wat (q := 64) (j := 25) zwX12_middle_64 rfl) rfl
theorem dX12_middle_90 : decode cX12_middle 90 = .ok (.iconst 0, 1) := z_o3 (z_wat (q := 64) (j := 26) zwX12_middle_64 rfl)
theorem dX12_middle_91 : decode cX12_middle 91 = .ok (.iadd, 1) := z_o96 (z_wat (q := 64) (j := 27) zwX12_middle_64 rfl)
theorem dX12_middle_92 : decode cX12_middle 92 = .ok (.istore_n 3, 1) := z_o62 (z_wat (q := 64) (j := 28) zwX12_middle_64 rfl)
theorem dX12_middle_93 : decode cX12_middle 93 = .ok (.iinc 4 1, 3) := z_o132 (z_wat (q := 64) (j := 29) zwX12_middle_64 rfl) (z_wat (q := 64) (j := 30) zwX12_middle_64 rfl) (z_wat (q := 64) (j := 31) zwX12_middle_64 rfl) rfl
theorem zwX12_middle_96 : ((cX12_middle.data.toList.drop 96).take 5).map UInt8.toNat = [167, 255, 215, 29, 172] := by decide +kernel
theorem dX12_middle_96 : decode cX12_middle 96 = .ok (.goto (-41), 3) := z_o167 (z_wat (q := 96) (j := 0) zwX12_middle_96 rfl) (z_wat (q := 96) (j := 1) zwX12_middle_96 rfl) (z_wat (q := 96) (j := 2) zwX12_middle_96 rfl) rfl
theorem dX12_middle_99 : decode cX12_middle 99 = .ok (.iload_n 3, 1) := z_o29 (z_wat (q := 96) (j := 3) zwX12_middle_96 rfl)
theorem dX12_middle_100 : decode cX12_middle 100 = .ok (.ireturn, 1) := z_o172 (z_wat (q := 96) (j := 4) zwX12_middle_96 rfl)
theorem zwX12_nameValue_0 : ((cX12_nameValue.data.toList.drop 0).take 34).map UInt8.toNat = [28, 170, 0, 0, 0, 0, 0, 180, 0, 0, 0, 0, 0, 0, 0, 8, 0, 0, 0, 51, 0, 0, 0, 51, 0, 0, 0, 51, 0, 0, 0, 61, 0, 0] := by decide +kernel
theorem dX12_nameValue_0 : decode cX12_nameValue 0 = .ok (.iload_n 2, 1) := z_o28 (z_wat (q := 0) (j := 0) zwX12_nameValue_0 rfl)
theorem dX12_nameValue_1 : decode cX12_nameValue 1 = .ok (.tableswitch 180 0 8 #[51, 51, 51, 61, 71, 110, 132, 139, 160], 51) := by decide +kernel
theorem zwX12_nameValue_32 : ((cX12_nameValue.data.toList.drop 32).take 34).map UInt8.toNat = [0, 0, 0, 71, 0, 0, 0, 110, 0, 0, 0, 132, 0, 0, 0, 139, 0, 0, 0, 160, 42, 27, 28, 182, 1, 58, 184, 1, 142, 173, 42, 27, 182, 1] := by decide +kernel
theorem dX12_nameValue_52 : decode cX12_nameValue 52 = .ok (.aload_n 0, 1) := z_o42 (z_wat (q := 32) (j := 20) zwX12_nameValue_32 rfl)
theorem dX12_nameValue_53 : decode cX12_nameValue 53 = .ok (.iload_n 1, 1) := z_o27 (z_wat (q := 32) (j := 21) zwX12_nameValue_32 rfl)
theorem dX12_nameValue_54 : decode cX12_nameValue 54 = .ok (.iload_n 2, 1) := z_o28 (z_wat (q := 32) (j := 22) zwX12_nameValue_32 rfl)
theorem dX12_nameValue_55 : decode cX12_nameValue 55 = .ok (.invokevirtual 314, 3) := z_o182 (z_wat (q := 32) (j := 23) zwX12_nameValue_32 rfl) (z_wat (q := 32) (j := 24) zwX12_nameValue_32 rfl) (z_wat (q := 32) (j := 25) zwX12_nameValue_32 rfl) rfl
theorem dX12_nameValue_58 : decode cX12_nameValue 58 = .ok (.invokestatic 398, 3) := z_o184 (z_wat (q := 32) (j := 26) zwX12_nameValue_32 rfl) (z_wat (q := 32) (j := 27) zwX12_nameValue_32 rfl) (z_wat (q := 32) (j := 28) zwX12_nameValue_32 rfl) rfl
theorem dX12_nameValue_61 : decode cX12_nameValue 61 = .ok (.lreturn, 1) := z_o173 (z_wat (q := 32) (j := 29) zwX12_nameValue_32 rfl)
theorem dX12_nameValue_62 : decode cX12_nameValue 62 = .ok (.aload_n 0, 1) := z_o42 (z_wat (q := 32) (j := 30) zwX12_nameValue_32 rfl)
theorem dX12_nameValue_63 : decode cX12_nameValue 63 = .ok (.iload_n 1, 1) := z_o27 (z_wat (q := 32) (j := 31) zwX12_nameValue_32 rfl)
theorem zwX12_nameValue_64 : ((cX12_nameValue.data.toList.drop 64).take 34).map UInt8.toNat = [182, 1, 23, 20, 1, 145, 109, 173, 42, 27, 182, 1, 52, 62, 29, 156, 0, 9, 20, 1, 140, 167, 0, 25, 29, 4, 126, 29, 4, 122, 4, 126, 96, 29] := by decide +kernel
theorem dX12_nameValue_64 : decode cX12_nameValue 64 = .ok (.invokevirtual 279, 3) := z_o182 (z_wat (q := 64) (j := 0) zwX12_nameValue_64 rfl) (z_wat (q := 64) (j := 1) zwX12_nameValue_64 rfl) (z_wat (q := 64) (j := 2) zwX12_nameValue_64 rfl) rfl
theorem dX12_nameValue_67 : decode cX12_nameValue 67 = .ok (.ldc2_w 401, 3) := z_o20 (z_wat (q := 64) (j := 3) zwX12_nameValue_64 rfl) (z_wat (q := 64) (j := 4) zwX12_nameValue_64 rfl) (z_wat (q := 64) (j := 5) zwX12_nameValue_64 rfl) rfl
theorem dX12_nameValue_70 : decode cX12_nameValue 70 = .ok (.ldiv, 1) := z_o109 (z_wat (q := 64) (j := 6) zwX12_nameValue_64 rfl)
theorem dX12_nameValue_71 : decode cX12_nameValue 71 = .ok (.lreturn, 1) := z_o173 (z_wat (q := 64) (j := 7) zwX12_nameValue_64 rfl)
theorem dX12_nameValue_72 : decode cX12_nameValue 72 = .ok (.aload_n 0, 1) := z_o42 (z_wat (q := 64) (j := 8) zwX12_nameValue_64 rfl)
theorem dX12_nameValue_73 : decode cX12_nameValue 73 = .ok (.iload_n 1, 1) := z_o27 (z_wat (q := 64) (j := 9) zwX12_nameValue_64 rfl)
theorem dX12_nameValue_74 : decode cX12_nameValue 74 = .ok (.invokevirtual 308, 3) := z_o182 (z_wat (q := 64) (j := 10) zwX12_nameValue_64 rfl) (z_wat (q := 64) (j := 11) zwX12_nameValue_64 rfl) (z_wat (q := 64) (j := 12) zwX12_nameValue_64 rfl) rfl
theorem dX12_nameValue_77 : decode cX12_nameValue 77 = .ok (.istore_n 3, 1) := z_o62 (z_wat (q := 64) (j := 13) zwX12_nameValue_64 rfl)
theorem dX12_nameValue_78 : decode cX12_nameValue 78 = .ok (.iload_n 3, 1) := z_o29 (z_wat (q := 64) (j := 14) zwX12_nameValue_64 rfl)
theorem dX12_nameValue_79 : decode cX12_nameValue 79 = .ok (.ifCond .ge 9, 3) := z_o156 (z_wat (q := 64) (j := 15) zwX12_nameValue_64 rfl) (z_wat (q := 64) (j := 16) zwX12_nameValue_64 rfl) (z_wat (q := 64) (j := 17) zwX12_nameValue_64 rfl) rfl
theorem dX12_nameValue_82 : decode cX12_nameValue 82 = .ok (.ldc2_w 396, 3) := z_o20 (z_wat (q := 64) (j := 18) zwX12_nameValue_64 rfl) (z_wat (q := 64) (j := 19) zwX12_nameValue_64 rfl) (z_wat (q := 64) (j := 20) zwX12_nameValue_64 rfl) rfl
theorem dX12_nameValue_85 : decode cX12_nameValue 85 = .ok (.goto 25, 3) := z_o167 (z_wat (q := 64) (j := 21) zwX12_nameValue_64 rfl) (z_wat (q := 64) (j := 22) zwX12_nameValue_64 rfl) (z_wat (q := 64) (j := 23) zwX12_nameValue_64 rfl) rfl
theorem dX12_nameValue_88 : decode cX12_nameValue 88 = .ok (.iload_n 3, 1) := z_o29 (z_wat (q := 64) (j := 24) zwX12_nameValue_64 rfl)
theorem dX12_nameValue_89 : decode cX12_nameValue 89 = .ok (.iconst 1, 1) := z_o4 (z_wat (q := 64) (j := 25) zwX12_nameValue_64 rfl)
theorem dX12_nameValue_90 : decode cX12_nameValue 90 = .ok (.iand, 1) := z_o126 (z_wat (q := 64) (j := 26) zwX12_nameValue_64 rfl)
theorem dX12_nameValue_91 : decode cX12_nameValue 91 = .ok (.iload_n 3, 1) := z_o29 (z_wat (q := 64) (j := 27) zwX12_nameValue_64 rfl)
theorem dX12_nameValue_92 : decode cX12_nameValue 92 = .ok (.iconst 1, 1) := z_o4 (z_wat (q := 64) (j := 28) zwX12_nameValue_64 rfl)
theorem dX12_nameValue_93 : decode cX12_nameValue 93 = .ok (.ishr, 1) := z_o122 (z_wat (q := 64) (j := 29) zwX12_nameValue_64 rfl)
theorem dX12_nameValue_94 : decode cX12_nameValue 94 = .ok (.iconst 1, 1) := z_o4 (z_wat (q := 64) (j := 30) zwX12_nameValue_64 rfl)
theorem dX12_nameValue_95 : decode cX12_nameValue 95 = .ok (.iand, 1) := z_o126 (z_wat (q := 64) (j := 31) zwX12_nameValue_64 rfl)
theorem zwX12_nameValue_96 : ((cX12_nameValue.data.toList.drop 96).take 34).map UInt8.toNat = [96, 29, 5, 122, 4, 126, 96, 29, 6, 122, 4, 126, 96, 133, 173, 42, 180, 0, 167, 4, 160, 0, 9, 20, 1, 140, 167, 0, 10, 42, 180, 0, 38, 27] := by decide +kernel
theorem dX12_nameValue_96 : decode cX12_nameValue 96 = .ok (.iadd, 1) := z_o96 (z_wat (q := 96) (j := 0) zwX12_nameValue_96 rfl)
theorem dX12_nameValue_97 : decode cX12_nameValue 97 = .ok (.iload_n 3, 1) := z_o29 (z_wat (q := 96) (j := 1) zwX12_nameValue_96 rfl)
theorem dX12_nameValue_98 : decode cX12_nameValue 98 = .ok (.iconst 2, 1) := z_o5 (z_wat (q := 96) (j := 2) zwX12_nameValue_96 rfl)
theorem dX12_nameValue_99 : decode cX12_nameValue 99 = .ok (.ishr, 1) := z_o122 (z_wat (q := 96) (j := 3) zwX12_nameValue_96 rfl)
theorem dX12_nameValue_100 : decode cX12_nameValue 100 = .ok (.iconst 1, 1) := z_o4 (z_wat (q := 96) (j := 4) zwX12_nameValue_96 rfl)
theorem dX12_nameValue_101 : decode cX12_nameValue 101 = .ok (.iand, 1) := z_o126 (z_wat (q := 96) (j := 5) zwX12_nameValue_96 rfl)
theorem dX12_nameValue_102 : decode cX12_nameValue 102 = .ok (.iadd, 1) := z_o96 (z_wat (q := 96) (j := 6) zwX12_nameValue_96 rfl)
theorem dX12_nameValue_103 : decode cX12_nameValue 103 = .ok (.iload_n 3, 1) := z_o29 (z_wat (q := 96) (j := 7) zwX12_nameValue_96 rfl)
theorem dX12_nameValue_104 : decode cX12_nameValue 104 = .ok (.iconst 3, 1) := z_o6 (z_wat (q := 96) (j := 8) zwX12_nameValue_96 rfl)
theorem dX12_nameValue_105 : decode cX12_nameValue 105 = .ok (.ishr, 1) := z_o122 (z_wat (q := 96) (j := 9) zwX12_nameValue_96 rfl)
theorem dX12_nameValue_106 : decode cX12_nameValue 106 = .ok (.iconst 1, 1) := z_o4 (z_wat (q := 96) (j := 10) zwX12_nameValue_96 rfl)
theorem dX12_nameValue_107 : decode cX12_nameValue 107 = .ok (.iand, 1) := z_o126 (z_wat (q := 96) (j := 11) zwX12_nameValue_96 rfl)
theorem dX12_nameValue_108 : decode cX12_nameValue 108 = .ok (.iadd, 1) := z_o96 (z_wat (q := 96) (j := 12) zwX12_nameValue_96 rfl)
theorem dX12_nameValue_109 : decode cX12_nameValue 109 = .ok (.i2l, 1) := z_o133 (z_wat (q := 96) (j := 13) zwX12_nameValue_96 rfl)
theorem dX12_nameValue_110 : decode cX12_nameValue 110 = .ok (.lreturn, 1) := z_o173 (z_wat (q := 96) (j := 14) zwX12_nameValue_96 rfl)
theorem dX12_nameValue_111 : decode cX12_nameValue 111 = .ok (.aload_n 0, 1) := z_o42 (z_wat (q := 96) (j := 15) zwX12_nameValue_96 rfl)
theorem dX12_nameValue_112 : decode cX12_nameValue 112 = .ok (.getfield 167, 3) := z_o180 (z_wat (q := 96) (j := 16) zwX12_nameValue_96 rfl) (z_wat (q := 96) (j := 17) zwX12_nameValue_96 rfl) (z_wat (q := 96) (j := 18) zwX12_nameValue_96 rfl) rfl
theorem dX12_nameValue_115 : decode cX12_nameValue 115 = .ok (.iconst 1, 1) := z_o4 (z_wat (q := 96) (j := 19) zwX12_nameValue_96 rfl)
theorem dX12_nameValue_116 : decode cX12_nameValue 116 = .ok (.if_icmp .ne 9, 3) := z_o160 (z_wat (q := 96) (j := 20) zwX12_nameValue_96 rfl) (z_wat (q := 96) (j := 21) zwX12_nameValue_96 rfl) (z_wat (q := 96) (j := 22) zwX12_nameValue_96 rfl) rfl
theorem dX12_nameValue_119 : decode cX12_nameValue 119 = .ok (.ldc2_w 396, 3) := z_o20 (z_wat (q := 96) (j := 23) zwX12_nameValue_96 rfl) (z_wat (q := 96) (j := 24) zwX12_nameValue_96 rfl) (z_wat (q := 96) (j := 25) zwX12_nameValue_96 rfl) rfl
theorem dX12_nameValue_122 : decode cX12_nameValue 122 = .ok (.goto 10, 3) := z_o167 (z_wat (q := 96) (j := 26) zwX12_nameValue_96 rfl) (z_wat (q := 96) (j := 27) zwX12_nameValue_96 rfl) (z_wat (q := 96) (j := 28) zwX12_nameValue_96 rfl) rfl
theorem dX12_nameValue_125 : decode cX12_nameValue 125 = .ok (.aload_n 0, 1) := z_o42 (z_wat (q := 96) (j := 29) zwX12_nameValue_96 rfl)
theorem dX12_nameValue_126 : decode cX12_nameValue 126 = .ok (.getfield 38, 3) := z_o180 (z_wat (q := 96) (j := 30) zwX12_nameValue_96 rfl) (z_wat (q := 96) (j := 31) zwX12_nameValue_96 rfl) (z_wat (q := 96) (j := 32) zwX12_nameValue_96 rfl) rfl
theorem zwX12_nameValue_128 : ((cX12_nameValue.data.toList.drop 128).take 34).map UInt8.toNat = [38, 27, 46, 133, 173, 42, 27, 182, 1, 27, 133, 173, 42, 180, 0, 181, 154, 0, 9, 20, 1, 140, 167, 0, 10, 42, 27, 2, 182, 0, 188, 133, 173, 42] := by decide +kernel
theorem dX12_nameValue_129 : decode cX12_nameValue 129 = .ok (.iload_n 1, 1) := z_o27 (z_wat (q := 128) (j := 1) zwX12_nameValue_128 rfl)
theorem dX12_nameValue_130 : decode cX12_nameValue 130 = .ok (.iaload, 1) := z_o46 (z_wat (q := 128) (j := 2) zwX12_nameValue_128 rfl)
theorem dX12_nameValue_131 : decode cX12_nameValue 131 = .ok (.i2l, 1) := z_o133 (z_wat (q := 128) (j := 3) zwX12_nameValue_128 rfl)
theorem dX12_nameValue_132 : decode cX12_nameValue 132 = .ok (.lreturn, 1) := z_o173 (z_wat (q := 128) (j := 4) zwX12_nameValue_128 rfl)
theorem dX12_nameValue_133 : decode cX12_nameValue 133 = .ok (.aload_n 0, 1) := z_o42 (z_wat (q := 128) (j := 5) zwX12_nameValue_128 rfl)
theorem dX12_nameValue_134 : decode cX12_nameValue 134 = .ok (.iload_n 1, 1) := z_o27 (z_wat (q := 128) (j := 6) zwX12_nameValue_128 rfl)
theorem dX12_nameValue_135 : decode cX12_nameValue 135 = .ok (.invokevirtual 283, 3) := z_o182 (z_wat (q := 128) (j := 7) zwX12_nameValue_128 rfl) (z_wat (q := 128) (j := 8) zwX12_nameValue_128 rfl) (z_wat (q := 128) (j := 9) zwX12_nameValue_128 rfl) rfl
theorem dX12_nameValue_138 : decode cX12_nameValue 138 = .ok (.i2l, 1) := z_o133 (z_wat (q := 128) (j := 10) zwX12_nameValue_128 rfl)
theorem dX12_nameValue_139 : decode cX12_nameValue 139 = .ok (.lreturn, 1) := z_o173 (z_wat (q := 128) (j := 11) zwX12_nameValue_128 rfl)
theorem dX12_nameValue_140 : decode cX12_nameValue 140 = .ok (.aload_n 0, 1) := z_o42 (z_wat (q := 128) (j := 12) zwX12_nameValue_128 rfl)
theorem dX12_nameValue_141 : decode cX12_nameValue 141 = .ok (.getfield 181, 3) := z_o180 (z_wat (q := 128) (j := 13) zwX12_nameValue_128 rfl) (z_wat (q := 128) (j := 14) zwX12_nameValue_128 rfl) (z_wat (q := 128) (j := 15) zwX12_nameValue_128 rfl) rfl
theorem dX12_nameValue_144 : decode cX12_nameValue 144 = .ok (.ifCond .ne 9, 3) := z_o154 (z_wat (q := 128) (j := 16) zwX12_nameValue_128 rfl) (z_wat (q := 128) (j := 17) zwX12_nameValue_128 rfl) (z_wat (q := 128) (j := 18) zwX12_nameValue_128 rfl) rfl
theorem dX12_nameValue_147 : decode cX12_nameValue 147 = .ok (.ldc2_w 396, 3) := z_o20 (z_wat (q := 128) (j := 19) zwX12_nameValue_128 rfl) (z_wat (q := 128) (j := 20) zwX12_nameValue_128 rfl) (z_wat (q := 128) (j := 21) zwX12_nameValue_128 rfl) rfl
theorem dX12_nameValue_150 : decode cX12_nameValue 150 = .ok (.goto 10, 3) := z_o167 (z_wat (q := 128) (j := 22) zwX12_nameValue_128 rfl) (z_wat (q := 128) (j := 23) zwX12_nameValue_128 rfl) (z_wat (q := 128) (j := 24) zwX12_nameValue_128 rfl) rfl
theorem dX12_nameValue_153 : decode cX12_nameValue 153 = .ok (.aload_n 0, 1) := z_o42 (z_wat (q := 128) (j := 25) zwX12_nameValue_128 rfl)
theorem dX12_nameValue_154 : decode cX12_nameValue 154 = .ok (.iload_n 1, 1) := z_o27 (z_wat (q := 128) (j := 26) zwX12_nameValue_128 rfl)
theorem dX12_nameValue_155 : decode cX12_nameValue 155 = .ok (.iconst (-1), 1) := z_o2 (z_wat (q := 128) (j := 27) zwX12_nameValue_128 rfl)
theorem dX12_nameValue_156 : decode cX12_nameValue 156 = .ok (.invokevirtual 188, 3) := z_o182 (z_wat (q := 128) (j := 28) zwX12_nameValue_128 rfl) (z_wat (q := 128) (j := 29) zwX12_nameValue_128 rfl) (z_wat (q := 128) (j := 30) zwX12_nameValue_128 rfl) rfl
theorem dX12_nameValue_159 : decode cX12_nameValue 159 = .ok (.i2l, 1) := z_o133 (z_wat (q := 128) (j := 31) zwX12_nameValue_128 rfl)
theorem zwX12_nameValue_160 : ((cX12_nameValue.data.toList.drop 160).take 27).map UInt8.toNat = [173, 42, 180, 0, 192, 154, 0, 9, 20, 1, 140, 167, 0, 9, 42, 27, 3, 182, 1, 20, 173, 42, 27, 182, 1, 23, 173] := by decide +kernel
theorem dX12_nameValue_160 : decode cX12_nameValue 160 = .ok (.lreturn, 1) := z_o173 (z_wat (q := 160) (j := 0) zwX12_nameValue_160 rfl)
theorem dX12_nameValue_161 : decode cX12_nameValue 161 = .ok (.aload_n 0, 1) := z_o42 (z_wat (q := 160) (j := 1) zwX12_nameValue_160 rfl)
theorem dX12_nameValue_162 : decode cX12_nameValue 162 = .ok (.getfield 192, 3) := z_o180 (z_wat (q := 160) (j := 2) zwX12_nameValue_160 rfl) (z_wat (q := 160) (j := 3) zwX12_nameValue_160 rfl) (z_wat (q := 160) (j := 4) zwX12_nameValue_160 rfl) rfl
theorem dX12_nameValue_165 : decode cX12_nameValue 165 = .ok (.ifCond .ne 9, 3) := z_o154 (z_wat (q := 160) (j := 5) zwX12_nameValue_160 rfl) (z_wat (q := 160) (j := 6) zwX12_nameValue_160 rfl) (z_wat (q := 160) (j := 7) zwX12_nameValue_160 rfl) rfl
theorem dX12_nameValue_168 : decode cX12_nameValue 168 = .ok (.ldc2_w 396, 3) := z_o20 (z_wat (q := 160) (j := 8) zwX12_nameValue_160 rfl) (z_wat (q := 160) (j := 9) zwX12_nameValue_160 rfl) (z_wat (q := 160) (j := 10) zwX12_nameValue_160 rfl) rfl
theorem dX12_nameValue_171 : decode cX12_nameValue 171 = .ok (.goto 9, 3) := z_o167 (z_wat (q := 160) (j := 11) zwX12_nameValue_160 rfl) (z_wat (q := 160) (j := 12) zwX12_nameValue_160 rfl) (z_wat (q := 160) (j := 13) zwX12_nameValue_160 rfl) rfl
theorem dX12_nameValue_174 : decode cX12_nameValue 174 = .ok (.aload_n 0, 1) := z_o42 (z_wat (q := 160) (j := 14) zwX12_nameValue_160 rfl)
theorem dX12_nameValue_175 : decode cX12_nameValue 175 = .ok (.iload_n 1, 1) := z_o27 (z_wat (q := 160) (j := 15) zwX12_nameValue_160 rfl)
theorem dX12_nameValue_176 : decode cX12_nameValue 176 = .ok (.iconst 0, 1) := z_o3 (z_wat (q := 160) (j := 16) zwX12_nameValue_160 rfl)
theorem dX12_nameValue_177 : decode cX12_nameValue 177 = .ok (.invokevirtual 276, 3) := z_o182 (z_wat (q := 160) (j := 17) zwX12_nameValue_160 rfl) (z_wat (q := 160) (j := 18) zwX12_nameValue_160 rfl) (z_wat (q := 160) (j := 19) zwX12_nameValue_160 rfl) rfl
theorem dX12_nameValue_180 : decode cX12_nameValue 180 = .ok (.lreturn, 1) := z_o173 (z_wat (q := 160) (j := 20) zwX12_nameValue_160 rfl)
theorem dX12_nameValue_181 : decode cX12_nameValue 181 = .ok (.aload_n 0, 1) := z_o42 (z_wat (q := 160) (j := 21) zwX12_nameValue_160 rfl)
theorem dX12_nameValue_182 : decode cX12_nameValue 182 = .ok (.iload_n 1, 1) := z_o27 (z_wat (q := 160) (j := 22) zwX12_nameValue_160 rfl)
theorem dX12_nameValue_183 : decode cX12_nameValue 183 = .ok (.invokevirtual 279, 3) := z_o182 (z_wat (q := 160) (j := 23) zwX12_nameValue_160 rfl) (z_wat (q := 160) (j := 24) zwX12_nameValue_160 rfl) (z_wat (q := 160) (j := 25) zwX12_nameValue_160 rfl) rfl
theorem dX12_nameValue_186 : decode cX12_nameValue 186 = .ok (.lreturn, 1) := z_o173 (z_wat (q := 160) (j := 26) zwX12_nameValue_160 rfl)
theorem zwX12_order_0 : ((cX12_order.data.toList.drop 0).take 34).map UInt8.toNat = [42, 3, 181, 0, 145, 42, 27, 182, 0, 170, 153, 0, 19, 42, 28, 182, 0, 157, 153, 0, 11, 42, 29, 182, 0, 157, 154, 0, 5, 2, 172, 42, 27, 182] := by decide +kernel
theorem dX12_order_0 : decode cX12_order 0 = .ok (.aload_n 0, 1) := z_o42 (z_wat (q := 0) (j := 0) zwX12_order_0 rfl)
theorem dX12_order_1 : decode cX12_order 1 = .ok (.iconst 0, 1) := z_o3 (z_wat (q := 0) (j := 1) zwX12_order_0 rfl)
theorem dX12_order_2 : decode cX12_order 2 = .ok (.putfield 145, 3) := z_o181 (z_wat (q := 0) (j := 2) zwX12_order_0 rfl) (z_wat (q := 0) (j := 3) zwX12_order_0 rfl) (z_wat (q := 0) (j := 4) zwX12_order_0 rfl) rfl
theorem dX12_order_5 : decode cX12_order 5 = .ok (.aload_n 0, 1) := z_o42 (z_wat (q := 0) (j := 5) zwX12_order_0 rfl)
theorem dX12_order_6 : decode cX12_order 6 = .ok (.iload_n 1, 1) := z_o27 (z_wat (q := 0) (j := 6) zwX12_order_0 rfl)
theorem dX12_order_7 : decode cX12_order 7 = .ok (.invokevirtual 170, 3) := z_o182 (z_wat (q := 0) (j := 7) zwX12_order_0 rfl) (z_wat (q := 0) (j := 8) zwX12_order_0 rfl) (z_wat (q := 0) (j := 9) zwX12_order_0 rfl) rfl
theorem dX12_order_10 : decode cX12_order 10 = .ok (.ifCond .eq 19, 3) := z_o153 (z_wat (q := 0) (j := 10) zwX12_order_0 rfl) (z_wat (q := 0) (j := 11) zwX12_order_0 rfl) (z_wat (q := 0) (j := 12) zwX12_order_0 rfl) rfl
theorem dX12_order_13 : decode cX12_order 13 = .ok (.aload_n 0, 1) := z_o42 (z_wat (q := 0) (j := 13) zwX12_order_0 rfl)
theorem dX12_order_14 : decode cX12_order 14 = .ok (.iload_n 2, 1) := z_o28 (z_wat (q := 0) (j := 14) zwX12_order_0 rfl)
theorem dX12_order_15 : decode cX12_order 15 = .ok (.invokevirtual 157, 3) := z_o182 (z_wat (q := 0) (j := 15) zwX12_order_0 rfl) (z_wat (q := 0) (j := 16) zwX12_order_0 rfl) (z_wat (q := 0) (j := 17) zwX12_order_0 rfl) rfl
theorem dX12_order_18 : decode cX12_order 18 = .ok (.ifCond .eq 11, 3) := z_o153 (z_wat (q := 0) (j := 18) zwX12_order_0 rfl) (z_wat (q := 0) (j := 19) zwX12_order_0 rfl) (z_wat (q := 0) (j := 20) zwX12_order_0 rfl) rfl
theorem dX12_order_21 : decode cX12_order 21 = .ok (.aload_n 0, 1) := z_o42 (z_wat (q := 0) (j := 21) zwX12_order_0 rfl)
theorem dX12_order_22 : decode cX12_order 22 = .ok (.iload_n 3, 1) := z_o29 (z_wat (q := 0) (j := 22) zwX12_order_0 rfl)
theorem dX12_order_23 : decode cX12_order 23 = .ok (.invokevirtual 157, 3) := z_o182 (z_wat (q := 0) (j := 23) zwX12_order_0 rfl) (z_wat (q := 0) (j := 24) zwX12_order_0 rfl) (z_wat (q := 0) (j := 25) zwX12_order_0 rfl) rfl
theorem dX12_order_26 : decode cX12_order 26 = .ok (.ifCond .ne 5, 3) := z_o154 (z_wat (q := 0) (j := 26) zwX12_order_0 rfl) (z_wat (q := 0) (j := 27) zwX12_order_0 rfl) (z_wat (q := 0) (j := 28) zwX12_order_0 rfl) rfl
theorem dX12_order_29 : decode cX12_order 29 = .ok (.iconst (-1), 1) := z_o2 (z_wat (q := 0) (j := 29) zwX12_order_0 rfl)
theorem dX12_order_30 : decode cX12_order 30 = .ok (.ireturn, 1) := z_o172 (z_wat (q := 0) (j := 30) zwX12_order_0 rfl)
theorem dX12_order_31 : decode cX12_order 31 = .ok (.aload_n 0, 1) := z_o42 (z_wat (q := 0) (j := 31) zwX12_order_0 rfl)
theorem zwX12_order_32 : ((cX12_order.data.toList.drop 32).take 34).map UInt8.toNat = [27, 182, 0, 173, 42, 180, 0, 35, 16, 12, 42, 180, 0, 32, 28, 46, 104, 42, 180, 0, 32, 29, 46, 96, 51, 153, 0, 7, 4, 167, 0, 4, 3, 42] := by decide +kernel
theorem dX12_order_32 : decode cX12_order 32 = .ok (.iload_n 1, 1) := z_o27 (z_wat (q := 32) (j := 0) zwX12_order_32 rfl)
theorem dX12_order_33 : decode cX12_order 33 = .ok (.invokevirtual 173, 3) := z_o182 (z_wat (q := 32) (j := 1) zwX12_order_32 rfl) (z_wat (q := 32) (j := 2) zwX12_order_32 rfl) (z_wat (q := 32) (j := 3) zwX12_order_32 rfl) rfl
theorem dX12_order_36 : decode cX12_order 36 = .ok (.aload_n 0, 1) := z_o42 (z_wat (q := 32) (j := 4) zwX12_order_32 rfl)
theorem dX12_order_37 : decode cX12_order 37 = .ok (.getfield 35, 3) := z_o180 (z_wat (q := 32) (j := 5) zwX12_order_32 rfl) (z_wat (q := 32) (j := 6) zwX12_order_32 rfl) (z_wat (q := 32) (j := 7) zwX12_order_32 rfl) rfl
theorem dX12_order_40 : decode cX12_order 40 = .ok (.bipush 12, 2) := z_o16 (z_wat (q := 32) (j := 8) zwX12_order_32 rfl) (z_wat (q := 32) (j := 9) zwX12_order_32 rfl) rfl
theorem dX12_order_42 : decode cX12_order 42 = .ok (.aload_n 0, 1) := z_o42 (z_wat (q := 32) (j := 10) zwX12_order_32 rfl)
theorem dX12_order_43 : decode cX12_order 43 = .ok (.getfield 32, 3) := z_o180 (z_wat (q := 32) (j := 11) zwX12_order_32 rfl) (z_wat (q := 32) (j := 12) zwX12_order_32 rfl) (z_wat (q := 32) (j := 13) zwX12_order_32 rfl) rfl
theorem dX12_order_46 : decode cX12_order 46 = .ok (.iload_n 2, 1) := z_o28 (z_wat (q := 32) (j := 14) zwX12_order_32 rfl)
theorem dX12_order_47 : decode cX12_order 47 = .ok (.iaload, 1) := z_o46 (z_wat (q := 32) (j := 15) zwX12_order_32 rfl)
theorem dX12_order_48 : decode cX12_order 48 = .ok (.imul, 1) := z_o104 (z_wat (q := 32) (j := 16) zwX12_order_32 rfl)
theorem dX12_order_49 : decode cX12_order 49 = .ok (.aload_n 0, 1) := z_o42 (z_wat (q := 32) (j := 17) zwX12_order_32 rfl)
theorem dX12_order_50 : decode cX12_order 50 = .ok (.getfield 32, 3) := z_o180 (z_wat (q := 32) (j := 18) zwX12_order_32 rfl) (z_wat (q := 32) (j := 19) zwX12_order_32 rfl) (z_wat (q := 32) (j := 20) zwX12_order_32 rfl) rfl
theorem dX12_order_53 : decode cX12_order 53 = .ok (.iload_n 3, 1) := z_o29 (z_wat (q := 32) (j := 21) zwX12_order_32 rfl)
theorem dX12_order_54 : decode cX12_order 54 = .ok (.iaload, 1) := z_o46 (z_wat (q := 32) (j := 22) zwX12_order_32 rfl)
theorem dX12_order_55 : decode cX12_order 55 = .ok (.iadd, 1) := z_o96 (z_wat (q := 32) (j := 23) zwX12_order_32 rfl)
theorem dX12_order_56 : decode cX12_order 56 = .ok (.baload, 1) := z_o51 (z_wat (q := 32) (j := 24) zwX12_order_32 rfl)
theorem dX12_order_57 : decode cX12_order 57 = .ok (.ifCond .eq 7, 3) := z_o153 (z_wat (q := 32) (j := 25) zwX12_order_32 rfl) (z_wat (q := 32) (j := 26) zwX12_order_32 rfl) (z_wat (q := 32) (j := 27) zwX12_order_32 rfl) rfl
theorem dX12_order_60 : decode cX12_order 60 = .ok (.iconst 1, 1) := z_o4 (z_wat (q := 32) (j := 28) zwX12_order_32 rfl)
theorem dX12_order_61 : decode cX12_order 61 = .ok (.goto 4, 3) := z_o167 (z_wat (q := 32) (j := 29) zwX12_order_32 rfl) (z_wat (q := 32) (j := 30) zwX12_order_32 rfl) (z_wat (q := 32) (j := 31) zwX12_order_32 rfl) rfl
theorem zwX12_order_64 : ((cX12_order.data.toList.drop 64).take 32).map UInt8.toNat = [3, 42, 180, 0, 35, 16, 12, 42, 180, 0, 32, 29, 46, 104, 42, 180, 0, 32, 28, 46, 96, 51, 153, 0, 7, 5, 167, 0, 4, 3, 96, 172] := by decide +kernel
theorem dX12_order_64 : decode cX12_order 64 = .ok (.iconst 0, 1) := z_o3 (z_wat (q := 64) (j := 0) zwX12_order_64 rfl)
theorem dX12_order_65 : decode cX12_order 65 = .ok (.aload_n 0, 1) := z_o42 (z_wat (q := 64) (j := 1) zwX12_order_64 rfl)
theorem dX12_order_66 : decode cX12_order 66 = .ok (.getfield 35, 3) := z_o180 (z_wat (q := 64) (j := 2) zwX12_order_64 rfl) (z_wat (q := 64) (j := 3) zwX12_order_64 rfl) (z_wat (q := 64) (j := 4) zwX12_order_64 rfl) rfl
theorem dX12_order_69 : decode cX12_order 69 = .ok (.bipush 12, 2) := z_o16 (z_wat (q := 64) (j := 5) zwX12_order_64 rfl) (z_wat (q := 64) (j := 6) zwX12_order_64 rfl) rfl
theorem dX12_order_71 : decode cX12_order 71 = .ok (.aload_n 0, 1) := z_o42 (z_wat (q := 64) (j := 7) zwX12_order_64 rfl)
theorem dX12_order_72 : decode cX12_order 72 = .ok (.getfield 32, 3) := z_o180 (z_wat (q := 64) (j := 8) zwX12_order_64 rfl) (z_wat (q := 64) (j := 9) zwX12_order_64 rfl) (z_wat (q := 64) (j := 10) zwX12_order_64 rfl) rfl
theorem dX12_order_75 : decode cX12_order 75 = .ok (.iload_n 3, 1) := z_o29 (z_wat (q := 64) (j := 11) zwX12_order_64 rfl)
theorem dX12_order_76 : decode cX12_order 76 = .ok (.iaload, 1) := z_o46 (z_wat (q := 64) (j := 12) zwX12_order_64 rfl)
theorem dX12_order_77 : decode cX12_order 77 = .ok (.imul, 1) := z_o104 (z_wat (q := 64) (j := 13) zwX12_order_64 rfl)
theorem dX12_order_78 : decode cX12_order 78 = .ok (.aload_n 0, 1) := z_o42 (z_wat (q := 64) (j := 14) zwX12_order_64 rfl)
theorem dX12_order_79 : decode cX12_order 79 = .ok (.getfield 32, 3) := z_o180 (z_wat (q := 64) (j := 15) zwX12_order_64 rfl) (z_wat (q := 64) (j := 16) zwX12_order_64 rfl) (z_wat (q := 64) (j := 17) zwX12_order_64 rfl) rfl
theorem dX12_order_82 : decode cX12_order 82 = .ok (.iload_n 2, 1) := z_o28 (z_wat (q := 64) (j := 18) zwX12_order_64 rfl)
theorem dX12_order_83 : decode cX12_order 83 = .ok (.iaload, 1) := z_o46 (z_wat (q := 64) (j := 19) zwX12_order_64 rfl)
theorem dX12_order_84 : decode cX12_order 84 = .ok (.iadd, 1) := z_o96 (z_wat (q := 64) (j := 20) zwX12_order_64 rfl)
theorem dX12_order_85 : decode cX12_order 85 = .ok (.baload, 1) := z_o51 (z_wat (q := 64) (j := 21) zwX12_order_64 rfl)
theorem dX12_order_86 : decode cX12_order 86 = .ok (.ifCond .eq 7, 3) := z_o153 (z_wat (q := 64) (j := 22) zwX12_order_64 rfl) (z_wat (q := 64) (j := 23) zwX12_order_64 rfl) (z_wat (q := 64) (j := 24) zwX12_order_64 rfl) rfl
theorem dX12_order_89 : decode cX12_order 89 = .ok (.iconst 2, 1) := z_o5 (z_wat (q := 64) (j := 25) zwX12_order_64 rfl)
theorem dX12_order_90 : decode cX12_order 90 = .ok (.goto 4, 3) := z_o167 (z_wat (q := 64) (j := 26) zwX12_order_64 rfl) (z_wat (q := 64) (j := 27) zwX12_order_64 rfl) (z_wat (q := 64) (j := 28) zwX12_order_64 rfl) rfl
theorem dX12_order_93 : decode cX12_order 93 = .ok (.iconst 0, 1) := z_o3 (z_wat (q := 64) (j := 29) zwX12_order_64 rfl)
theorem dX12_order_94 : decode cX12_order 94 = .ok (.iadd, 1) := z_o96 (z_wat (q := 64) (j := 30) zwX12_order_64 rfl)
theorem dX12_order_95 : decode cX12_order 95 = .ok (.ireturn, 1) := z_o172 (z_wat (q := 64) (j := 31) zwX12_order_64 rfl)
theorem zwX12_quarrel_0 : ((cX12_quarrel.data.toList.drop 0).take 25).map UInt8.toNat = [42, 3, 181, 0, 145, 42, 27, 182, 0, 170, 154, 0, 5, 2, 172, 42, 27, 182, 0, 173, 42, 180, 0, 167, 172] := by decide +kernel
theorem dX12_quarrel_0 : decode cX12_quarrel 0 = .ok (.aload_n 0, 1) := z_o42 (z_wat (q := 0) (j := 0) zwX12_quarrel_0 rfl)
theorem dX12_quarrel_1 : decode cX12_quarrel 1 = .ok (.iconst 0, 1) := z_o3 (z_wat (q := 0) (j := 1) zwX12_quarrel_0 rfl)
theorem dX12_quarrel_2 : decode cX12_quarrel 2 = .ok (.putfield 145, 3) := z_o181 (z_wat (q := 0) (j := 2) zwX12_quarrel_0 rfl) (z_wat (q := 0) (j := 3) zwX12_quarrel_0 rfl) (z_wat (q := 0) (j := 4) zwX12_quarrel_0 rfl) rfl
theorem dX12_quarrel_5 : decode cX12_quarrel 5 = .ok (.aload_n 0, 1) := z_o42 (z_wat (q := 0) (j := 5) zwX12_quarrel_0 rfl)
theorem dX12_quarrel_6 : decode cX12_quarrel 6 = .ok (.iload_n 1, 1) := z_o27 (z_wat (q := 0) (j := 6) zwX12_quarrel_0 rfl)
theorem dX12_quarrel_7 : decode cX12_quarrel 7 = .ok (.invokevirtual 170, 3) := z_o182 (z_wat (q := 0) (j := 7) zwX12_quarrel_0 rfl) (z_wat (q := 0) (j := 8) zwX12_quarrel_0 rfl) (z_wat (q := 0) (j := 9) zwX12_quarrel_0 rfl) rfl
theorem dX12_quarrel_10 : decode cX12_quarrel 10 = .ok (.ifCond .ne 5, 3) := z_o154 (z_wat (q := 0) (j := 10) zwX12_quarrel_0 rfl) (z_wat (q := 0) (j := 11) zwX12_quarrel_0 rfl) (z_wat (q := 0) (j := 12) zwX12_quarrel_0 rfl) rfl
theorem dX12_quarrel_13 : decode cX12_quarrel 13 = .ok (.iconst (-1), 1) := z_o2 (z_wat (q := 0) (j := 13) zwX12_quarrel_0 rfl)
theorem dX12_quarrel_14 : decode cX12_quarrel 14 = .ok (.ireturn, 1) := z_o172 (z_wat (q := 0) (j := 14) zwX12_quarrel_0 rfl)
theorem dX12_quarrel_15 : decode cX12_quarrel 15 = .ok (.aload_n 0, 1) := z_o42 (z_wat (q := 0) (j := 15) zwX12_quarrel_0 rfl)
theorem dX12_quarrel_16 : decode cX12_quarrel 16 = .ok (.iload_n 1, 1) := z_o27 (z_wat (q := 0) (j := 16) zwX12_quarrel_0 rfl)
theorem dX12_quarrel_17 : decode cX12_quarrel 17 = .ok (.invokevirtual 173, 3) := z_o182 (z_wat (q := 0) (j := 17) zwX12_quarrel_0 rfl) (z_wat (q := 0) (j := 18) zwX12_quarrel_0 rfl) (z_wat (q := 0) (j := 19) zwX12_quarrel_0 rfl) rfl
theorem dX12_quarrel_20 : decode cX12_quarrel 20 = .ok (.aload_n 0, 1) := z_o42 (z_wat (q := 0) (j := 20) zwX12_quarrel_0 rfl)
theorem dX12_quarrel_21 : decode cX12_quarrel 21 = .ok (.getfield 167, 3) := z_o180 (z_wat (q := 0) (j := 21) zwX12_quarrel_0 rfl) (z_wat (q := 0) (j := 22) zwX12_quarrel_0 rfl) (z_wat (q := 0) (j := 23) zwX12_quarrel_0 rfl) rfl
theorem dX12_quarrel_24 : decode cX12_quarrel 24 = .ok (.ireturn, 1) := z_o172 (z_wat (q := 0) (j := 24) zwX12_quarrel_0 rfl)
theorem zwX12_readings_0 : ((cX12_readings.data.toList.drop 0).take 34).map UInt8.toNat = [42, 3, 181, 0, 145, 42, 27, 182, 0, 157, 153, 0, 54, 28, 184, 1, 32, 153, 0, 47, 29, 184, 1, 35, 153, 0, 40, 21, 4, 184, 1, 35, 153, 0] := by decide +kernel
theorem dX12_readings_0 : decode cX12_readings 0 = .ok (.aload_n 0, 1) := z_o42 (z_wat (q := 0) (j := 0) zwX12_readings_0 rfl)
theorem dX12_readings_1 : decode cX12_readings 1 = .ok (.iconst 0, 1) := z_o3 (z_wat (q := 0) (j := 1) zwX12_readings_0 rfl)
theorem dX12_readings_2 : decode cX12_readings 2 = .ok (.putfield 145, 3) := z_o181 (z_wat (q := 0) (j := 2) zwX12_readings_0 rfl) (z_wat (q := 0) (j := 3) zwX12_readings_0 rfl) (z_wat (q := 0) (j := 4) zwX12_readings_0 rfl) rfl
theorem dX12_readings_5 : decode cX12_readings 5 = .ok (.aload_n 0, 1) := z_o42 (z_wat (q := 0) (j := 5) zwX12_readings_0 rfl)
theorem dX12_readings_6 : decode cX12_readings 6 = .ok (.iload_n 1, 1) := z_o27 (z_wat (q := 0) (j := 6) zwX12_readings_0 rfl)
theorem dX12_readings_7 : decode cX12_readings 7 = .ok (.invokevirtual 157, 3) := z_o182 (z_wat (q := 0) (j := 7) zwX12_readings_0 rfl) (z_wat (q := 0) (j := 8) zwX12_readings_0 rfl) (z_wat (q := 0) (j := 9) zwX12_readings_0 rfl) rfl
theorem dX12_readings_10 : decode cX12_readings 10 = .ok (.ifCond .eq 54, 3) := z_o153 (z_wat (q := 0) (j := 10) zwX12_readings_0 rfl) (z_wat (q := 0) (j := 11) zwX12_readings_0 rfl) (z_wat (q := 0) (j := 12) zwX12_readings_0 rfl) rfl
theorem dX12_readings_13 : decode cX12_readings 13 = .ok (.iload_n 2, 1) := z_o28 (z_wat (q := 0) (j := 13) zwX12_readings_0 rfl)
theorem dX12_readings_14 : decode cX12_readings 14 = .ok (.invokestatic 288, 3) := z_o184 (z_wat (q := 0) (j := 14) zwX12_readings_0 rfl) (z_wat (q := 0) (j := 15) zwX12_readings_0 rfl) (z_wat (q := 0) (j := 16) zwX12_readings_0 rfl) rfl
theorem dX12_readings_17 : decode cX12_readings 17 = .ok (.ifCond .eq 47, 3) := z_o153 (z_wat (q := 0) (j := 17) zwX12_readings_0 rfl) (z_wat (q := 0) (j := 18) zwX12_readings_0 rfl) (z_wat (q := 0) (j := 19) zwX12_readings_0 rfl) rfl
theorem dX12_readings_20 : decode cX12_readings 20 = .ok (.iload_n 3, 1) := z_o29 (z_wat (q := 0) (j := 20) zwX12_readings_0 rfl)
theorem dX12_readings_21 : decode cX12_readings 21 = .ok (.invokestatic 291, 3) := z_o184 (z_wat (q := 0) (j := 21) zwX12_readings_0 rfl) (z_wat (q := 0) (j := 22) zwX12_readings_0 rfl) (z_wat (q := 0) (j := 23) zwX12_readings_0 rfl) rfl
theorem dX12_readings_24 : decode cX12_readings 24 = .ok (.ifCond .eq 40, 3) := z_o153 (z_wat (q := 0) (j := 24) zwX12_readings_0 rfl) (z_wat (q := 0) (j := 25) zwX12_readings_0 rfl) (z_wat (q := 0) (j := 26) zwX12_readings_0 rfl) rfl
theorem dX12_readings_27 : decode cX12_readings 27 = .ok (.iload 4, 2) := z_o21 (z_wat (q := 0) (j := 27) zwX12_readings_0 rfl) (z_wat (q := 0) (j := 28) zwX12_readings_0 rfl)
theorem dX12_readings_29 : decode cX12_readings 29 = .ok (.invokestatic 291, 3) := z_o184 (z_wat (q := 0) (j := 29) zwX12_readings_0 rfl) (z_wat (q := 0) (j := 30) zwX12_readings_0 rfl) (z_wat (q := 0) (j := 31) zwX12_readings_0 rfl) rfl
theorem zwX12_readings_32 : ((cX12_readings.data.toList.drop 32).take 34).map UInt8.toNat = [153, 0, 32, 21, 5, 184, 1, 35, 153, 0, 24, 21, 6, 184, 1, 35, 153, 0, 16, 29, 21, 4, 96, 21, 5, 96, 21, 6, 96, 154, 0, 5, 2, 172] := by decide +kernel
theorem dX12_readings_32 : decode cX12_readings 32 = .ok (.ifCond .eq 32, 3) := z_o153 (z_wat (q := 32) (j := 0) zwX12_readings_32 rfl) (z_wat (q := 32) (j := 1) zwX12_readings_32 rfl) (z_wat (q := 32) (j := 2) zwX12_readings_32 rfl) rfl
theorem dX12_readings_35 : decode cX12_readings 35 = .ok (.iload 5, 2) := z_o21 (z_wat (q := 32) (j := 3) zwX12_readings_32 rfl) (z_wat (q := 32) (j := 4) zwX12_readings_32 rfl)
theorem dX12_readings_37 : decode cX12_readings 37 = .ok (.invokestatic 291, 3) := z_o184 (z_wat (q := 32) (j := 5) zwX12_readings_32 rfl) (z_wat (q := 32) (j := 6) zwX12_readings_32 rfl) (z_wat (q := 32) (j := 7) zwX12_readings_32 rfl) rfl
theorem dX12_readings_40 : decode cX12_readings 40 = .ok (.ifCond .eq 24, 3) := z_o153 (z_wat (q := 32) (j := 8) zwX12_readings_32 rfl) (z_wat (q := 32) (j := 9) zwX12_readings_32 rfl) (z_wat (q := 32) (j := 10) zwX12_readings_32 rfl) rfl
theorem dX12_readings_43 : decode cX12_readings 43 = .ok (.iload 6, 2) := z_o21 (z_wat (q := 32) (j := 11) zwX12_readings_32 rfl) (z_wat (q := 32) (j := 12) zwX12_readings_32 rfl)
theorem dX12_readings_45 : decode cX12_readings 45 = .ok (.invokestatic 291, 3) := z_o184 (z_wat (q := 32) (j := 13) zwX12_readings_32 rfl) (z_wat (q := 32) (j := 14) zwX12_readings_32 rfl) (z_wat (q := 32) (j := 15) zwX12_readings_32 rfl) rfl
theorem dX12_readings_48 : decode cX12_readings 48 = .ok (.ifCond .eq 16, 3) := z_o153 (z_wat (q := 32) (j := 16) zwX12_readings_32 rfl) (z_wat (q := 32) (j := 17) zwX12_readings_32 rfl) (z_wat (q := 32) (j := 18) zwX12_readings_32 rfl) rfl
theorem dX12_readings_51 : decode cX12_readings 51 = .ok (.iload_n 3, 1) := z_o29 (z_wat (q := 32) (j := 19) zwX12_readings_32 rfl)
theorem dX12_readings_52 : decode cX12_readings 52 = .ok (.iload 4, 2) := z_o21 (z_wat (q := 32) (j := 20) zwX12_readings_32 rfl) (z_wat (q := 32) (j := 21) zwX12_readings_32 rfl)
theorem dX12_readings_54 : decode cX12_readings 54 = .ok (.iadd, 1) := z_o96 (z_wat (q := 32) (j := 22) zwX12_readings_32 rfl)
theorem dX12_readings_55 : decode cX12_readings 55 = .ok (.iload 5, 2) := z_o21 (z_wat (q := 32) (j := 23) zwX12_readings_32 rfl) (z_wat (q := 32) (j := 24) zwX12_readings_32 rfl)
theorem dX12_readings_57 : decode cX12_readings 57 = .ok (.iadd, 1) := z_o96 (z_wat (q := 32) (j := 25) zwX12_readings_32 rfl)
theorem dX12_readings_58 : decode cX12_readings 58 = .ok (.iload 6, 2) := z_o21 (z_wat (q := 32) (j := 26) zwX12_readings_32 rfl) (z_wat (q := 32) (j := 27) zwX12_readings_32 rfl)
theorem dX12_readings_60 : decode cX12_readings 60 = .ok (.iadd, 1) := z_o96 (z_wat (q := 32) (j := 28) zwX12_readings_32 rfl)
theorem dX12_readings_61 : decode cX12_readings 61 = .ok (.ifCond .ne 5, 3) := z_o154 (z_wat (q := 32) (j := 29) zwX12_readings_32 rfl) (z_wat (q := 32) (j := 30) zwX12_readings_32 rfl) (z_wat (q := 32) (j := 31) zwX12_readings_32 rfl) rfl
theorem zwX12_readings_64 : ((cX12_readings.data.toList.drop 64).take 34).map UInt8.toNat = [2, 172, 42, 42, 180, 0, 154, 182, 0, 173, 42, 42, 180, 0, 32, 27, 46, 28, 182, 1, 38, 29, 96, 21, 4, 96, 21, 5, 96, 21, 6, 96, 54, 7] := by decide +kernel
theorem dX12_readings_64 : decode cX12_readings 64 = .ok (.iconst (-1), 1) := z_o2 (z_wat (q := 64) (j := 0) zwX12_readings_64 rfl)
theorem dX12_readings_65 : decode cX12_readings 65 = .ok (.ireturn, 1) := z_o172 (z_wat (q := 64) (j := 1) zwX12_readings_64 rfl)
theorem dX12_readings_66 : decode cX12_readings 66 = .ok (.aload_n 0, 1) := z_o42 (z_wat (q := 64) (j := 2) zwX12_readings_64 rfl)
theorem dX12_readings_67 : decode cX12_readings 67 = .ok (.aload_n 0, 1) := z_o42 (z_wat (q := 64) (j := 3) zwX12_readings_64 rfl)
theorem dX12_readings_68 : decode cX12_readings 68 = .ok (.getfield 154, 3) := z_o180 (z_wat (q := 64) (j := 4) zwX12_readings_64 rfl) (z_wat (q := 64) (j := 5) zwX12_readings_64 rfl) (z_wat (q := 64) (j := 6) zwX12_readings_64 rfl) rfl
theorem dX12_readings_71 : decode cX12_readings 71 = .ok (.invokevirtual 173, 3) := z_o182 (z_wat (q := 64) (j := 7) zwX12_readings_64 rfl) (z_wat (q := 64) (j := 8) zwX12_readings_64 rfl) (z_wat (q := 64) (j := 9) zwX12_readings_64 rfl) rfl
theorem dX12_readings_74 : decode cX12_readings 74 = .ok (.aload_n 0, 1) := z_o42 (z_wat (q := 64) (j := 10) zwX12_readings_64 rfl)
theorem dX12_readings_75 : decode cX12_readings 75 = .ok (.aload_n 0, 1) := z_o42 (z_wat (q := 64) (j := 11) zwX12_readings_64 rfl)
theorem dX12_readings_76 : decode cX12_readings 76 = .ok (.getfield 32, 3) := z_o180 (z_wat (q := 64) (j := 12) zwX12_readings_64 rfl) (z_wat (q := 64) (j := 13) zwX12_readings_64 rfl) (z_wat (q := 64) (j := 14) zwX12_readings_64 rfl) rfl
theorem dX12_readings_79 : decode cX12_readings 79 = .ok (.iload_n 1, 1) := z_o27 (z_wat (q := 64) (j := 15) zwX12_readings_64 rfl)
theorem dX12_readings_80 : decode cX12_readings 80 = .ok (.iaload, 1) := z_o46 (z_wat (q := 64) (j := 16) zwX12_readings_64 rfl)
theorem dX12_readings_81 : decode cX12_readings 81 = .ok (.iload_n 2, 1) := z_o28 (z_wat (q := 64) (j := 17) zwX12_readings_64 rfl)
theorem dX12_readings_82 : decode cX12_readings 82 = .ok (.invokevirtual 294, 3) := z_o182 (z_wat (q := 64) (j := 18) zwX12_readings_64 rfl) (z_wat (q := 64) (j := 19) zwX12_readings_64 rfl) (z_wat (q := 64) (j := 20) zwX12_readings_64 rfl) rfl
theorem dX12_readings_85 : decode cX12_readings 85 = .ok (.iload_n 3, 1) := z_o29 (z_wat (q := 64) (j := 21) zwX12_readings_64 rfl)
theorem dX12_readings_86 : decode cX12_readings 86 = .ok (.iadd, 1) := z_o96 (z_wat (q := 64) (j := 22) zwX12_readings_64 rfl)
theorem dX12_readings_87 : decode cX12_readings 87 = .ok (.iload 4, 2) := z_o21 (z_wat (q := 64) (j := 23) zwX12_readings_64 rfl) (z_wat (q := 64) (j := 24) zwX12_readings_64 rfl)
theorem dX12_readings_89 : decode cX12_readings 89 = .ok (.iadd, 1) := z_o96 (z_wat (q := 64) (j := 25) zwX12_readings_64 rfl)
theorem dX12_readings_90 : decode cX12_readings 90 = .ok (.iload 5, 2) := z_o21 (z_wat (q := 64) (j := 26) zwX12_readings_64 rfl) (z_wat (q := 64) (j := 27) zwX12_readings_64 rfl)
theorem dX12_readings_92 : decode cX12_readings 92 = .ok (.iadd, 1) := z_o96 (z_wat (q := 64) (j := 28) zwX12_readings_64 rfl)
theorem dX12_readings_93 : decode cX12_readings 93 = .ok (.iload 6, 2) := z_o21 (z_wat (q := 64) (j := 29) zwX12_readings_64 rfl) (z_wat (q := 64) (j := 30) zwX12_readings_64 rfl)
theorem dX12_readings_95 : decode cX12_readings 95 = .ok (.iadd, 1) := z_o96 (z_wat (q := 64) (j := 31) zwX12_readings_64 rfl)
theorem zwX12_readings_96 : ((cX12_readings.data.toList.drop 96).take 34).map UInt8.toNat = [54, 7, 21, 7, 16, 40, 164, 0, 5, 2, 172, 16, 12, 27, 104, 7, 28, 104, 96, 54, 8, 42, 180, 0, 81, 21, 8, 92, 46, 29, 96, 79, 42, 180] := by decide +kernel
theorem dX12_readings_96 : decode cX12_readings 96 = .ok (.istore 7, 2) := z_o54 (z_wat (q := 96) (j := 0) zwX12_readings_96 rfl) (z_wat (q := 96) (j := 1) zwX12_readings_96 rfl)
theorem dX12_readings_98 : decode cX12_readings 98 = .ok (.iload 7, 2) := z_o21 (z_wat (q := 96) (j := 2) zwX12_readings_96 rfl) (z_wat (q := 96) (j := 3) zwX12_readings_96 rfl)
theorem dX12_readings_100 : decode cX12_readings 100 = .ok (.bipush 40, 2) := z_o16 (z_wat (q := 96) (j := 4) zwX12_readings_96 rfl) (z_wat (q := 96) (j := 5) zwX12_readings_96 rfl) rfl
theorem dX12_readings_102 : decode cX12_readings 102 = .ok (.if_icmp .le 5, 3) := z_o164 (z_wat (q := 96) (j := 6) zwX12_readings_96 rfl) (z_wat (q := 96) (j := 7) zwX12_readings_96 rfl) (z_wat (q := 96) (j := 8) zwX12_readings_96 rfl) rfl
theorem dX12_readings_105 : decode cX12_readings 105 = .ok (.iconst (-1), 1) := z_o2 (z_wat (q := 96) (j := 9) zwX12_readings_96 rfl)
theorem dX12_readings_106 : decode cX12_readings 106 = .ok (.ireturn, 1) := z_o172 (z_wat (q := 96) (j := 10) zwX12_readings_96 rfl)
theorem dX12_readings_107 : decode cX12_readings 107 = .ok (.bipush 12, 2) := z_o16 (z_wat (q := 96) (j := 11) zwX12_readings_96 rfl) (z_wat (q := 96) (j := 12) zwX12_readings_96 rfl) rfl
theorem dX12_readings_109 : decode cX12_readings 109 = .ok (.iload_n 1, 1) := z_o27 (z_wat (q := 96) (j := 13) zwX12_readings_96 rfl)
theorem dX12_readings_110 : decode cX12_readings 110 = .ok (.imul, 1) := z_o104 (z_wat (q := 96) (j := 14) zwX12_readings_96 rfl)
theorem dX12_readings_111 : decode cX12_readings 111 = .ok (.iconst 4, 1) := z_o7 (z_wat (q := 96) (j := 15) zwX12_readings_96 rfl)
theorem dX12_readings_112 : decode cX12_readings 112 = .ok (.iload_n 2, 1) := z_o28 (z_wat (q := 96) (j := 16) zwX12_readings_96 rfl)
theorem dX12_readings_113 : decode cX12_readings 113 = .ok (.imul, 1) := z_o104 (z_wat (q := 96) (j := 17) zwX12_readings_96 rfl)
theorem dX12_readings_114 : decode cX12_readings 114 = .ok (.iadd, 1) := z_o96 (z_wat (q := 96) (j := 18) zwX12_readings_96 rfl)
theorem dX12_readings_115 : decode cX12_readings 115 = .ok (.istore 8, 2) := z_o54 (z_wat (q := 96) (j := 19) zwX12_readings_96 rfl) (z_wat (q := 96) (j := 20) zwX12_readings_96 rfl)
theorem dX12_readings_117 : decode cX12_readings 117 = .ok (.aload_n 0, 1) := z_o42 (z_wat (q := 96) (j := 21) zwX12_readings_96 rfl)
theorem dX12_readings_118 : decode cX12_readings 118 = .ok (.getfield 81, 3) := z_o180 (z_wat (q := 96) (j := 22) zwX12_readings_96 rfl) (z_wat (q := 96) (j := 23) zwX12_readings_96 rfl) (z_wat (q := 96) (j := 24) zwX12_readings_96 rfl) rfl
theorem dX12_readings_121 : decode cX12_readings 121 = .ok (.iload 8, 2) := z_o21 (z_wat (q := 96) (j := 25) zwX12_readings_96 rfl) (z_wat (q := 96) (j := 26) zwX12_readings_96 rfl)
theorem dX12_readings_123 : decode cX12_readings 123 = .ok (.dup2, 1) := z_o92 (z_wat (q := 96) (j := 27) zwX12_readings_96 rfl)
theorem dX12_readings_124 : decode cX12_readings 124 = .ok (.iaload, 1) := z_o46 (z_wat (q := 96) (j := 28) zwX12_readings_96 rfl)
theorem dX12_readings_125 : decode cX12_readings 125 = .ok (.iload_n 3, 1) := z_o29 (z_wat (q := 96) (j := 29) zwX12_readings_96 rfl)
theorem dX12_readings_126 : decode cX12_readings 126 = .ok (.iadd, 1) := z_o96 (z_wat (q := 96) (j := 30) zwX12_readings_96 rfl)
theorem dX12_readings_127 : decode cX12_readings 127 = .ok (.iastore, 1) := z_o79 (z_wat (q := 96) (j := 31) zwX12_readings_96 rfl)
theorem zwX12_readings_128 : ((cX12_readings.data.toList.drop 128).take 34).map UInt8.toNat = [42, 180, 0, 81, 21, 8, 4, 96, 92, 46, 21, 4, 96, 79, 42, 180, 0, 81, 21, 8, 5, 96, 92, 46, 21, 5, 96, 79, 42, 180, 0, 81, 21, 8] := by decide +kernel
theorem dX12_readings_128 : decode cX12_readings 128 = .ok (.aload_n 0, 1) := z_o42 (z_wat (q := 128) (j := 0) zwX12_readings_128 rfl)
theorem dX12_readings_129 : decode cX12_readings 129 = .ok (.getfield 81, 3) := z_o180 (z_wat (q := 128) (j := 1) zwX12_readings_128 rfl) (z_wat (q := 128) (j := 2) zwX12_readings_128 rfl) (z_wat (q := 128) (j := 3) zwX12_readings_128 rfl) rfl
theorem dX12_readings_132 : decode cX12_readings 132 = .ok (.iload 8, 2) := z_o21 (z_wat (q := 128) (j := 4) zwX12_readings_128 rfl) (z_wat (q := 128) (j := 5) zwX12_readings_128 rfl)
theorem dX12_readings_134 : decode cX12_readings 134 = .ok (.iconst 1, 1) := z_o4 (z_wat (q := 128) (j := 6) zwX12_readings_128 rfl)
theorem dX12_readings_135 : decode cX12_readings 135 = .ok (.iadd, 1) := z_o96 (z_wat (q := 128) (j := 7) zwX12_readings_128 rfl)
theorem dX12_readings_136 : decode cX12_readings 136 = .ok (.dup2, 1) := z_o92 (z_wat (q := 128) (j := 8) zwX12_readings_128 rfl)
theorem dX12_readings_137 : decode cX12_readings 137 = .ok (.iaload, 1) := z_o46 (z_wat (q := 128) (j := 9) zwX12_readings_128 rfl)
theorem dX12_readings_138 : decode cX12_readings 138 = .ok (.iload 4, 2) := z_o21 (z_wat (q := 128) (j := 10) zwX12_readings_128 rfl) (z_wat (q := 128) (j := 11) zwX12_readings_128 rfl)
theorem dX12_readings_140 : decode cX12_readings 140 = .ok (.iadd, 1) := z_o96 (z_wat (q := 128) (j := 12) zwX12_readings_128 rfl)
theorem dX12_readings_141 : decode cX12_readings 141 = .ok (.iastore, 1) := z_o79 (z_wat (q := 128) (j := 13) zwX12_readings_128 rfl)
theorem dX12_readings_142 : decode cX12_readings 142 = .ok (.aload_n 0, 1) := z_o42 (z_wat (q := 128) (j := 14) zwX12_readings_128 rfl)
theorem dX12_readings_143 : decode cX12_readings 143 = .ok (.getfield 81, 3) := z_o180 (z_wat (q := 128) (j := 15) zwX12_readings_128 rfl) (z_wat (q := 128) (j := 16) zwX12_readings_128 rfl) (z_wat (q := 128) (j := 17) zwX12_readings_128 rfl) rfl
theorem dX12_readings_146 : decode cX12_readings 146 = .ok (.iload 8, 2) := z_o21 (z_wat (q := 128) (j := 18) zwX12_readings_128 rfl) (z_wat (q := 128) (j := 19) zwX12_readings_128 rfl)
theorem dX12_readings_148 : decode cX12_readings 148 = .ok (.iconst 2, 1) := z_o5 (z_wat (q := 128) (j := 20) zwX12_readings_128 rfl)
theorem dX12_readings_149 : decode cX12_readings 149 = .ok (.iadd, 1) := z_o96 (z_wat (q := 128) (j := 21) zwX12_readings_128 rfl)
theorem dX12_readings_150 : decode cX12_readings 150 = .ok (.dup2, 1) := z_o92 (z_wat (q := 128) (j := 22) zwX12_readings_128 rfl)
theorem dX12_readings_151 : decode cX12_readings 151 = .ok (.iaload, 1) := z_o46 (z_wat (q := 128) (j := 23) zwX12_readings_128 rfl)
theorem dX12_readings_152 : decode cX12_readings 152 = .ok (.iload 5, 2) := z_o21 (z_wat (q := 128) (j := 24) zwX12_readings_128 rfl) (z_wat (q := 128) (j := 25) zwX12_readings_128 rfl)
theorem dX12_readings_154 : decode cX12_readings 154 = .ok (.iadd, 1) := z_o96 (z_wat (q := 128) (j := 26) zwX12_readings_128 rfl)
theorem dX12_readings_155 : decode cX12_readings 155 = .ok (.iastore, 1) := z_o79 (z_wat (q := 128) (j := 27) zwX12_readings_128 rfl)
theorem dX12_readings_156 : decode cX12_readings 156 = .ok (.aload_n 0, 1) := z_o42 (z_wat (q := 128) (j := 28) zwX12_readings_128 rfl)
theorem dX12_readings_157 : decode cX12_readings 157 = .ok (.getfield 81, 3) := z_o180 (z_wat (q := 128) (j := 29) zwX12_readings_128 rfl) (z_wat (q := 128) (j := 30) zwX12_readings_128 rfl) (z_wat (q := 128) (j := 31) zwX12_readings_128 rfl) rfl
theorem zwX12_readings_160 : ((cX12_readings.data.toList.drop 160).take 13).map UInt8.toNat = [21, 8, 6, 96, 92, 46, 21, 6, 96, 79, 21, 7, 172] := by decide +kernel
theorem dX12_readings_160 : decode cX12_readings 160 = .ok (.iload 8, 2) := z_o21 (z_wat (q := 160) (j := 0) zwX12_readings_160 rfl) (z_wat (q := 160) (j := 1) zwX12_readings_160 rfl)
theorem dX12_readings_162 : decode cX12_readings 162 = .ok (.iconst 3, 1) := z_o6 (z_wat (q := 160) (j := 2) zwX12_readings_160 rfl)
theorem dX12_readings_163 : decode cX12_readings 163 = .ok (.iadd, 1) := z_o96 (z_wat (q := 160) (j := 3) zwX12_readings_160 rfl)
theorem dX12_readings_164 : decode cX12_readings 164 = .ok (.dup2, 1) := z_o92 (z_wat (q := 160) (j := 4) zwX12_readings_160 rfl)
theorem dX12_readings_165 : decode cX12_readings 165 = .ok (.iaload, 1) := z_o46 (z_wat (q := 160) (j := 5) zwX12_readings_160 rfl)
theorem dX12_readings_166 : decode cX12_readings 166 = .ok (.iload 6, 2) := z_o21 (z_wat (q := 160) (j := 6) zwX12_readings_160 rfl) (z_wat (q := 160) (j := 7) zwX12_readings_160 rfl)
theorem dX12_readings_168 : decode cX12_readings 168 = .ok (.iadd, 1) := z_o96 (z_wat (q := 160) (j := 8) zwX12_readings_160 rfl)
theorem dX12_readings_169 : decode cX12_readings 169 = .ok (.iastore, 1) := z_o79 (z_wat (q := 160) (j := 9) zwX12_readings_160 rfl)
theorem dX12_readings_170 : decode cX12_readings 170 = .ok (.iload 7, 2) := z_o21 (z_wat (q := 160) (j := 10) zwX12_readings_160 rfl) (z_wat (q := 160) (j := 11) zwX12_readings_160 rfl)
theorem dX12_readings_172 : decode cX12_readings 172 = .ok (.ireturn, 1) := z_o172 (z_wat (q := 160) (j := 12) zwX12_readings_160 rfl)
theorem zwX12_season_0 : ((cX12_season.data.toList.drop 0).take 34).map UInt8.toNat = [42, 3, 181, 0, 145, 42, 27, 182, 0, 157, 153, 0, 19, 28, 184, 1, 32, 153, 0, 12, 29, 155, 0, 8, 29, 8, 164, 0, 5, 2, 172, 42, 42, 180] := by decide +kernel
theorem dX12_season_0 : decode cX12_season 0 = .ok (.aload_n 0, 1) := z_o42 (z_wat (q := 0) (j := 0) zwX12_season_0 rfl)
theorem dX12_season_1 : decode cX12_season 1 = .ok (.iconst 0, 1) := z_o3 (z_wat (q := 0) (j := 1) zwX12_season_0 rfl)
theorem dX12_season_2 : decode cX12_season 2 = .ok (.putfield 145, 3) := z_o181 (z_wat (q := 0) (j := 2) zwX12_season_0 rfl) (z_wat (q := 0) (j := 3) zwX12_season_0 rfl) (z_wat (q := 0) (j := 4) zwX12_season_0 rfl) rfl
theorem dX12_season_5 : decode cX12_season 5 = .ok (.aload_n 0, 1) := z_o42 (z_wat (q := 0) (j := 5) zwX12_season_0 rfl)
theorem dX12_season_6 : decode cX12_season 6 = .ok (.iload_n 1, 1) := z_o27 (z_wat (q := 0) (j := 6) zwX12_season_0 rfl)
theorem dX12_season_7 : decode cX12_season 7 = .ok (.invokevirtual 157, 3) := z_o182 (z_wat (q := 0) (j := 7) zwX12_season_0 rfl) (z_wat (q := 0) (j := 8) zwX12_season_0 rfl) (z_wat (q := 0) (j := 9) zwX12_season_0 rfl) rfl
theorem dX12_season_10 : decode cX12_season 10 = .ok (.ifCond .eq 19, 3) := z_o153 (z_wat (q := 0) (j := 10) zwX12_season_0 rfl) (z_wat (q := 0) (j := 11) zwX12_season_0 rfl) (z_wat (q := 0) (j := 12) zwX12_season_0 rfl) rfl
theorem dX12_season_13 : decode cX12_season 13 = .ok (.iload_n 2, 1) := z_o28 (z_wat (q := 0) (j := 13) zwX12_season_0 rfl)
theorem dX12_season_14 : decode cX12_season 14 = .ok (.invokestatic 288, 3) := z_o184 (z_wat (q := 0) (j := 14) zwX12_season_0 rfl) (z_wat (q := 0) (j := 15) zwX12_season_0 rfl) (z_wat (q := 0) (j := 16) zwX12_season_0 rfl) rfl
theorem dX12_season_17 : decode cX12_season 17 = .ok (.ifCond .eq 12, 3) := z_o153 (z_wat (q := 0) (j := 17) zwX12_season_0 rfl) (z_wat (q := 0) (j := 18) zwX12_season_0 rfl) (z_wat (q := 0) (j := 19) zwX12_season_0 rfl) rfl
theorem dX12_season_20 : decode cX12_season 20 = .ok (.iload_n 3, 1) := z_o29 (z_wat (q := 0) (j := 20) zwX12_season_0 rfl)
theorem dX12_season_21 : decode cX12_season 21 = .ok (.ifCond .lt 8, 3) := z_o155 (z_wat (q := 0) (j := 21) zwX12_season_0 rfl) (z_wat (q := 0) (j := 22) zwX12_season_0 rfl) (z_wat (q := 0) (j := 23) zwX12_season_0 rfl) rfl
theorem dX12_season_24 : decode cX12_season 24 = .ok (.iload_n 3, 1) := z_o29 (z_wat (q := 0) (j := 24) zwX12_season_0 rfl)
theorem dX12_season_25 : decode cX12_season 25 = .ok (.iconst 5, 1) := z_o8 (z_wat (q := 0) (j := 25) zwX12_season_0 rfl)
theorem dX12_season_26 : decode cX12_season 26 = .ok (.if_icmp .le 5, 3) := z_o164 (z_wat (q := 0) (j := 26) zwX12_season_0 rfl) (z_wat (q := 0) (j := 27) zwX12_season_0 rfl) (z_wat (q := 0) (j := 28) zwX12_season_0 rfl) rfl
theorem dX12_season_29 : decode cX12_season 29 = .ok (.iconst (-1), 1) := z_o2 (z_wat (q := 0) (j := 29) zwX12_season_0 rfl)
theorem dX12_season_30 : decode cX12_season 30 = .ok (.ireturn, 1) := z_o172 (z_wat (q := 0) (j := 30) zwX12_season_0 rfl)
theorem dX12_season_31 : decode cX12_season 31 = .ok (.aload_n 0, 1) := z_o42 (z_wat (q := 0) (j := 31) zwX12_season_0 rfl)
theorem zwX12_season_32 : ((cX12_season.data.toList.drop 32).take 34).map UInt8.toNat = [42, 180, 0, 154, 182, 0, 173, 29, 8, 160, 0, 15, 42, 42, 180, 0, 32, 27, 46, 28, 182, 1, 38, 172, 42, 42, 180, 0, 32, 27, 46, 28, 182, 1] := by decide +kernel
theorem dX12_season_32 : decode cX12_season 32 = .ok (.aload_n 0, 1) := z_o42 (z_wat (q := 32) (j := 0) zwX12_season_32 rfl)
theorem dX12_season_33 : decode cX12_season 33 = .ok (.getfield 154, 3) := z_o180 (z_wat (q := 32) (j := 1) zwX12_season_32 rfl) (z_wat (q := 32) (j := 2) zwX12_season_32 rfl) (z_wat (q := 32) (j := 3) zwX12_season_32 rfl) rfl
theorem dX12_season_36 : decode cX12_season 36 = .ok (.invokevirtual 173, 3) := z_o182 (z_wat (q := 32) (j := 4) zwX12_season_32 rfl) (z_wat (q := 32) (j := 5) zwX12_season_32 rfl) (z_wat (q := 32) (j := 6) zwX12_season_32 rfl) rfl
theorem dX12_season_39 : decode cX12_season 39 = .ok (.iload_n 3, 1) := z_o29 (z_wat (q := 32) (j := 7) zwX12_season_32 rfl)
theorem dX12_season_40 : decode cX12_season 40 = .ok (.iconst 5, 1) := z_o8 (z_wat (q := 32) (j := 8) zwX12_season_32 rfl)
theorem dX12_season_41 : decode cX12_season 41 = .ok (.if_icmp .ne 15, 3) := z_o160 (z_wat (q := 32) (j := 9) zwX12_season_32 rfl) (z_wat (q := 32) (j := 10) zwX12_season_32 rfl) (z_wat (q := 32) (j := 11) zwX12_season_32 rfl) rfl
theorem dX12_season_44 : decode cX12_season 44 = .ok (.aload_n 0, 1) := z_o42 (z_wat (q := 32) (j := 12) zwX12_season_32 rfl)
theorem dX12_season_45 : decode cX12_season 45 = .ok (.aload_n 0, 1) := z_o42 (z_wat (q := 32) (j := 13) zwX12_season_32 rfl)
theorem dX12_season_46 : decode cX12_season 46 = .ok (.getfield 32, 3) := z_o180 (z_wat (q := 32) (j := 14) zwX12_season_32 rfl) (z_wat (q := 32) (j := 15) zwX12_season_32 rfl) (z_wat (q := 32) (j := 16) zwX12_season_32 rfl) rfl
theorem dX12_season_49 : decode cX12_season 49 = .ok (.iload_n 1, 1) := z_o27 (z_wat (q := 32) (j := 17) zwX12_season_32 rfl)
theorem dX12_season_50 : decode cX12_season 50 = .ok (.iaload, 1) := z_o46 (z_wat (q := 32) (j := 18) zwX12_season_32 rfl)
theorem dX12_season_51 : decode cX12_season 51 = .ok (.iload_n 2, 1) := z_o28 (z_wat (q := 32) (j := 19) zwX12_season_32 rfl)
theorem dX12_season_52 : decode cX12_season 52 = .ok (.invokevirtual 294, 3) := z_o182 (z_wat (q := 32) (j := 20) zwX12_season_32 rfl) (z_wat (q := 32) (j := 21) zwX12_season_32 rfl) (z_wat (q := 32) (j := 22) zwX12_season_32 rfl) rfl
theorem dX12_season_55 : decode cX12_season 55 = .ok (.ireturn, 1) := z_o172 (z_wat (q := 32) (j := 23) zwX12_season_32 rfl)
theorem dX12_season_56 : decode cX12_season 56 = .ok (.aload_n 0, 1) := z_o42 (z_wat (q := 32) (j := 24) zwX12_season_32 rfl)
theorem dX12_season_57 : decode cX12_season 57 = .ok (.aload_n 0, 1) := z_o42 (z_wat (q := 32) (j := 25) zwX12_season_32 rfl)
theorem dX12_season_58 : decode cX12_season 58 = .ok (.getfield 32, 3) := z_o180 (z_wat (q := 32) (j := 26) zwX12_season_32 rfl) (z_wat (q := 32) (j := 27) zwX12_season_32 rfl) (z_wat (q := 32) (j := 28) zwX12_season_32 rfl) rfl
theorem dX12_season_61 : decode cX12_season 61 = .ok (.iload_n 1, 1) := z_o27 (z_wat (q := 32) (j := 29) zwX12_season_32 rfl)
theorem dX12_season_62 : decode cX12_season 62 = .ok (.iaload, 1) := z_o46 (z_wat (q := 32) (j := 30) zwX12_season_32 rfl)
theorem dX12_season_63 : decode cX12_season 63 = .ok (.iload_n 2, 1) := z_o28 (z_wat (q := 32) (j := 31) zwX12_season_32 rfl)
theorem zwX12_season_64 : ((cX12_season.data.toList.drop 64).take 30).map UInt8.toNat = [182, 1, 49, 16, 40, 164, 0, 5, 2, 172, 29, 7, 160, 0, 11, 42, 180, 1, 41, 136, 167, 0, 9, 42, 180, 0, 87, 29, 46, 172] := by decide +kernel
theorem dX12_season_64 : decode cX12_season 64 = .ok (.invokevirtual 305, 3) := z_o182 (z_wat (q := 64) (j := 0) zwX12_season_64 rfl) (z_wat (q := 64) (j := 1) zwX12_season_64 rfl) (z_wat (q := 64) (j := 2) zwX12_season_64 rfl) rfl
theorem dX12_season_67 : decode cX12_season 67 = .ok (.bipush 40, 2) := z_o16 (z_wat (q := 64) (j := 3) zwX12_season_64 rfl) (z_wat (q := 64) (j := 4) zwX12_season_64 rfl) rfl
theorem dX12_season_69 : decode cX12_season 69 = .ok (.if_icmp .le 5, 3) := z_o164 (z_wat (q := 64) (j := 5) zwX12_season_64 rfl) (z_wat (q := 64) (j := 6) zwX12_season_64 rfl) (z_wat (q := 64) (j := 7) zwX12_season_64 rfl) rfl
theorem dX12_season_72 : decode cX12_season 72 = .ok (.iconst (-1), 1) := z_o2 (z_wat (q := 64) (j := 8) zwX12_season_64 rfl)
theorem dX12_season_73 : decode cX12_season 73 = .ok (.ireturn, 1) := z_o172 (z_wat (q := 64) (j := 9) zwX12_season_64 rfl)
theorem dX12_season_74 : decode cX12_season 74 = .ok (.iload_n 3, 1) := z_o29 (z_wat (q := 64) (j := 10) zwX12_season_64 rfl)
theorem dX12_season_75 : decode cX12_season 75 = .ok (.iconst 4, 1) := z_o7 (z_wat (q := 64) (j := 11) zwX12_season_64 rfl)
theorem dX12_season_76 : decode cX12_season 76 = .ok (.if_icmp .ne 11, 3) := z_o160 (z_wat (q := 64) (j := 12) zwX12_season_64 rfl) (z_wat (q := 64) (j := 13) zwX12_season_64 rfl) (z_wat (q := 64) (j := 14) zwX12_season_64 rfl) rfl
theorem dX12_season_79 : decode cX12_season 79 = .ok (.aload_n 0, 1) := z_o42 (z_wat (q := 64) (j := 15) zwX12_season_64 rfl)
theorem dX12_season_80 : decode cX12_season 80 = .ok (.getfield 297, 3) := z_o180 (z_wat (q := 64) (j := 16) zwX12_season_64 rfl) (z_wat (q := 64) (j := 17) zwX12_season_64 rfl) (z_wat (q := 64) (j := 18) zwX12_season_64 rfl) rfl
theorem dX12_season_83 : decode cX12_season 83 = .ok (.l2i, 1) := z_o136 (z_wat (q := 64) (j := 19) zwX12_season_64 rfl)
theorem dX12_season_84 : decode cX12_season 84 = .ok (.goto 9, 3) := z_o167 (z_wat (q := 64) (j := 20) zwX12_season_64 rfl) (z_wat (q := 64) (j := 21) zwX12_season_64 rfl) (z_wat (q := 64) (j := 22) zwX12_season_64 rfl) rfl
theorem dX12_season_87 : decode cX12_season 87 = .ok (.aload_n 0, 1) := z_o42 (z_wat (q := 64) (j := 23) zwX12_season_64 rfl)
theorem dX12_season_88 : decode cX12_season 88 = .ok (.getfield 87, 3) := z_o180 (z_wat (q := 64) (j := 24) zwX12_season_64 rfl) (z_wat (q := 64) (j := 25) zwX12_season_64 rfl) (z_wat (q := 64) (j := 26) zwX12_season_64 rfl) rfl
theorem dX12_season_91 : decode cX12_season 91 = .ok (.iload_n 3, 1) := z_o29 (z_wat (q := 64) (j := 27) zwX12_season_64 rfl)
theorem dX12_season_92 : decode cX12_season 92 = .ok (.iaload, 1) := z_o46 (z_wat (q := 64) (j := 28) zwX12_season_64 rfl)
theorem dX12_season_93 : decode cX12_season 93 = .ok (.ireturn, 1) := z_o172 (z_wat (q := 64) (j := 29) zwX12_season_64 rfl)
theorem zwX12_stay_0 : ((cX12_stay.data.toList.drop 0).take 34).map UInt8.toNat = [42, 3, 181, 0, 145, 42, 27, 182, 0, 157, 154, 0, 5, 2, 172, 42, 42, 180, 0, 154, 182, 0, 173, 42, 42, 180, 0, 32, 27, 46, 182, 1, 52, 172] := by decide +kernel
theorem dX12_stay_0 : decode cX12_stay 0 = .ok (.aload_n 0, 1) := z_o42 (z_wat (q := 0) (j := 0) zwX12_stay_0 rfl)
theorem dX12_stay_1 : decode cX12_stay 1 = .ok (.iconst 0, 1) := z_o3 (z_wat (q := 0) (j := 1) zwX12_stay_0 rfl)
theorem dX12_stay_2 : decode cX12_stay 2 = .ok (.putfield 145, 3) := z_o181 (z_wat (q := 0) (j := 2) zwX12_stay_0 rfl) (z_wat (q := 0) (j := 3) zwX12_stay_0 rfl) (z_wat (q := 0) (j := 4) zwX12_stay_0 rfl) rfl
theorem dX12_stay_5 : decode cX12_stay 5 = .ok (.aload_n 0, 1) := z_o42 (z_wat (q := 0) (j := 5) zwX12_stay_0 rfl)
theorem dX12_stay_6 : decode cX12_stay 6 = .ok (.iload_n 1, 1) := z_o27 (z_wat (q := 0) (j := 6) zwX12_stay_0 rfl)
theorem dX12_stay_7 : decode cX12_stay 7 = .ok (.invokevirtual 157, 3) := z_o182 (z_wat (q := 0) (j := 7) zwX12_stay_0 rfl) (z_wat (q := 0) (j := 8) zwX12_stay_0 rfl) (z_wat (q := 0) (j := 9) zwX12_stay_0 rfl) rfl
theorem dX12_stay_10 : decode cX12_stay 10 = .ok (.ifCond .ne 5, 3) := z_o154 (z_wat (q := 0) (j := 10) zwX12_stay_0 rfl) (z_wat (q := 0) (j := 11) zwX12_stay_0 rfl) (z_wat (q := 0) (j := 12) zwX12_stay_0 rfl) rfl
theorem dX12_stay_13 : decode cX12_stay 13 = .ok (.iconst (-1), 1) := z_o2 (z_wat (q := 0) (j := 13) zwX12_stay_0 rfl)
theorem dX12_stay_14 : decode cX12_stay 14 = .ok (.ireturn, 1) := z_o172 (z_wat (q := 0) (j := 14) zwX12_stay_0 rfl)
theorem dX12_stay_15 : decode cX12_stay 15 = .ok (.aload_n 0, 1) := z_o42 (z_wat (q := 0) (j := 15) zwX12_stay_0 rfl)
theorem dX12_stay_16 : decode cX12_stay 16 = .ok (.aload_n 0, 1) := z_o42 (z_wat (q := 0) (j := 16) zwX12_stay_0 rfl)
theorem dX12_stay_17 : decode cX12_stay 17 = .ok (.getfield 154, 3) := z_o180 (z_wat (q := 0) (j := 17) zwX12_stay_0 rfl) (z_wat (q := 0) (j := 18) zwX12_stay_0 rfl) (z_wat (q := 0) (j := 19) zwX12_stay_0 rfl) rfl
theorem dX12_stay_20 : decode cX12_stay 20 = .ok (.invokevirtual 173, 3) := z_o182 (z_wat (q := 0) (j := 20) zwX12_stay_0 rfl) (z_wat (q := 0) (j := 21) zwX12_stay_0 rfl) (z_wat (q := 0) (j := 22) zwX12_stay_0 rfl) rfl
theorem dX12_stay_23 : decode cX12_stay 23 = .ok (.aload_n 0, 1) := z_o42 (z_wat (q := 0) (j := 23) zwX12_stay_0 rfl)
theorem dX12_stay_24 : decode cX12_stay 24 = .ok (.aload_n 0, 1) := z_o42 (z_wat (q := 0) (j := 24) zwX12_stay_0 rfl)
theorem dX12_stay_25 : decode cX12_stay 25 = .ok (.getfield 32, 3) := z_o180 (z_wat (q := 0) (j := 25) zwX12_stay_0 rfl) (z_wat (q := 0) (j := 26) zwX12_stay_0 rfl) (z_wat (q := 0) (j := 27) zwX12_stay_0 rfl) rfl
theorem dX12_stay_28 : decode cX12_stay 28 = .ok (.iload_n 1, 1) := z_o27 (z_wat (q := 0) (j := 28) zwX12_stay_0 rfl)
theorem dX12_stay_29 : decode cX12_stay 29 = .ok (.iaload, 1) := z_o46 (z_wat (q := 0) (j := 29) zwX12_stay_0 rfl)
theorem dX12_stay_30 : decode cX12_stay 30 = .ok (.invokevirtual 308, 3) := z_o182 (z_wat (q := 0) (j := 30) zwX12_stay_0 rfl) (z_wat (q := 0) (j := 31) zwX12_stay_0 rfl) (z_wat (q := 0) (j := 32) zwX12_stay_0 rfl) rfl
theorem zwX12_stay_32 : ((cX12_stay.data.toList.drop 32).take 2).map UInt8.toNat = [52, 172] := by decide +kernel
theorem dX12_stay_33 : decode cX12_stay 33 = .ok (.ireturn, 1) := z_o172 (z_wat (q := 32) (j := 1) zwX12_stay_32 rfl)
theorem zwX12_why_0 : ((cX12_why.data.toList.drop 0).take 34).map UInt8.toNat = [42, 3, 181, 0, 145, 42, 27, 182, 0, 157, 154, 0, 5, 2, 172, 42, 42, 180, 0, 154, 182, 0, 173, 2, 61, 3, 62, 3, 54, 4, 21, 4, 42, 180] := by decide +kernel
theorem dX12_why_0 : decode cX12_why 0 = .ok (.aload_n 0, 1) := z_o42 (z_wat (q := 0) (j := 0) zwX12_why_0 rfl)
theorem dX12_why_1 : decode cX12_why 1 = .ok (.iconst 0, 1) := z_o3 (z_wat (q := 0) (j := 1) zwX12_why_0 rfl)
theorem dX12_why_2 : decode cX12_why 2 = .ok (.putfield 145, 3) := z_o181 (z_wat (q := 0) (j := 2) zwX12_why_0 rfl) (z_wat (q := 0) (j := 3) zwX12_why_0 rfl) (z_wat (q := 0) (j := 4) zwX12_why_0 rfl) rfl
theorem dX12_why_5 : decode cX12_why 5 = .ok (.aload_n 0, 1) := z_o42 (z_wat (q := 0) (j := 5) zwX12_why_0 rfl)
theorem dX12_why_6 : decode cX12_why 6 = .ok (.iload_n 1, 1) := z_o27 (z_wat (q := 0) (j := 6) zwX12_why_0 rfl)
theorem dX12_why_7 : decode cX12_why 7 = .ok (.invokevirtual 157, 3) := z_o182 (z_wat (q := 0) (j := 7) zwX12_why_0 rfl) (z_wat (q := 0) (j := 8) zwX12_why_0 rfl) (z_wat (q := 0) (j := 9) zwX12_why_0 rfl) rfl
theorem dX12_why_10 : decode cX12_why 10 = .ok (.ifCond .ne 5, 3) := z_o154 (z_wat (q := 0) (j := 10) zwX12_why_0 rfl) (z_wat (q := 0) (j := 11) zwX12_why_0 rfl) (z_wat (q := 0) (j := 12) zwX12_why_0 rfl) rfl
theorem dX12_why_13 : decode cX12_why 13 = .ok (.iconst (-1), 1) := z_o2 (z_wat (q := 0) (j := 13) zwX12_why_0 rfl)
theorem dX12_why_14 : decode cX12_why 14 = .ok (.ireturn, 1) := z_o172 (z_wat (q := 0) (j := 14) zwX12_why_0 rfl)
theorem dX12_why_15 : decode cX12_why 15 = .ok (.aload_n 0, 1) := z_o42 (z_wat (q := 0) (j := 15) zwX12_why_0 rfl)
theorem dX12_why_16 : decode cX12_why 16 = .ok (.aload_n 0, 1) := z_o42 (z_wat (q := 0) (j := 16) zwX12_why_0 rfl)
theorem dX12_why_17 : decode cX12_why 17 = .ok (.getfield 154, 3) := z_o180 (z_wat (q := 0) (j := 17) zwX12_why_0 rfl) (z_wat (q := 0) (j := 18) zwX12_why_0 rfl) (z_wat (q := 0) (j := 19) zwX12_why_0 rfl) rfl
theorem dX12_why_20 : decode cX12_why 20 = .ok (.invokevirtual 173, 3) := z_o182 (z_wat (q := 0) (j := 20) zwX12_why_0 rfl) (z_wat (q := 0) (j := 21) zwX12_why_0 rfl) (z_wat (q := 0) (j := 22) zwX12_why_0 rfl) rfl
theorem dX12_why_23 : decode cX12_why 23 = .ok (.iconst (-1), 1) := z_o2 (z_wat (q := 0) (j := 23) zwX12_why_0 rfl)
theorem dX12_why_24 : decode cX12_why 24 = .ok (.istore_n 2, 1) := z_o61 (z_wat (q := 0) (j := 24) zwX12_why_0 rfl)
theorem dX12_why_25 : decode cX12_why 25 = .ok (.iconst 0, 1) := z_o3 (z_wat (q := 0) (j := 25) zwX12_why_0 rfl)
theorem dX12_why_26 : decode cX12_why 26 = .ok (.istore_n 3, 1) := z_o62 (z_wat (q := 0) (j := 26) zwX12_why_0 rfl)
theorem dX12_why_27 : decode cX12_why 27 = .ok (.iconst 0, 1) := z_o3 (z_wat (q := 0) (j := 27) zwX12_why_0 rfl)
theorem dX12_why_28 : decode cX12_why 28 = .ok (.istore 4, 2) := z_o54 (z_wat (q := 0) (j := 28) zwX12_why_0 rfl) (z_wat (q := 0) (j := 29) zwX12_why_0 rfl)
theorem dX12_why_30 : decode cX12_why 30 = .ok (.iload 4, 2) := z_o21 (z_wat (q := 0) (j := 30) zwX12_why_0 rfl) (z_wat (q := 0) (j := 31) zwX12_why_0 rfl)
theorem zwX12_why_32 : ((cX12_why.data.toList.drop 32).take 34).map UInt8.toNat = [42, 180, 1, 134, 162, 0, 48, 42, 21, 4, 42, 180, 0, 32, 27, 46, 182, 1, 170, 55, 5, 22, 5, 20, 1, 140, 148, 153, 0, 19, 22, 5, 9, 148] := by decide +kernel
theorem dX12_why_32 : decode cX12_why 32 = .ok (.aload_n 0, 1) := z_o42 (z_wat (q := 32) (j := 0) zwX12_why_32 rfl)
theorem dX12_why_33 : decode cX12_why 33 = .ok (.getfield 390, 3) := z_o180 (z_wat (q := 32) (j := 1) zwX12_why_32 rfl) (z_wat (q := 32) (j := 2) zwX12_why_32 rfl) (z_wat (q := 32) (j := 3) zwX12_why_32 rfl) rfl
theorem dX12_why_36 : decode cX12_why 36 = .ok (.if_icmp .ge 48, 3) := z_o162 (z_wat (q := 32) (j := 4) zwX12_why_32 rfl) (z_wat (q := 32) (j := 5) zwX12_why_32 rfl) (z_wat (q := 32) (j := 6) zwX12_why_32 rfl) rfl
theorem dX12_why_39 : decode cX12_why 39 = .ok (.aload_n 0, 1) := z_o42 (z_wat (q := 32) (j := 7) zwX12_why_32 rfl)
theorem dX12_why_40 : decode cX12_why 40 = .ok (.iload 4, 2) := z_o21 (z_wat (q := 32) (j := 8) zwX12_why_32 rfl) (z_wat (q := 32) (j := 9) zwX12_why_32 rfl)
theorem dX12_why_42 : decode cX12_why 42 = .ok (.aload_n 0, 1) := z_o42 (z_wat (q := 32) (j := 10) zwX12_why_32 rfl)
theorem dX12_why_43 : decode cX12_why 43 = .ok (.getfield 32, 3) := z_o180 (z_wat (q := 32) (j := 11) zwX12_why_32 rfl) (z_wat (q := 32) (j := 12) zwX12_why_32 rfl) (z_wat (q := 32) (j := 13) zwX12_why_32 rfl) rfl
theorem dX12_why_46 : decode cX12_why 46 = .ok (.iload_n 1, 1) := z_o27 (z_wat (q := 32) (j := 14) zwX12_why_32 rfl)
theorem dX12_why_47 : decode cX12_why 47 = .ok (.iaload, 1) := z_o46 (z_wat (q := 32) (j := 15) zwX12_why_32 rfl)
theorem dX12_why_48 : decode cX12_why 48 = .ok (.invokevirtual 426, 3) := z_o182 (z_wat (q := 32) (j := 16) zwX12_why_32 rfl) (z_wat (q := 32) (j := 17) zwX12_why_32 rfl) (z_wat (q := 32) (j := 18) zwX12_why_32 rfl) rfl
theorem dX12_why_51 : decode cX12_why 51 = .ok (.lstore 5, 2) := z_o55 (z_wat (q := 32) (j := 19) zwX12_why_32 rfl) (z_wat (q := 32) (j := 20) zwX12_why_32 rfl)
theorem dX12_why_53 : decode cX12_why 53 = .ok (.lload 5, 2) := z_o22 (z_wat (q := 32) (j := 21) zwX12_why_32 rfl) (z_wat (q := 32) (j := 22) zwX12_why_32 rfl)
theorem dX12_why_55 : decode cX12_why 55 = .ok (.ldc2_w 396, 3) := z_o20 (z_wat (q := 32) (j := 23) zwX12_why_32 rfl) (z_wat (q := 32) (j := 24) zwX12_why_32 rfl) (z_wat (q := 32) (j := 25) zwX12_why_32 rfl) rfl
theorem dX12_why_58 : decode cX12_why 58 = .ok (.lcmp, 1) := z_o148 (z_wat (q := 32) (j := 26) zwX12_why_32 rfl)
theorem dX12_why_59 : decode cX12_why 59 = .ok (.ifCond .eq 19, 3) := z_o153 (z_wat (q := 32) (j := 27) zwX12_why_32 rfl) (z_wat (q := 32) (j := 28) zwX12_why_32 rfl) (z_wat (q := 32) (j := 29) zwX12_why_32 rfl) rfl
theorem dX12_why_62 : decode cX12_why 62 = .ok (.lload 5, 2) := z_o22 (z_wat (q := 32) (j := 30) zwX12_why_32 rfl) (z_wat (q := 32) (j := 31) zwX12_why_32 rfl)
theorem zwX12_why_64 : ((cX12_why.data.toList.drop 64).take 31).map UInt8.toNat = [9, 148, 154, 0, 6, 167, 0, 9, 21, 4, 61, 132, 3, 1, 132, 4, 1, 167, 255, 205, 29, 4, 160, 0, 7, 28, 167, 0, 4, 2, 172] := by decide +kernel
theorem dX12_why_64 : decode cX12_why 64 = .ok (.lconst 0, 1) := z_o9 (z_wat (q := 64) (j := 0) zwX12_why_64 rfl)
theorem dX12_why_65 : decode cX12_why 65 = .ok (.lcmp, 1) := z_o148 (z_wat (q := 64) (j := 1) zwX12_why_64 rfl)
theorem dX12_why_66 : decode cX12_why 66 = .ok (.ifCond .ne 6, 3) := z_o154 (z_wat (q := 64) (j := 2) zwX12_why_64 rfl) (z_wat (q := 64) (j := 3) zwX12_why_64 rfl) (z_wat (q := 64) (j := 4) zwX12_why_64 rfl) rfl
theorem dX12_why_69 : decode cX12_why 69 = .ok (.goto 9, 3) := z_o167 (z_wat (q := 64) (j := 5) zwX12_why_64 rfl) (z_wat (q := 64) (j := 6) zwX12_why_64 rfl) (z_wat (q := 64) (j := 7) zwX12_why_64 rfl) rfl
theorem dX12_why_72 : decode cX12_why 72 = .ok (.iload 4, 2) := z_o21 (z_wat (q := 64) (j := 8) zwX12_why_64 rfl) (z_wat (q := 64) (j := 9) zwX12_why_64 rfl)
theorem dX12_why_74 : decode cX12_why 74 = .ok (.istore_n 2, 1) := z_o61 (z_wat (q := 64) (j := 10) zwX12_why_64 rfl)
theorem dX12_why_75 : decode cX12_why 75 = .ok (.iinc 3 1, 3) := z_o132 (z_wat (q := 64) (j := 11) zwX12_why_64 rfl) (z_wat (q := 64) (j := 12) zwX12_why_64 rfl) (z_wat (q := 64) (j := 13) zwX12_why_64 rfl) rfl
theorem dX12_why_78 : decode cX12_why 78 = .ok (.iinc 4 1, 3) := z_o132 (z_wat (q := 64) (j := 14) zwX12_why_64 rfl) (z_wat (q := 64) (j := 15) zwX12_why_64 rfl) (z_wat (q := 64) (j := 16) zwX12_why_64 rfl) rfl
theorem dX12_why_81 : decode cX12_why 81 = .ok (.goto (-51), 3) := z_o167 (z_wat (q := 64) (j := 17) zwX12_why_64 rfl) (z_wat (q := 64) (j := 18) zwX12_why_64 rfl) (z_wat (q := 64) (j := 19) zwX12_why_64 rfl) rfl
theorem dX12_why_84 : decode cX12_why 84 = .ok (.iload_n 3, 1) := z_o29 (z_wat (q := 64) (j := 20) zwX12_why_64 rfl)
theorem dX12_why_85 : decode cX12_why 85 = .ok (.iconst 1, 1) := z_o4 (z_wat (q := 64) (j := 21) zwX12_why_64 rfl)
theorem dX12_why_86 : decode cX12_why 86 = .ok (.if_icmp .ne 7, 3) := z_o160 (z_wat (q := 64) (j := 22) zwX12_why_64 rfl) (z_wat (q := 64) (j := 23) zwX12_why_64 rfl) (z_wat (q := 64) (j := 24) zwX12_why_64 rfl) rfl
theorem dX12_why_89 : decode cX12_why 89 = .ok (.iload_n 2, 1) := z_o28 (z_wat (q := 64) (j := 25) zwX12_why_64 rfl)
theorem dX12_why_90 : decode cX12_why 90 = .ok (.goto 4, 3) := z_o167 (z_wat (q := 64) (j := 26) zwX12_why_64 rfl) (z_wat (q := 64) (j := 27) zwX12_why_64 rfl) (z_wat (q := 64) (j := 28) zwX12_why_64 rfl) rfl
theorem dX12_why_93 : decode cX12_why 93 = .ok (.iconst (-1), 1) := z_o2 (z_wat (q := 64) (j := 29) zwX12_why_64 rfl)
theorem dX12_why_94 : decode cX12_why 94 = .ok (.ireturn, 1) := z_o172 (z_wat (q := 64) (j := 30) zwX12_why_64 rfl)
