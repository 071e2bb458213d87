theorem dJ6_bitCount_0f7a4_0 : decode cJ6_bitCount_0f7a4 0 = .ok (.iload_n 0, 1) := by decide +kernel
theorem dJ6_bitCount_0f7a4_1 : decode cJ6_bitCount_0f7a4 1 = .ok (.iload_n 0, 1) := by decide +kernel
theorem dJ6_bitCount_0f7a4_2 : decode cJ6_bitCount_0f7a4 2 = .ok (.iconst 1, 1) := by decide +kernel
theorem dJ6_bitCount_0f7a4_3 : decode cJ6_bitCount_0f7a4 3 = .ok (.iushr, 1) := by decide +kernel
theorem dJ6_bitCount_0f7a4_4 : decode cJ6_bitCount_0f7a4 4 = .ok (.ldc_w 265, 3) := by decide +kernel
theorem dJ6_bitCount_0f7a4_7 : decode cJ6_bitCount_0f7a4 7 = .ok (.iand, 1) := by decide +kernel
theorem dJ6_bitCount_0f7a4_8 : decode cJ6_bitCount_0f7a4 8 = .ok (.isub, 1) := by decide +kernel
theorem dJ6_bitCount_0f7a4_9 : decode cJ6_bitCount_0f7a4 9 = .ok (.istore_n 0, 1) := by decide +kernel
theorem dJ6_bitCount_0f7a4_10 : decode cJ6_bitCount_0f7a4 10 = .ok (.iload_n 0, 1) := by decide +kernel
theorem dJ6_bitCount_0f7a4_11 : decode cJ6_bitCount_0f7a4 11 = .ok (.ldc_w 266, 3) := by decide +kernel
theorem dJ6_bitCount_0f7a4_14 : decode cJ6_bitCount_0f7a4 14 = .ok (.iand, 1) := by decide +kernel
theorem dJ6_bitCount_0f7a4_15 : decode cJ6_bitCount_0f7a4 15 = .ok (.iload_n 0, 1) := by decide +kernel
theorem dJ6_bitCount_0f7a4_16 : decode cJ6_bitCount_0f7a4 16 = .ok (.iconst 2, 1) := by decide +kernel
theorem dJ6_bitCount_0f7a4_17 : decode cJ6_bitCount_0f7a4 17 = .ok (.iushr, 1) := by decide +kernel
theorem dJ6_bitCount_0f7a4_18 : decode cJ6_bitCount_0f7a4 18 = .ok (.ldc_w 266, 3) := by decide +kernel
theorem dJ6_bitCount_0f7a4_21 : decode cJ6_bitCount_0f7a4 21 = .ok (.iand, 1) := by decide +kernel
theorem dJ6_bitCount_0f7a4_22 : decode cJ6_bitCount_0f7a4 22 = .ok (.iadd, 1) := by decide +kernel
theorem dJ6_bitCount_0f7a4_23 : decode cJ6_bitCount_0f7a4 23 = .ok (.istore_n 0, 1) := by decide +kernel
theorem dJ6_bitCount_0f7a4_24 : decode cJ6_bitCount_0f7a4 24 = .ok (.iload_n 0, 1) := by decide +kernel
theorem dJ6_bitCount_0f7a4_25 : decode cJ6_bitCount_0f7a4 25 = .ok (.iload_n 0, 1) := by decide +kernel
theorem dJ6_bitCount_0f7a4_26 : decode cJ6_bitCount_0f7a4 26 = .ok (.iconst 4, 1) := by decide +kernel
theorem dJ6_bitCount_0f7a4_27 : decode cJ6_bitCount_0f7a4 27 = .ok (.iushr, 1) := by decide +kernel
theorem dJ6_bitCount_0f7a4_28 : decode cJ6_bitCount_0f7a4 28 = .ok (.iadd, 1) := by decide +kernel
theorem dJ6_bitCount_0f7a4_29 : decode cJ6_bitCount_0f7a4 29 = .ok (.ldc_w 267, 3) := by decide +kernel
theorem dJ6_bitCount_0f7a4_32 : decode cJ6_bitCount_0f7a4 32 = .ok (.iand, 1) := by decide +kernel
theorem dJ6_bitCount_0f7a4_33 : decode cJ6_bitCount_0f7a4 33 = .ok (.istore_n 0, 1) := by decide +kernel
theorem dJ6_bitCount_0f7a4_34 : decode cJ6_bitCount_0f7a4 34 = .ok (.iload_n 0, 1) := by decide +kernel
theorem dJ6_bitCount_0f7a4_35 : decode cJ6_bitCount_0f7a4 35 = .ok (.iload_n 0, 1) := by decide +kernel
theorem dJ6_bitCount_0f7a4_36 : decode cJ6_bitCount_0f7a4 36 = .ok (.bipush 8, 2) := by decide +kernel
theorem dJ6_bitCount_0f7a4_38 : decode cJ6_bitCount_0f7a4 38 = .ok (.iushr, 1) := by decide +kernel
theorem dJ6_bitCount_0f7a4_39 : decode cJ6_bitCount_0f7a4 39 = .ok (.iadd, 1) := by decide +kernel
theorem dJ6_bitCount_0f7a4_40 : decode cJ6_bitCount_0f7a4 40 = .ok (.istore_n 0, 1) := by decide +kernel
theorem dJ6_bitCount_0f7a4_41 : decode cJ6_bitCount_0f7a4 41 = .ok (.iload_n 0, 1) := by decide +kernel
theorem dJ6_bitCount_0f7a4_42 : decode cJ6_bitCount_0f7a4 42 = .ok (.iload_n 0, 1) := by decide +kernel
theorem dJ6_bitCount_0f7a4_43 : decode cJ6_bitCount_0f7a4 43 = .ok (.bipush 16, 2) := by decide +kernel
theorem dJ6_bitCount_0f7a4_45 : decode cJ6_bitCount_0f7a4 45 = .ok (.iushr, 1) := by decide +kernel
theorem dJ6_bitCount_0f7a4_46 : decode cJ6_bitCount_0f7a4 46 = .ok (.iadd, 1) := by decide +kernel
theorem dJ6_bitCount_0f7a4_47 : decode cJ6_bitCount_0f7a4 47 = .ok (.istore_n 0, 1) := by decide +kernel
theorem dJ6_bitCount_0f7a4_48 : decode cJ6_bitCount_0f7a4 48 = .ok (.iload_n 0, 1) := by decide +kernel
theorem dJ6_bitCount_0f7a4_49 : decode cJ6_bitCount_0f7a4 49 = .ok (.bipush 63, 2) := by decide +kernel
theorem dJ6_bitCount_0f7a4_51 : decode cJ6_bitCount_0f7a4 51 = .ok (.iand, 1) := by decide +kernel
theorem dJ6_bitCount_0f7a4_52 : decode cJ6_bitCount_0f7a4 52 = .ok (.ireturn, 1) := by decide +kernel
theorem zwX11_bed_0 : ((cX11_bed.data.toList.drop 0).take 34).map UInt8.toNat = [42, 180, 0, 19, 27, 182, 0, 140, 153, 0, 23, 42, 180, 0, 19, 28, 182, 0, 115, 153, 0, 12, 29, 155, 0, 8, 29, 7, 164, 0, 6, 16, 254, 172] := by decide +kernel
theorem dX11_bed_0 : decode cX11_bed 0 = .ok (.aload_n 0, 1) := z_o42 (z_wat (q := 0) (j := 0) zwX11_bed_0 rfl)
theorem dX11_bed_1 : decode cX11_bed 1 = .ok (.getfield 19, 3) := z_o180 (z_wat (q := 0) (j := 1) zwX11_bed_0 rfl) (z_wat (q := 0) (j := 2) zwX11_bed_0 rfl) (z_wat (q := 0) (j := 3) zwX11_bed_0 rfl) rfl
theorem dX11_bed_4 : decode cX11_bed 4 = .ok (.iload_n 1, 1) := z_o27 (z_wat (q := 0) (j := 4) zwX11_bed_0 rfl)
theorem dX11_bed_5 : decode cX11_bed 5 = .ok (.invokevirtual 140, 3) := z_o182 (z_wat (q := 0) (j := 5) zwX11_bed_0 rfl) (z_wat (q := 0) (j := 6) zwX11_bed_0 rfl) (z_wat (q := 0) (j := 7) zwX11_bed_0 rfl) rfl
theorem dX11_bed_8 : decode cX11_bed 8 = .ok (.ifCond .eq 23, 3) := z_o153 (z_wat (q := 0) (j := 8) zwX11_bed_0 rfl) (z_wat (q := 0) (j := 9) zwX11_bed_0 rfl) (z_wat (q := 0) (j := 10) zwX11_bed_0 rfl) rfl
theorem dX11_bed_11 : decode cX11_bed 11 = .ok (.aload_n 0, 1) := z_o42 (z_wat (q := 0) (j := 11) zwX11_bed_0 rfl)
theorem dX11_bed_12 : decode cX11_bed 12 = .ok (.getfield 19, 3) := z_o180 (z_wat (q := 0) (j := 12) zwX11_bed_0 rfl) (z_wat (q := 0) (j := 13) zwX11_bed_0 rfl) (z_wat (q := 0) (j := 14) zwX11_bed_0 rfl) rfl
theorem dX11_bed_15 : decode cX11_bed 15 = .ok (.iload_n 2, 1) := z_o28 (z_wat (q := 0) (j := 15) zwX11_bed_0 rfl)
theorem dX11_bed_16 : decode cX11_bed 16 = .ok (.invokevirtual 115, 3) := z_o182 (z_wat (q := 0) (j := 16) zwX11_bed_0 rfl) (z_wat (q := 0) (j := 17) zwX11_bed_0 rfl) (z_wat (q := 0) (j := 18) zwX11_bed_0 rfl) rfl
theorem dX11_bed_19 : decode cX11_bed 19 = .ok (.ifCond .eq 12, 3) := z_o153 (z_wat (q := 0) (j := 19) zwX11_bed_0 rfl) (z_wat (q := 0) (j := 20) zwX11_bed_0 rfl) (z_wat (q := 0) (j := 21) zwX11_bed_0 rfl) rfl
theorem dX11_bed_22 : decode cX11_bed 22 = .ok (.iload_n 3, 1) := z_o29 (z_wat (q := 0) (j := 22) zwX11_bed_0 rfl)
theorem dX11_bed_23 : decode cX11_bed 23 = .ok (.ifCond .lt 8, 3) := z_o155 (z_wat (q := 0) (j := 23) zwX11_bed_0 rfl) (z_wat (q := 0) (j := 24) zwX11_bed_0 rfl) (z_wat (q := 0) (j := 25) zwX11_bed_0 rfl) rfl
theorem dX11_bed_26 : decode cX11_bed 26 = .ok (.iload_n 3, 1) := z_o29 (z_wat (q := 0) (j := 26) zwX11_bed_0 rfl)
theorem dX11_bed_27 : decode cX11_bed 27 = .ok (.iconst 4, 1) := z_o7 (z_wat (q := 0) (j := 27) zwX11_bed_0 rfl)
theorem dX11_bed_28 : decode cX11_bed 28 = .ok (.if_icmp .le 6, 3) := z_o164 (z_wat (q := 0) (j := 28) zwX11_bed_0 rfl) (z_wat (q := 0) (j := 29) zwX11_bed_0 rfl) (z_wat (q := 0) (j := 30) zwX11_bed_0 rfl) rfl
theorem dX11_bed_31 : decode cX11_bed 31 = .ok (.bipush (-2), 2) := z_o16 (z_wat (q := 0) (j := 31) zwX11_bed_0 rfl) (z_wat (q := 0) (j := 32) zwX11_bed_0 rfl) rfl
theorem zwX11_bed_32 : ((cX11_bed.data.toList.drop 32).take 34).map UInt8.toNat = [254, 172, 42, 180, 0, 28, 27, 182, 0, 143, 42, 180, 0, 28, 180, 0, 146, 28, 46, 54, 4, 29, 170, 0, 0, 0, 0, 81, 0, 0, 0, 0, 0, 0] := by decide +kernel
theorem dX11_bed_33 : decode cX11_bed 33 = .ok (.ireturn, 1) := z_o172 (z_wat (q := 32) (j := 1) zwX11_bed_32 rfl)
theorem dX11_bed_34 : decode cX11_bed 34 = .ok (.aload_n 0, 1) := z_o42 (z_wat (q := 32) (j := 2) zwX11_bed_32 rfl)
theorem dX11_bed_35 : decode cX11_bed 35 = .ok (.getfield 28, 3) := z_o180 (z_wat (q := 32) (j := 3) zwX11_bed_32 rfl) (z_wat (q := 32) (j := 4) zwX11_bed_32 rfl) (z_wat (q := 32) (j := 5) zwX11_bed_32 rfl) rfl
theorem dX11_bed_38 : decode cX11_bed 38 = .ok (.iload_n 1, 1) := z_o27 (z_wat (q := 32) (j := 6) zwX11_bed_32 rfl)
theorem dX11_bed_39 : decode cX11_bed 39 = .ok (.invokevirtual 143, 3) := z_o182 (z_wat (q := 32) (j := 7) zwX11_bed_32 rfl) (z_wat (q := 32) (j := 8) zwX11_bed_32 rfl) (z_wat (q := 32) (j := 9) zwX11_bed_32 rfl) rfl
theorem dX11_bed_42 : decode cX11_bed 42 = .ok (.aload_n 0, 1) := z_o42 (z_wat (q := 32) (j := 10) zwX11_bed_32 rfl)
theorem dX11_bed_43 : decode cX11_bed 43 = .ok (.getfield 28, 3) := z_o180 (z_wat (q := 32) (j := 11) zwX11_bed_32 rfl) (z_wat (q := 32) (j := 12) zwX11_bed_32 rfl) (z_wat (q := 32) (j := 13) zwX11_bed_32 rfl) rfl
theorem dX11_bed_46 : decode cX11_bed 46 = .ok (.getfield 146, 3) := z_o180 (z_wat (q := 32) (j := 14) zwX11_bed_32 rfl) (z_wat (q := 32) (j := 15) zwX11_bed_32 rfl) (z_wat (q := 32) (j := 16) zwX11_bed_32 rfl) rfl
theorem dX11_bed_49 : decode cX11_bed 49 = .ok (.iload_n 2, 1) := z_o28 (z_wat (q := 32) (j := 17) zwX11_bed_32 rfl)
theorem dX11_bed_50 : decode cX11_bed 50 = .ok (.iaload, 1) := z_o46 (z_wat (q := 32) (j := 18) zwX11_bed_32 rfl)
theorem dX11_bed_51 : decode cX11_bed 51 = .ok (.istore 4, 2) := z_o54 (z_wat (q := 32) (j := 19) zwX11_bed_32 rfl) (z_wat (q := 32) (j := 20) zwX11_bed_32 rfl)
theorem dX11_bed_53 : decode cX11_bed 53 = .ok (.iload_n 3, 1) := z_o29 (z_wat (q := 32) (j := 21) zwX11_bed_32 rfl)
theorem dX11_bed_54 : decode cX11_bed 54 = .ok (.tableswitch 81 0 3 #[30, 33, 46, 56], 30) := by decide +kernel
theorem zwX11_bed_64 : ((cX11_bed.data.toList.drop 64).take 34).map UInt8.toNat = [0, 0, 0, 3, 0, 0, 0, 30, 0, 0, 0, 33, 0, 0, 0, 46, 0, 0, 0, 56, 21, 4, 172, 42, 180, 0, 28, 21, 4, 182, 0, 150, 184, 0] := by decide +kernel
theorem dX11_bed_84 : decode cX11_bed 84 = .ok (.iload 4, 2) := z_o21 (z_wat (q := 64) (j := 20) zwX11_bed_64 rfl) (z_wat (q := 64) (j := 21) zwX11_bed_64 rfl)
theorem dX11_bed_86 : decode cX11_bed 86 = .ok (.ireturn, 1) := z_o172 (z_wat (q := 64) (j := 22) zwX11_bed_64 rfl)
theorem dX11_bed_87 : decode cX11_bed 87 = .ok (.aload_n 0, 1) := z_o42 (z_wat (q := 64) (j := 23) zwX11_bed_64 rfl)
theorem dX11_bed_88 : decode cX11_bed 88 = .ok (.getfield 28, 3) := z_o180 (z_wat (q := 64) (j := 24) zwX11_bed_64 rfl) (z_wat (q := 64) (j := 25) zwX11_bed_64 rfl) (z_wat (q := 64) (j := 26) zwX11_bed_64 rfl) rfl
theorem dX11_bed_91 : decode cX11_bed 91 = .ok (.iload 4, 2) := z_o21 (z_wat (q := 64) (j := 27) zwX11_bed_64 rfl) (z_wat (q := 64) (j := 28) zwX11_bed_64 rfl)
theorem dX11_bed_93 : decode cX11_bed 93 = .ok (.invokevirtual 150, 3) := z_o182 (z_wat (q := 64) (j := 29) zwX11_bed_64 rfl) (z_wat (q := 64) (j := 30) zwX11_bed_64 rfl) (z_wat (q := 64) (j := 31) zwX11_bed_64 rfl) rfl
theorem zwX11_bed_96 : ((cX11_bed.data.toList.drop 96).take 34).map UInt8.toNat = [184, 0, 154, 172, 42, 180, 0, 28, 21, 4, 182, 0, 159, 172, 42, 180, 0, 28, 180, 0, 162, 154, 0, 16, 42, 180, 0, 28, 180, 0, 165, 21, 4, 46] := by decide +kernel
theorem dX11_bed_96 : decode cX11_bed 96 = .ok (.invokestatic 154, 3) := z_o184 (z_wat (q := 96) (j := 0) zwX11_bed_96 rfl) (z_wat (q := 96) (j := 1) zwX11_bed_96 rfl) (z_wat (q := 96) (j := 2) zwX11_bed_96 rfl) rfl
theorem dX11_bed_99 : decode cX11_bed 99 = .ok (.ireturn, 1) := z_o172 (z_wat (q := 96) (j := 3) zwX11_bed_96 rfl)
theorem dX11_bed_100 : decode cX11_bed 100 = .ok (.aload_n 0, 1) := z_o42 (z_wat (q := 96) (j := 4) zwX11_bed_96 rfl)
theorem dX11_bed_101 : decode cX11_bed 101 = .ok (.getfield 28, 3) := z_o180 (z_wat (q := 96) (j := 5) zwX11_bed_96 rfl) (z_wat (q := 96) (j := 6) zwX11_bed_96 rfl) (z_wat (q := 96) (j := 7) zwX11_bed_96 rfl) rfl
theorem dX11_bed_104 : decode cX11_bed 104 = .ok (.iload 4, 2) := z_o21 (z_wat (q := 96) (j := 8) zwX11_bed_96 rfl) (z_wat (q := 96) (j := 9) zwX11_bed_96 rfl)
theorem dX11_bed_106 : decode cX11_bed 106 = .ok (.invokevirtual 159, 3) := z_o182 (z_wat (q := 96) (j := 10) zwX11_bed_96 rfl) (z_wat (q := 96) (j := 11) zwX11_bed_96 rfl) (z_wat (q := 96) (j := 12) zwX11_bed_96 rfl) rfl
theorem dX11_bed_109 : decode cX11_bed 109 = .ok (.ireturn, 1) := z_o172 (z_wat (q := 96) (j := 13) zwX11_bed_96 rfl)
theorem dX11_bed_110 : decode cX11_bed 110 = .ok (.aload_n 0, 1) := z_o42 (z_wat (q := 96) (j := 14) zwX11_bed_96 rfl)
theorem dX11_bed_111 : decode cX11_bed 111 = .ok (.getfield 28, 3) := z_o180 (z_wat (q := 96) (j := 15) zwX11_bed_96 rfl) (z_wat (q := 96) (j := 16) zwX11_bed_96 rfl) (z_wat (q := 96) (j := 17) zwX11_bed_96 rfl) rfl
theorem dX11_bed_114 : decode cX11_bed 114 = .ok (.getfield 162, 3) := z_o180 (z_wat (q := 96) (j := 18) zwX11_bed_96 rfl) (z_wat (q := 96) (j := 19) zwX11_bed_96 rfl) (z_wat (q := 96) (j := 20) zwX11_bed_96 rfl) rfl
theorem dX11_bed_117 : decode cX11_bed 117 = .ok (.ifCond .ne 16, 3) := z_o154 (z_wat (q := 96) (j := 21) zwX11_bed_96 rfl) (z_wat (q := 96) (j := 22) zwX11_bed_96 rfl) (z_wat (q := 96) (j := 23) zwX11_bed_96 rfl) rfl
theorem dX11_bed_120 : decode cX11_bed 120 = .ok (.aload_n 0, 1) := z_o42 (z_wat (q := 96) (j := 24) zwX11_bed_96 rfl)
theorem dX11_bed_121 : decode cX11_bed 121 = .ok (.getfield 28, 3) := z_o180 (z_wat (q := 96) (j := 25) zwX11_bed_96 rfl) (z_wat (q := 96) (j := 26) zwX11_bed_96 rfl) (z_wat (q := 96) (j := 27) zwX11_bed_96 rfl) rfl
theorem dX11_bed_124 : decode cX11_bed 124 = .ok (.getfield 165, 3) := z_o180 (z_wat (q := 96) (j := 28) zwX11_bed_96 rfl) (z_wat (q := 96) (j := 29) zwX11_bed_96 rfl) (z_wat (q := 96) (j := 30) zwX11_bed_96 rfl) rfl
theorem dX11_bed_127 : decode cX11_bed 127 = .ok (.iload 4, 2) := z_o21 (z_wat (q := 96) (j := 31) zwX11_bed_96 rfl) (z_wat (q := 96) (j := 32) zwX11_bed_96 rfl)
theorem zwX11_bed_128 : ((cX11_bed.data.toList.drop 128).take 32).map UInt8.toNat = [4, 46, 167, 0, 4, 2, 172, 42, 180, 0, 28, 180, 0, 162, 154, 0, 16, 42, 180, 0, 28, 180, 0, 168, 21, 4, 46, 167, 0, 4, 2, 172] := by decide +kernel
theorem dX11_bed_129 : decode cX11_bed 129 = .ok (.iaload, 1) := z_o46 (z_wat (q := 128) (j := 1) zwX11_bed_128 rfl)
theorem dX11_bed_130 : decode cX11_bed 130 = .ok (.goto 4, 3) := z_o167 (z_wat (q := 128) (j := 2) zwX11_bed_128 rfl) (z_wat (q := 128) (j := 3) zwX11_bed_128 rfl) (z_wat (q := 128) (j := 4) zwX11_bed_128 rfl) rfl
theorem dX11_bed_133 : decode cX11_bed 133 = .ok (.iconst (-1), 1) := z_o2 (z_wat (q := 128) (j := 5) zwX11_bed_128 rfl)
theorem dX11_bed_134 : decode cX11_bed 134 = .ok (.ireturn, 1) := z_o172 (z_wat (q := 128) (j := 6) zwX11_bed_128 rfl)
theorem dX11_bed_135 : decode cX11_bed 135 = .ok (.aload_n 0, 1) := z_o42 (z_wat (q := 128) (j := 7) zwX11_bed_128 rfl)
theorem dX11_bed_136 : decode cX11_bed 136 = .ok (.getfield 28, 3) := z_o180 (z_wat (q := 128) (j := 8) zwX11_bed_128 rfl) (z_wat (q := 128) (j := 9) zwX11_bed_128 rfl) (z_wat (q := 128) (j := 10) zwX11_bed_128 rfl) rfl
theorem dX11_bed_139 : decode cX11_bed 139 = .ok (.getfield 162, 3) := z_o180 (z_wat (q := 128) (j := 11) zwX11_bed_128 rfl) (z_wat (q := 128) (j := 12) zwX11_bed_128 rfl) (z_wat (q := 128) (j := 13) zwX11_bed_128 rfl) rfl
theorem dX11_bed_142 : decode cX11_bed 142 = .ok (.ifCond .ne 16, 3) := z_o154 (z_wat (q := 128) (j := 14) zwX11_bed_128 rfl) (z_wat (q := 128) (j := 15) zwX11_bed_128 rfl) (z_wat (q := 128) (j := 16) zwX11_bed_128 rfl) rfl
theorem dX11_bed_145 : decode cX11_bed 145 = .ok (.aload_n 0, 1) := z_o42 (z_wat (q := 128) (j := 17) zwX11_bed_128 rfl)
theorem dX11_bed_146 : decode cX11_bed 146 = .ok (.getfield 28, 3) := z_o180 (z_wat (q := 128) (j := 18) zwX11_bed_128 rfl) (z_wat (q := 128) (j := 19) zwX11_bed_128 rfl) (z_wat (q := 128) (j := 20) zwX11_bed_128 rfl) rfl
theorem dX11_bed_149 : decode cX11_bed 149 = .ok (.getfield 168, 3) := z_o180 (z_wat (q := 128) (j := 21) zwX11_bed_128 rfl) (z_wat (q := 128) (j := 22) zwX11_bed_128 rfl) (z_wat (q := 128) (j := 23) zwX11_bed_128 rfl) rfl
theorem dX11_bed_152 : decode cX11_bed 152 = .ok (.iload 4, 2) := z_o21 (z_wat (q := 128) (j := 24) zwX11_bed_128 rfl) (z_wat (q := 128) (j := 25) zwX11_bed_128 rfl)
theorem dX11_bed_154 : decode cX11_bed 154 = .ok (.iaload, 1) := z_o46 (z_wat (q := 128) (j := 26) zwX11_bed_128 rfl)
theorem dX11_bed_155 : decode cX11_bed 155 = .ok (.goto 4, 3) := z_o167 (z_wat (q := 128) (j := 27) zwX11_bed_128 rfl) (z_wat (q := 128) (j := 28) zwX11_bed_128 rfl) (z_wat (q := 128) (j := 29) zwX11_bed_128 rfl) rfl
theorem dX11_bed_158 : decode cX11_bed 158 = .ok (.iconst (-1), 1) := z_o2 (z_wat (q := 128) (j := 30) zwX11_bed_128 rfl)
theorem dX11_bed_159 : decode cX11_bed 159 = .ok (.ireturn, 1) := z_o172 (z_wat (q := 128) (j := 31) zwX11_bed_128 rfl)
theorem zwX11_days_0 : ((cX11_days.data.toList.drop 0).take 34).map UInt8.toNat = [42, 180, 0, 19, 27, 182, 0, 115, 153, 0, 25, 28, 4, 161, 0, 20, 28, 18, 229, 163, 0, 14, 29, 4, 161, 0, 9, 29, 16, 100, 164, 0, 7, 20] := by decide +kernel
theorem dX11_days_0 : decode cX11_days 0 = .ok (.aload_n 0, 1) := z_o42 (z_wat (q := 0) (j := 0) zwX11_days_0 rfl)
theorem dX11_days_1 : decode cX11_days 1 = .ok (.getfield 19, 3) := z_o180 (z_wat (q := 0) (j := 1) zwX11_days_0 rfl) (z_wat (q := 0) (j := 2) zwX11_days_0 rfl) (z_wat (q := 0) (j := 3) zwX11_days_0 rfl) rfl
theorem dX11_days_4 : decode cX11_days 4 = .ok (.iload_n 1, 1) := z_o27 (z_wat (q := 0) (j := 4) zwX11_days_0 rfl)
theorem dX11_days_5 : decode cX11_days 5 = .ok (.invokevirtual 115, 3) := z_o182 (z_wat (q := 0) (j := 5) zwX11_days_0 rfl) (z_wat (q := 0) (j := 6) zwX11_days_0 rfl) (z_wat (q := 0) (j := 7) zwX11_days_0 rfl) rfl
theorem dX11_days_8 : decode cX11_days 8 = .ok (.ifCond .eq 25, 3) := z_o153 (z_wat (q := 0) (j := 8) zwX11_days_0 rfl) (z_wat (q := 0) (j := 9) zwX11_days_0 rfl) (z_wat (q := 0) (j := 10) zwX11_days_0 rfl) rfl
theorem dX11_days_11 : decode cX11_days 11 = .ok (.iload_n 2, 1) := z_o28 (z_wat (q := 0) (j := 11) zwX11_days_0 rfl)
theorem dX11_days_12 : decode cX11_days 12 = .ok (.iconst 1, 1) := z_o4 (z_wat (q := 0) (j := 12) zwX11_days_0 rfl)
theorem dX11_days_13 : decode cX11_days 13 = .ok (.if_icmp .lt 20, 3) := z_o161 (z_wat (q := 0) (j := 13) zwX11_days_0 rfl) (z_wat (q := 0) (j := 14) zwX11_days_0 rfl) (z_wat (q := 0) (j := 15) zwX11_days_0 rfl) rfl
theorem dX11_days_16 : decode cX11_days 16 = .ok (.iload_n 2, 1) := z_o28 (z_wat (q := 0) (j := 16) zwX11_days_0 rfl)
theorem dX11_days_17 : decode cX11_days 17 = .ok (.ldc 229, 2) := z_o18 (z_wat (q := 0) (j := 17) zwX11_days_0 rfl) (z_wat (q := 0) (j := 18) zwX11_days_0 rfl)
theorem dX11_days_19 : decode cX11_days 19 = .ok (.if_icmp .gt 14, 3) := z_o163 (z_wat (q := 0) (j := 19) zwX11_days_0 rfl) (z_wat (q := 0) (j := 20) zwX11_days_0 rfl) (z_wat (q := 0) (j := 21) zwX11_days_0 rfl) rfl
theorem dX11_days_22 : decode cX11_days 22 = .ok (.iload_n 3, 1) := z_o29 (z_wat (q := 0) (j := 22) zwX11_days_0 rfl)
theorem dX11_days_23 : decode cX11_days 23 = .ok (.iconst 1, 1) := z_o4 (z_wat (q := 0) (j := 23) zwX11_days_0 rfl)
theorem dX11_days_24 : decode cX11_days 24 = .ok (.if_icmp .lt 9, 3) := z_o161 (z_wat (q := 0) (j := 24) zwX11_days_0 rfl) (z_wat (q := 0) (j := 25) zwX11_days_0 rfl) (z_wat (q := 0) (j := 26) zwX11_days_0 rfl) rfl
theorem dX11_days_27 : decode cX11_days 27 = .ok (.iload_n 3, 1) := z_o29 (z_wat (q := 0) (j := 27) zwX11_days_0 rfl)
theorem dX11_days_28 : decode cX11_days 28 = .ok (.bipush 100, 2) := z_o16 (z_wat (q := 0) (j := 28) zwX11_days_0 rfl) (z_wat (q := 0) (j := 29) zwX11_days_0 rfl) rfl
theorem dX11_days_30 : decode cX11_days 30 = .ok (.if_icmp .le 7, 3) := z_o164 (z_wat (q := 0) (j := 30) zwX11_days_0 rfl) (z_wat (q := 0) (j := 31) zwX11_days_0 rfl) (z_wat (q := 0) (j := 32) zwX11_days_0 rfl) rfl
theorem zwX11_days_32 : ((cX11_days.data.toList.drop 32).take 31).map UInt8.toNat = [7, 20, 0, 209, 173, 42, 180, 0, 42, 42, 180, 0, 28, 42, 27, 182, 0, 187, 182, 0, 211, 42, 180, 0, 42, 28, 29, 182, 0, 230, 173] := by decide +kernel
theorem dX11_days_33 : decode cX11_days 33 = .ok (.ldc2_w 209, 3) := z_o20 (z_wat (q := 32) (j := 1) zwX11_days_32 rfl) (z_wat (q := 32) (j := 2) zwX11_days_32 rfl) (z_wat (q := 32) (j := 3) zwX11_days_32 rfl) rfl
theorem dX11_days_36 : decode cX11_days 36 = .ok (.lreturn, 1) := z_o173 (z_wat (q := 32) (j := 4) zwX11_days_32 rfl)
theorem dX11_days_37 : decode cX11_days 37 = .ok (.aload_n 0, 1) := z_o42 (z_wat (q := 32) (j := 5) zwX11_days_32 rfl)
theorem dX11_days_38 : decode cX11_days 38 = .ok (.getfield 42, 3) := z_o180 (z_wat (q := 32) (j := 6) zwX11_days_32 rfl) (z_wat (q := 32) (j := 7) zwX11_days_32 rfl) (z_wat (q := 32) (j := 8) zwX11_days_32 rfl) rfl
theorem dX11_days_41 : decode cX11_days 41 = .ok (.aload_n 0, 1) := z_o42 (z_wat (q := 32) (j := 9) zwX11_days_32 rfl)
theorem dX11_days_42 : decode cX11_days 42 = .ok (.getfield 28, 3) := z_o180 (z_wat (q := 32) (j := 10) zwX11_days_32 rfl) (z_wat (q := 32) (j := 11) zwX11_days_32 rfl) (z_wat (q := 32) (j := 12) zwX11_days_32 rfl) rfl
theorem dX11_days_45 : decode cX11_days 45 = .ok (.aload_n 0, 1) := z_o42 (z_wat (q := 32) (j := 13) zwX11_days_32 rfl)
theorem dX11_days_46 : decode cX11_days 46 = .ok (.iload_n 1, 1) := z_o27 (z_wat (q := 32) (j := 14) zwX11_days_32 rfl)
theorem dX11_days_47 : decode cX11_days 47 = .ok (.invokevirtual 187, 3) := z_o182 (z_wat (q := 32) (j := 15) zwX11_days_32 rfl) (z_wat (q := 32) (j := 16) zwX11_days_32 rfl) (z_wat (q := 32) (j := 17) zwX11_days_32 rfl) rfl
theorem dX11_days_50 : decode cX11_days 50 = .ok (.invokevirtual 211, 3) := z_o182 (z_wat (q := 32) (j := 18) zwX11_days_32 rfl) (z_wat (q := 32) (j := 19) zwX11_days_32 rfl) (z_wat (q := 32) (j := 20) zwX11_days_32 rfl) rfl
theorem dX11_days_53 : decode cX11_days 53 = .ok (.aload_n 0, 1) := z_o42 (z_wat (q := 32) (j := 21) zwX11_days_32 rfl)
theorem dX11_days_54 : decode cX11_days 54 = .ok (.getfield 42, 3) := z_o180 (z_wat (q := 32) (j := 22) zwX11_days_32 rfl) (z_wat (q := 32) (j := 23) zwX11_days_32 rfl) (z_wat (q := 32) (j := 24) zwX11_days_32 rfl) rfl
theorem dX11_days_57 : decode cX11_days 57 = .ok (.iload_n 2, 1) := z_o28 (z_wat (q := 32) (j := 25) zwX11_days_32 rfl)
theorem dX11_days_58 : decode cX11_days 58 = .ok (.iload_n 3, 1) := z_o29 (z_wat (q := 32) (j := 26) zwX11_days_32 rfl)
theorem dX11_days_59 : decode cX11_days 59 = .ok (.invokevirtual 230, 3) := z_o182 (z_wat (q := 32) (j := 27) zwX11_days_32 rfl) (z_wat (q := 32) (j := 28) zwX11_days_32 rfl) (z_wat (q := 32) (j := 29) zwX11_days_32 rfl) rfl
theorem dX11_days_62 : decode cX11_days 62 = .ok (.lreturn, 1) := z_o173 (z_wat (q := 32) (j := 30) zwX11_days_32 rfl)
theorem zwX11_eaten_0 : ((cX11_eaten.data.toList.drop 0).take 34).map UInt8.toNat = [42, 180, 0, 19, 27, 182, 0, 115, 153, 0, 28, 29, 155, 0, 24, 29, 6, 163, 0, 19, 29, 5, 162, 0, 18, 42, 180, 0, 42, 28, 182, 0, 203, 154] := by decide +kernel
theorem dX11_eaten_0 : decode cX11_eaten 0 = .ok (.aload_n 0, 1) := z_o42 (z_wat (q := 0) (j := 0) zwX11_eaten_0 rfl)
theorem dX11_eaten_1 : decode cX11_eaten 1 = .ok (.getfield 19, 3) := z_o180 (z_wat (q := 0) (j := 1) zwX11_eaten_0 rfl) (z_wat (q := 0) (j := 2) zwX11_eaten_0 rfl) (z_wat (q := 0) (j := 3) zwX11_eaten_0 rfl) rfl
theorem dX11_eaten_4 : decode cX11_eaten 4 = .ok (.iload_n 1, 1) := z_o27 (z_wat (q := 0) (j := 4) zwX11_eaten_0 rfl)
theorem dX11_eaten_5 : decode cX11_eaten 5 = .ok (.invokevirtual 115, 3) := z_o182 (z_wat (q := 0) (j := 5) zwX11_eaten_0 rfl) (z_wat (q := 0) (j := 6) zwX11_eaten_0 rfl) (z_wat (q := 0) (j := 7) zwX11_eaten_0 rfl) rfl
theorem dX11_eaten_8 : decode cX11_eaten 8 = .ok (.ifCond .eq 28, 3) := z_o153 (z_wat (q := 0) (j := 8) zwX11_eaten_0 rfl) (z_wat (q := 0) (j := 9) zwX11_eaten_0 rfl) (z_wat (q := 0) (j := 10) zwX11_eaten_0 rfl) rfl
theorem dX11_eaten_11 : decode cX11_eaten 11 = .ok (.iload_n 3, 1) := z_o29 (z_wat (q := 0) (j := 11) zwX11_eaten_0 rfl)
theorem dX11_eaten_12 : decode cX11_eaten 12 = .ok (.ifCond .lt 24, 3) := z_o155 (z_wat (q := 0) (j := 12) zwX11_eaten_0 rfl) (z_wat (q := 0) (j := 13) zwX11_eaten_0 rfl) (z_wat (q := 0) (j := 14) zwX11_eaten_0 rfl) rfl
theorem dX11_eaten_15 : decode cX11_eaten 15 = .ok (.iload_n 3, 1) := z_o29 (z_wat (q := 0) (j := 15) zwX11_eaten_0 rfl)
theorem dX11_eaten_16 : decode cX11_eaten 16 = .ok (.iconst 3, 1) := z_o6 (z_wat (q := 0) (j := 16) zwX11_eaten_0 rfl)
theorem dX11_eaten_17 : decode cX11_eaten 17 = .ok (.if_icmp .gt 19, 3) := z_o163 (z_wat (q := 0) (j := 17) zwX11_eaten_0 rfl) (z_wat (q := 0) (j := 18) zwX11_eaten_0 rfl) (z_wat (q := 0) (j := 19) zwX11_eaten_0 rfl) rfl
theorem dX11_eaten_20 : decode cX11_eaten 20 = .ok (.iload_n 3, 1) := z_o29 (z_wat (q := 0) (j := 20) zwX11_eaten_0 rfl)
theorem dX11_eaten_21 : decode cX11_eaten 21 = .ok (.iconst 2, 1) := z_o5 (z_wat (q := 0) (j := 21) zwX11_eaten_0 rfl)
theorem dX11_eaten_22 : decode cX11_eaten 22 = .ok (.if_icmp .ge 18, 3) := z_o162 (z_wat (q := 0) (j := 22) zwX11_eaten_0 rfl) (z_wat (q := 0) (j := 23) zwX11_eaten_0 rfl) (z_wat (q := 0) (j := 24) zwX11_eaten_0 rfl) rfl
theorem dX11_eaten_25 : decode cX11_eaten 25 = .ok (.aload_n 0, 1) := z_o42 (z_wat (q := 0) (j := 25) zwX11_eaten_0 rfl)
theorem dX11_eaten_26 : decode cX11_eaten 26 = .ok (.getfield 42, 3) := z_o180 (z_wat (q := 0) (j := 26) zwX11_eaten_0 rfl) (z_wat (q := 0) (j := 27) zwX11_eaten_0 rfl) (z_wat (q := 0) (j := 28) zwX11_eaten_0 rfl) rfl
theorem dX11_eaten_29 : decode cX11_eaten 29 = .ok (.iload_n 2, 1) := z_o28 (z_wat (q := 0) (j := 29) zwX11_eaten_0 rfl)
theorem dX11_eaten_30 : decode cX11_eaten 30 = .ok (.invokevirtual 203, 3) := z_o182 (z_wat (q := 0) (j := 30) zwX11_eaten_0 rfl) (z_wat (q := 0) (j := 31) zwX11_eaten_0 rfl) (z_wat (q := 0) (j := 32) zwX11_eaten_0 rfl) rfl
theorem zwX11_eaten_32 : ((cX11_eaten.data.toList.drop 32).take 34).map UInt8.toNat = [203, 154, 0, 7, 20, 0, 209, 173, 42, 180, 0, 42, 42, 180, 0, 28, 42, 27, 182, 0, 187, 182, 0, 211, 29, 170, 0, 0, 0, 0, 0, 55, 0, 0] := by decide +kernel
theorem dX11_eaten_33 : decode cX11_eaten 33 = .ok (.ifCond .ne 7, 3) := z_o154 (z_wat (q := 32) (j := 1) zwX11_eaten_32 rfl) (z_wat (q := 32) (j := 2) zwX11_eaten_32 rfl) (z_wat (q := 32) (j := 3) zwX11_eaten_32 rfl) rfl
theorem dX11_eaten_36 : decode cX11_eaten 36 = .ok (.ldc2_w 209, 3) := z_o20 (z_wat (q := 32) (j := 4) zwX11_eaten_32 rfl) (z_wat (q := 32) (j := 5) zwX11_eaten_32 rfl) (z_wat (q := 32) (j := 6) zwX11_eaten_32 rfl) rfl
theorem dX11_eaten_39 : decode cX11_eaten 39 = .ok (.lreturn, 1) := z_o173 (z_wat (q := 32) (j := 7) zwX11_eaten_32 rfl)
theorem dX11_eaten_40 : decode cX11_eaten 40 = .ok (.aload_n 0, 1) := z_o42 (z_wat (q := 32) (j := 8) zwX11_eaten_32 rfl)
theorem dX11_eaten_41 : decode cX11_eaten 41 = .ok (.getfield 42, 3) := z_o180 (z_wat (q := 32) (j := 9) zwX11_eaten_32 rfl) (z_wat (q := 32) (j := 10) zwX11_eaten_32 rfl) (z_wat (q := 32) (j := 11) zwX11_eaten_32 rfl) rfl
theorem dX11_eaten_44 : decode cX11_eaten 44 = .ok (.aload_n 0, 1) := z_o42 (z_wat (q := 32) (j := 12) zwX11_eaten_32 rfl)
theorem dX11_eaten_45 : decode cX11_eaten 45 = .ok (.getfield 28, 3) := z_o180 (z_wat (q := 32) (j := 13) zwX11_eaten_32 rfl) (z_wat (q := 32) (j := 14) zwX11_eaten_32 rfl) (z_wat (q := 32) (j := 15) zwX11_eaten_32 rfl) rfl
theorem dX11_eaten_48 : decode cX11_eaten 48 = .ok (.aload_n 0, 1) := z_o42 (z_wat (q := 32) (j := 16) zwX11_eaten_32 rfl)
theorem dX11_eaten_49 : decode cX11_eaten 49 = .ok (.iload_n 1, 1) := z_o27 (z_wat (q := 32) (j := 17) zwX11_eaten_32 rfl)
theorem dX11_eaten_50 : decode cX11_eaten 50 = .ok (.invokevirtual 187, 3) := z_o182 (z_wat (q := 32) (j := 18) zwX11_eaten_32 rfl) (z_wat (q := 32) (j := 19) zwX11_eaten_32 rfl) (z_wat (q := 32) (j := 20) zwX11_eaten_32 rfl) rfl
theorem dX11_eaten_53 : decode cX11_eaten 53 = .ok (.invokevirtual 211, 3) := z_o182 (z_wat (q := 32) (j := 21) zwX11_eaten_32 rfl) (z_wat (q := 32) (j := 22) zwX11_eaten_32 rfl) (z_wat (q := 32) (j := 23) zwX11_eaten_32 rfl) rfl
theorem dX11_eaten_56 : decode cX11_eaten 56 = .ok (.iload_n 3, 1) := z_o29 (z_wat (q := 32) (j := 24) zwX11_eaten_32 rfl)
theorem dX11_eaten_57 : decode cX11_eaten 57 = .ok (.tableswitch 55 0 2 #[27, 37, 47], 27) := by decide +kernel
theorem zwX11_eaten_64 : ((cX11_eaten.data.toList.drop 64).take 34).map UInt8.toNat = [0, 0, 0, 0, 0, 0, 0, 2, 0, 0, 0, 27, 0, 0, 0, 37, 0, 0, 0, 47, 42, 180, 0, 42, 180, 0, 215, 28, 47, 173, 42, 180, 0, 42] := by decide +kernel
theorem dX11_eaten_84 : decode cX11_eaten 84 = .ok (.aload_n 0, 1) := z_o42 (z_wat (q := 64) (j := 20) zwX11_eaten_64 rfl)
theorem dX11_eaten_85 : decode cX11_eaten 85 = .ok (.getfield 42, 3) := z_o180 (z_wat (q := 64) (j := 21) zwX11_eaten_64 rfl) (z_wat (q := 64) (j := 22) zwX11_eaten_64 rfl) (z_wat (q := 64) (j := 23) zwX11_eaten_64 rfl) rfl
theorem dX11_eaten_88 : decode cX11_eaten 88 = .ok (.getfield 215, 3) := z_o180 (z_wat (q := 64) (j := 24) zwX11_eaten_64 rfl) (z_wat (q := 64) (j := 25) zwX11_eaten_64 rfl) (z_wat (q := 64) (j := 26) zwX11_eaten_64 rfl) rfl
theorem dX11_eaten_91 : decode cX11_eaten 91 = .ok (.iload_n 2, 1) := z_o28 (z_wat (q := 64) (j := 27) zwX11_eaten_64 rfl)
theorem dX11_eaten_92 : decode cX11_eaten 92 = .ok (.laload, 1) := z_o47 (z_wat (q := 64) (j := 28) zwX11_eaten_64 rfl)
theorem dX11_eaten_93 : decode cX11_eaten 93 = .ok (.lreturn, 1) := z_o173 (z_wat (q := 64) (j := 29) zwX11_eaten_64 rfl)
theorem dX11_eaten_94 : decode cX11_eaten 94 = .ok (.aload_n 0, 1) := z_o42 (z_wat (q := 64) (j := 30) zwX11_eaten_64 rfl)
theorem dX11_eaten_95 : decode cX11_eaten 95 = .ok (.getfield 42, 3) := z_o180 (z_wat (q := 64) (j := 31) zwX11_eaten_64 rfl) (z_wat (q := 64) (j := 32) zwX11_eaten_64 rfl) (z_wat (q := 64) (j := 33) zwX11_eaten_64 rfl) rfl
theorem zwX11_eaten_96 : ((cX11_eaten.data.toList.drop 96).take 24).map UInt8.toNat = [0, 42, 180, 0, 219, 28, 47, 173, 42, 180, 0, 42, 180, 0, 222, 173, 42, 180, 0, 42, 180, 0, 226, 173] := by decide +kernel
theorem dX11_eaten_98 : decode cX11_eaten 98 = .ok (.getfield 219, 3) := z_o180 (z_wat (q := 96) (j := 2) zwX11_eaten_96 rfl) (z_wat (q := 96) (j := 3) zwX11_eaten_96 rfl) (z_wat (q := 96) (j := 4) zwX11_eaten_96 rfl) rfl
theorem dX11_eaten_101 : decode cX11_eaten 101 = .ok (.iload_n 2, 1) := z_o28 (z_wat (q := 96) (j := 5) zwX11_eaten_96 rfl)
theorem dX11_eaten_102 : decode cX11_eaten 102 = .ok (.laload, 1) := z_o47 (z_wat (q := 96) (j := 6) zwX11_eaten_96 rfl)
theorem dX11_eaten_103 : decode cX11_eaten 103 = .ok (.lreturn, 1) := z_o173 (z_wat (q := 96) (j := 7) zwX11_eaten_96 rfl)
theorem dX11_eaten_104 : decode cX11_eaten 104 = .ok (.aload_n 0, 1) := z_o42 (z_wat (q := 96) (j := 8) zwX11_eaten_96 rfl)
theorem dX11_eaten_105 : decode cX11_eaten 105 = .ok (.getfield 42, 3) := z_o180 (z_wat (q := 96) (j := 9) zwX11_eaten_96 rfl) (z_wat (q := 96) (j := 10) zwX11_eaten_96 rfl) (z_wat (q := 96) (j := 11) zwX11_eaten_96 rfl) rfl
theorem dX11_eaten_108 : decode cX11_eaten 108 = .ok (.getfield 222, 3) := z_o180 (z_wat (q := 96) (j := 12) zwX11_eaten_96 rfl) (z_wat (q := 96) (j := 13) zwX11_eaten_96 rfl) (z_wat (q := 96) (j := 14) zwX11_eaten_96 rfl) rfl
theorem dX11_eaten_111 : decode cX11_eaten 111 = .ok (.lreturn, 1) := z_o173 (z_wat (q := 96) (j := 15) zwX11_eaten_96 rfl)
theorem dX11_eaten_112 : decode cX11_eaten 112 = .ok (.aload_n 0, 1) := z_o42 (z_wat (q := 96) (j := 16) zwX11_eaten_96 rfl)
theorem dX11_eaten_113 : decode cX11_eaten 113 = .ok (.getfield 42, 3) := z_o180 (z_wat (q := 96) (j := 17) zwX11_eaten_96 rfl) (z_wat (q := 96) (j := 18) zwX11_eaten_96 rfl) (z_wat (q := 96) (j := 19) zwX11_eaten_96 rfl) rfl
theorem dX11_eaten_116 : decode cX11_eaten 116 = .ok (.getfield 226, 3) := z_o180 (z_wat (q := 96) (j := 20) zwX11_eaten_96 rfl) (z_wat (q := 96) (j := 21) zwX11_eaten_96 rfl) (z_wat (q := 96) (j := 22) zwX11_eaten_96 rfl) rfl
theorem dX11_eaten_119 : decode cX11_eaten 119 = .ok (.lreturn, 1) := z_o173 (z_wat (q := 96) (j := 23) zwX11_eaten_96 rfl)
theorem zwX11_holds_0 : ((cX11_holds.data.toList.drop 0).take 34).map UInt8.toNat = [42, 180, 0, 19, 27, 182, 0, 115, 153, 0, 22, 28, 155, 0, 18, 28, 5, 163, 0, 13, 42, 180, 0, 35, 180, 0, 181, 154, 0, 5, 2, 172, 42, 180] := by decide +kernel
theorem dX11_holds_0 : decode cX11_holds 0 = .ok (.aload_n 0, 1) := z_o42 (z_wat (q := 0) (j := 0) zwX11_holds_0 rfl)
theorem dX11_holds_1 : decode cX11_holds 1 = .ok (.getfield 19, 3) := z_o180 (z_wat (q := 0) (j := 1) zwX11_holds_0 rfl) (z_wat (q := 0) (j := 2) zwX11_holds_0 rfl) (z_wat (q := 0) (j := 3) zwX11_holds_0 rfl) rfl
theorem dX11_holds_4 : decode cX11_holds 4 = .ok (.iload_n 1, 1) := z_o27 (z_wat (q := 0) (j := 4) zwX11_holds_0 rfl)
theorem dX11_holds_5 : decode cX11_holds 5 = .ok (.invokevirtual 115, 3) := z_o182 (z_wat (q := 0) (j := 5) zwX11_holds_0 rfl) (z_wat (q := 0) (j := 6) zwX11_holds_0 rfl) (z_wat (q := 0) (j := 7) zwX11_holds_0 rfl) rfl
theorem dX11_holds_8 : decode cX11_holds 8 = .ok (.ifCond .eq 22, 3) := z_o153 (z_wat (q := 0) (j := 8) zwX11_holds_0 rfl) (z_wat (q := 0) (j := 9) zwX11_holds_0 rfl) (z_wat (q := 0) (j := 10) zwX11_holds_0 rfl) rfl
theorem dX11_holds_11 : decode cX11_holds 11 = .ok (.iload_n 2, 1) := z_o28 (z_wat (q := 0) (j := 11) zwX11_holds_0 rfl)
theorem dX11_holds_12 : decode cX11_holds 12 = .ok (.ifCond .lt 18, 3) := z_o155 (z_wat (q := 0) (j := 12) zwX11_holds_0 rfl) (z_wat (q := 0) (j := 13) zwX11_holds_0 rfl) (z_wat (q := 0) (j := 14) zwX11_holds_0 rfl) rfl
theorem dX11_holds_15 : decode cX11_holds 15 = .ok (.iload_n 2, 1) := z_o28 (z_wat (q := 0) (j := 15) zwX11_holds_0 rfl)
theorem dX11_holds_16 : decode cX11_holds 16 = .ok (.iconst 2, 1) := z_o5 (z_wat (q := 0) (j := 16) zwX11_holds_0 rfl)
theorem dX11_holds_17 : decode cX11_holds 17 = .ok (.if_icmp .gt 13, 3) := z_o163 (z_wat (q := 0) (j := 17) zwX11_holds_0 rfl) (z_wat (q := 0) (j := 18) zwX11_holds_0 rfl) (z_wat (q := 0) (j := 19) zwX11_holds_0 rfl) rfl
theorem dX11_holds_20 : decode cX11_holds 20 = .ok (.aload_n 0, 1) := z_o42 (z_wat (q := 0) (j := 20) zwX11_holds_0 rfl)
theorem dX11_holds_21 : decode cX11_holds 21 = .ok (.getfield 35, 3) := z_o180 (z_wat (q := 0) (j := 21) zwX11_holds_0 rfl) (z_wat (q := 0) (j := 22) zwX11_holds_0 rfl) (z_wat (q := 0) (j := 23) zwX11_holds_0 rfl) rfl
theorem dX11_holds_24 : decode cX11_holds 24 = .ok (.getfield 181, 3) := z_o180 (z_wat (q := 0) (j := 24) zwX11_holds_0 rfl) (z_wat (q := 0) (j := 25) zwX11_holds_0 rfl) (z_wat (q := 0) (j := 26) zwX11_holds_0 rfl) rfl
theorem dX11_holds_27 : decode cX11_holds 27 = .ok (.ifCond .ne 5, 3) := z_o154 (z_wat (q := 0) (j := 27) zwX11_holds_0 rfl) (z_wat (q := 0) (j := 28) zwX11_holds_0 rfl) (z_wat (q := 0) (j := 29) zwX11_holds_0 rfl) rfl
theorem dX11_holds_30 : decode cX11_holds 30 = .ok (.iconst (-1), 1) := z_o2 (z_wat (q := 0) (j := 30) zwX11_holds_0 rfl)
theorem dX11_holds_31 : decode cX11_holds 31 = .ok (.ireturn, 1) := z_o172 (z_wat (q := 0) (j := 31) zwX11_holds_0 rfl)
theorem zwX11_holds_32 : ((cX11_holds.data.toList.drop 32).take 34).map UInt8.toNat = [42, 180, 0, 35, 42, 27, 182, 0, 187, 182, 0, 190, 28, 154, 0, 11, 42, 180, 0, 35, 180, 0, 193, 172, 28, 4, 160, 0, 13, 42, 180, 0, 35, 180] := by decide +kernel
theorem dX11_holds_32 : decode cX11_holds 32 = .ok (.aload_n 0, 1) := z_o42 (z_wat (q := 32) (j := 0) zwX11_holds_32 rfl)
theorem dX11_holds_33 : decode cX11_holds 33 = .ok (.getfield 35, 3) := z_o180 (z_wat (q := 32) (j := 1) zwX11_holds_32 rfl) (z_wat (q := 32) (j := 2) zwX11_holds_32 rfl) (z_wat (q := 32) (j := 3) zwX11_holds_32 rfl) rfl
theorem dX11_holds_36 : decode cX11_holds 36 = .ok (.aload_n 0, 1) := z_o42 (z_wat (q := 32) (j := 4) zwX11_holds_32 rfl)
theorem dX11_holds_37 : decode cX11_holds 37 = .ok (.iload_n 1, 1) := z_o27 (z_wat (q := 32) (j := 5) zwX11_holds_32 rfl)
theorem dX11_holds_38 : decode cX11_holds 38 = .ok (.invokevirtual 187, 3) := z_o182 (z_wat (q := 32) (j := 6) zwX11_holds_32 rfl) (z_wat (q := 32) (j := 7) zwX11_holds_32 rfl) (z_wat (q := 32) (j := 8) zwX11_holds_32 rfl) rfl
theorem dX11_holds_41 : decode cX11_holds 41 = .ok (.invokevirtual 190, 3) := z_o182 (z_wat (q := 32) (j := 9) zwX11_holds_32 rfl) (z_wat (q := 32) (j := 10) zwX11_holds_32 rfl) (z_wat (q := 32) (j := 11) zwX11_holds_32 rfl) rfl
theorem dX11_holds_44 : decode cX11_holds 44 = .ok (.iload_n 2, 1) := z_o28 (z_wat (q := 32) (j := 12) zwX11_holds_32 rfl)
theorem dX11_holds_45 : decode cX11_holds 45 = .ok (.ifCond .ne 11, 3) := z_o154 (z_wat (q := 32) (j := 13) zwX11_holds_32 rfl) (z_wat (q := 32) (j := 14) zwX11_holds_32 rfl) (z_wat (q := 32) (j := 15) zwX11_holds_32 rfl) rfl
theorem dX11_holds_48 : decode cX11_holds 48 = .ok (.aload_n 0, 1) := z_o42 (z_wat (q := 32) (j := 16) zwX11_holds_32 rfl)
theorem dX11_holds_49 : decode cX11_holds 49 = .ok (.getfield 35, 3) := z_o180 (z_wat (q := 32) (j := 17) zwX11_holds_32 rfl) (z_wat (q := 32) (j := 18) zwX11_holds_32 rfl) (z_wat (q := 32) (j := 19) zwX11_holds_32 rfl) rfl
theorem dX11_holds_52 : decode cX11_holds 52 = .ok (.getfield 193, 3) := z_o180 (z_wat (q := 32) (j := 20) zwX11_holds_32 rfl) (z_wat (q := 32) (j := 21) zwX11_holds_32 rfl) (z_wat (q := 32) (j := 22) zwX11_holds_32 rfl) rfl
theorem dX11_holds_55 : decode cX11_holds 55 = .ok (.ireturn, 1) := z_o172 (z_wat (q := 32) (j := 23) zwX11_holds_32 rfl)
theorem dX11_holds_56 : decode cX11_holds 56 = .ok (.iload_n 2, 1) := z_o28 (z_wat (q := 32) (j := 24) zwX11_holds_32 rfl)
theorem dX11_holds_57 : decode cX11_holds 57 = .ok (.iconst 1, 1) := z_o4 (z_wat (q := 32) (j := 25) zwX11_holds_32 rfl)
theorem dX11_holds_58 : decode cX11_holds 58 = .ok (.if_icmp .ne 13, 3) := z_o160 (z_wat (q := 32) (j := 26) zwX11_holds_32 rfl) (z_wat (q := 32) (j := 27) zwX11_holds_32 rfl) (z_wat (q := 32) (j := 28) zwX11_holds_32 rfl) rfl
theorem dX11_holds_61 : decode cX11_holds 61 = .ok (.aload_n 0, 1) := z_o42 (z_wat (q := 32) (j := 29) zwX11_holds_32 rfl)
theorem dX11_holds_62 : decode cX11_holds 62 = .ok (.getfield 35, 3) := z_o180 (z_wat (q := 32) (j := 30) zwX11_holds_32 rfl) (z_wat (q := 32) (j := 31) zwX11_holds_32 rfl) (z_wat (q := 32) (j := 32) zwX11_holds_32 rfl) rfl
theorem zwX11_holds_64 : ((cX11_holds.data.toList.drop 64).take 15).map UInt8.toNat = [35, 180, 0, 196, 167, 0, 10, 42, 180, 0, 35, 180, 0, 198, 172] := by decide +kernel
theorem dX11_holds_65 : decode cX11_holds 65 = .ok (.getfield 196, 3) := z_o180 (z_wat (q := 64) (j := 1) zwX11_holds_64 rfl) (z_wat (q := 64) (j := 2) zwX11_holds_64 rfl) (z_wat (q := 64) (j := 3) zwX11_holds_64 rfl) rfl
theorem dX11_holds_68 : decode cX11_holds 68 = .ok (.goto 10, 3) := z_o167 (z_wat (q := 64) (j := 4) zwX11_holds_64 rfl) (z_wat (q := 64) (j := 5) zwX11_holds_64 rfl) (z_wat (q := 64) (j := 6) zwX11_holds_64 rfl) rfl
theorem dX11_holds_71 : decode cX11_holds 71 = .ok (.aload_n 0, 1) := z_o42 (z_wat (q := 64) (j := 7) zwX11_holds_64 rfl)
theorem dX11_holds_72 : decode cX11_holds 72 = .ok (.getfield 35, 3) := z_o180 (z_wat (q := 64) (j := 8) zwX11_holds_64 rfl) (z_wat (q := 64) (j := 9) zwX11_holds_64 rfl) (z_wat (q := 64) (j := 10) zwX11_holds_64 rfl) rfl
theorem dX11_holds_75 : decode cX11_holds 75 = .ok (.getfield 198, 3) := z_o180 (z_wat (q := 64) (j := 11) zwX11_holds_64 rfl) (z_wat (q := 64) (j := 12) zwX11_holds_64 rfl) (z_wat (q := 64) (j := 13) zwX11_holds_64 rfl) rfl
theorem dX11_holds_78 : decode cX11_holds 78 = .ok (.ireturn, 1) := z_o172 (z_wat (q := 64) (j := 14) zwX11_holds_64 rfl)
theorem zwX11_middle_0 : ((cX11_middle.data.toList.drop 0).take 34).map UInt8.toNat = [42, 180, 0, 19, 27, 182, 0, 115, 153, 0, 12, 28, 155, 0, 8, 28, 6, 164, 0, 6, 16, 254, 172, 42, 27, 182, 0, 187, 62, 28, 6, 160, 0, 14] := by decide +kernel
theorem dX11_middle_0 : decode cX11_middle 0 = .ok (.aload_n 0, 1) := z_o42 (z_wat (q := 0) (j := 0) zwX11_middle_0 rfl)
theorem dX11_middle_1 : decode cX11_middle 1 = .ok (.getfield 19, 3) := z_o180 (z_wat (q := 0) (j := 1) zwX11_middle_0 rfl) (z_wat (q := 0) (j := 2) zwX11_middle_0 rfl) (z_wat (q := 0) (j := 3) zwX11_middle_0 rfl) rfl
theorem dX11_middle_4 : decode cX11_middle 4 = .ok (.iload_n 1, 1) := z_o27 (z_wat (q := 0) (j := 4) zwX11_middle_0 rfl)
theorem dX11_middle_5 : decode cX11_middle 5 = .ok (.invokevirtual 115, 3) := z_o182 (z_wat (q := 0) (j := 5) zwX11_middle_0 rfl) (z_wat (q := 0) (j := 6) zwX11_middle_0 rfl) (z_wat (q := 0) (j := 7) zwX11_middle_0 rfl) rfl
theorem dX11_middle_8 : decode cX11_middle 8 = .ok (.ifCond .eq 12, 3) := z_o153 (z_wat (q := 0) (j := 8) zwX11_middle_0 rfl) (z_wat (q := 0) (j := 9) zwX11_middle_0 rfl) (z_wat (q := 0) (j := 10) zwX11_middle_0 rfl) rfl
theorem dX11_middle_11 : decode cX11_middle 11 = .ok (.iload_n 2, 1) := z_o28 (z_wat (q := 0) (j := 11) zwX11_middle_0 rfl)
theorem dX11_middle_12 : decode cX11_middle 12 = .ok (.ifCond .lt 8, 3) := z_o155 (z_wat (q := 0) (j := 12) zwX11_middle_0 rfl) (z_wat (q := 0) (j := 13) zwX11_middle_0 rfl) (z_wat (q := 0) (j := 14) zwX11_middle_0 rfl) rfl
theorem dX11_middle_15 : decode cX11_middle 15 = .ok (.iload_n 2, 1) := z_o28 (z_wat (q := 0) (j := 15) zwX11_middle_0 rfl)
theorem dX11_middle_16 : decode cX11_middle 16 = .ok (.iconst 3, 1) := z_o6 (z_wat (q := 0) (j := 16) zwX11_middle_0 rfl)
theorem dX11_middle_17 : decode cX11_middle 17 = .ok (.if_icmp .le 6, 3) := z_o164 (z_wat (q := 0) (j := 17) zwX11_middle_0 rfl) (z_wat (q := 0) (j := 18) zwX11_middle_0 rfl) (z_wat (q := 0) (j := 19) zwX11_middle_0 rfl) rfl
theorem dX11_middle_20 : decode cX11_middle 20 = .ok (.bipush (-2), 2) := z_o16 (z_wat (q := 0) (j := 20) zwX11_middle_0 rfl) (z_wat (q := 0) (j := 21) zwX11_middle_0 rfl) rfl
theorem dX11_middle_22 : decode cX11_middle 22 = .ok (.ireturn, 1) := z_o172 (z_wat (q := 0) (j := 22) zwX11_middle_0 rfl)
theorem dX11_middle_23 : decode cX11_middle 23 = .ok (.aload_n 0, 1) := z_o42 (z_wat (q := 0) (j := 23) zwX11_middle_0 rfl)
theorem dX11_middle_24 : decode cX11_middle 24 = .ok (.iload_n 1, 1) := z_o27 (z_wat (q := 0) (j := 24) zwX11_middle_0 rfl)
theorem dX11_middle_25 : decode cX11_middle 25 = .ok (.invokevirtual 187, 3) := z_o182 (z_wat (q := 0) (j := 25) zwX11_middle_0 rfl) (z_wat (q := 0) (j := 26) zwX11_middle_0 rfl) (z_wat (q := 0) (j := 27) zwX11_middle_0 rfl) rfl
theorem dX11_middle_28 : decode cX11_middle 28 = .ok (.istore_n 3, 1) := z_o62 (z_wat (q := 0) (j := 28) zwX11_middle_0 rfl)
theorem dX11_middle_29 : decode cX11_middle 29 = .ok (.iload_n 2, 1) := z_o28 (z_wat (q := 0) (j := 29) zwX11_middle_0 rfl)
theorem dX11_middle_30 : decode cX11_middle 30 = .ok (.iconst 3, 1) := z_o6 (z_wat (q := 0) (j := 30) zwX11_middle_0 rfl)
theorem dX11_middle_31 : decode cX11_middle 31 = .ok (.if_icmp .ne 14, 3) := z_o160 (z_wat (q := 0) (j := 31) zwX11_middle_0 rfl) (z_wat (q := 0) (j := 32) zwX11_middle_0 rfl) (z_wat (q := 0) (j := 33) zwX11_middle_0 rfl) rfl
theorem zwX11_middle_32 : ((cX11_middle.data.toList.drop 32).take 23).map UInt8.toNat = [0, 14, 42, 180, 0, 56, 29, 182, 1, 10, 167, 0, 12, 42, 180, 0, 56, 29, 28, 182, 1, 13, 172] := by decide +kernel
theorem dX11_middle_34 : decode cX11_middle 34 = .ok (.aload_n 0, 1) := z_o42 (z_wat (q := 32) (j := 2) zwX11_middle_32 rfl)
theorem dX11_middle_35 : decode cX11_middle 35 = .ok (.getfield 56, 3) := z_o180 (z_wat (q := 32) (j := 3) zwX11_middle_32 rfl) (z_wat (q := 32) (j := 4) zwX11_middle_32 rfl) (z_wat (q := 32) (j := 5) zwX11_middle_32 rfl) rfl
theorem dX11_middle_38 : decode cX11_middle 38 = .ok (.iload_n 3, 1) := z_o29 (z_wat (q := 32) (j := 6) zwX11_middle_32 rfl)
theorem dX11_middle_39 : decode cX11_middle 39 = .ok (.invokevirtual 266, 3) := z_o182 (z_wat (q := 32) (j := 7) zwX11_middle_32 rfl) (z_wat (q := 32) (j := 8) zwX11_middle_32 rfl) (z_wat (q := 32) (j := 9) zwX11_middle_32 rfl) rfl
theorem dX11_middle_42 : decode cX11_middle 42 = .ok (.goto 12, 3) := z_o167 (z_wat (q := 32) (j := 10) zwX11_middle_32 rfl) (z_wat (q := 32) (j := 11) zwX11_middle_32 rfl) (z_wat (q := 32) (j := 12) zwX11_middle_32 rfl) rfl
theorem dX11_middle_45 : decode cX11_middle 45 = .ok (.aload_n 0, 1) := z_o42 (z_wat (q := 32) (j := 13) zwX11_middle_32 rfl)
theorem dX11_middle_46 : decode cX11_middle 46 = .ok (.getfield 56, 3) := z_o180 (z_wat (q := 32) (j := 14) zwX11_middle_32 rfl) (z_wat (q := 32) (j := 15) zwX11_middle_32 rfl) (z_wat (q := 32) (j := 16) zwX11_middle_32 rfl) rfl
theorem dX11_middle_49 : decode cX11_middle 49 = .ok (.iload_n 3, 1) := z_o29 (z_wat (q := 32) (j := 17) zwX11_middle_32 rfl)
theorem dX11_middle_50 : decode cX11_middle 50 = .ok (.iload_n 2, 1) := z_o28 (z_wat (q := 32) (j := 18) zwX11_middle_32 rfl)
theorem dX11_middle_51 : decode cX11_middle 51 = .ok (.invokevirtual 269, 3) := z_o182 (z_wat (q := 32) (j := 19) zwX11_middle_32 rfl) (z_wat (q := 32) (j := 20) zwX11_middle_32 rfl) (z_wat (q := 32) (j := 21) zwX11_middle_32 rfl) rfl
theorem dX11_middle_54 : decode cX11_middle 54 = .ok (.ireturn, 1) := z_o172 (z_wat (q := 32) (j := 22) zwX11_middle_32 rfl)
theorem zwX11_readings_0 : ((cX11_readings.data.toList.drop 0).take 34).map UInt8.toNat = [42, 180, 0, 19, 27, 182, 0, 115, 153, 0, 25, 28, 184, 0, 234, 153, 0, 18, 16, 9, 29, 21, 4, 21, 5, 21, 6, 184, 0, 237, 154, 0, 5, 2] := by decide +kernel
theorem dX11_readings_0 : decode cX11_readings 0 = .ok (.aload_n 0, 1) := z_o42 (z_wat (q := 0) (j := 0) zwX11_readings_0 rfl)
theorem dX11_readings_1 : decode cX11_readings 1 = .ok (.getfield 19, 3) := z_o180 (z_wat (q := 0) (j := 1) zwX11_readings_0 rfl) (z_wat (q := 0) (j := 2) zwX11_readings_0 rfl) (z_wat (q := 0) (j := 3) zwX11_readings_0 rfl) rfl
theorem dX11_readings_4 : decode cX11_readings 4 = .ok (.iload_n 1, 1) := z_o27 (z_wat (q := 0) (j := 4) zwX11_readings_0 rfl)
theorem dX11_readings_5 : decode cX11_readings 5 = .ok (.invokevirtual 115, 3) := z_o182 (z_wat (q := 0) (j := 5) zwX11_readings_0 rfl) (z_wat (q := 0) (j := 6) zwX11_readings_0 rfl) (z_wat (q := 0) (j := 7) zwX11_readings_0 rfl) rfl
theorem dX11_readings_8 : decode cX11_readings 8 = .ok (.ifCond .eq 25, 3) := z_o153 (z_wat (q := 0) (j := 8) zwX11_readings_0 rfl) (z_wat (q := 0) (j := 9) zwX11_readings_0 rfl) (z_wat (q := 0) (j := 10) zwX11_readings_0 rfl) rfl
theorem dX11_readings_11 : decode cX11_readings 11 = .ok (.iload_n 2, 1) := z_o28 (z_wat (q := 0) (j := 11) zwX11_readings_0 rfl)
theorem dX11_readings_12 : decode cX11_readings 12 = .ok (.invokestatic 234, 3) := z_o184 (z_wat (q := 0) (j := 12) zwX11_readings_0 rfl) (z_wat (q := 0) (j := 13) zwX11_readings_0 rfl) (z_wat (q := 0) (j := 14) zwX11_readings_0 rfl) rfl
theorem dX11_readings_15 : decode cX11_readings 15 = .ok (.ifCond .eq 18, 3) := z_o153 (z_wat (q := 0) (j := 15) zwX11_readings_0 rfl) (z_wat (q := 0) (j := 16) zwX11_readings_0 rfl) (z_wat (q := 0) (j := 17) zwX11_readings_0 rfl) rfl
theorem dX11_readings_18 : decode cX11_readings 18 = .ok (.bipush 9, 2) := z_o16 (z_wat (q := 0) (j := 18) zwX11_readings_0 rfl) (z_wat (q := 0) (j := 19) zwX11_readings_0 rfl) rfl
theorem dX11_readings_20 : decode cX11_readings 20 = .ok (.iload_n 3, 1) := z_o29 (z_wat (q := 0) (j := 20) zwX11_readings_0 rfl)
theorem dX11_readings_21 : decode cX11_readings 21 = .ok (.iload 4, 2) := z_o21 (z_wat (q := 0) (j := 21) zwX11_readings_0 rfl) (z_wat (q := 0) (j := 22) zwX11_readings_0 rfl)
theorem dX11_readings_23 : decode cX11_readings 23 = .ok (.iload 5, 2) := z_o21 (z_wat (q := 0) (j := 23) zwX11_readings_0 rfl) (z_wat (q := 0) (j := 24) zwX11_readings_0 rfl)
theorem dX11_readings_25 : decode cX11_readings 25 = .ok (.iload 6, 2) := z_o21 (z_wat (q := 0) (j := 25) zwX11_readings_0 rfl) (z_wat (q := 0) (j := 26) zwX11_readings_0 rfl)
theorem dX11_readings_27 : decode cX11_readings 27 = .ok (.invokestatic 237, 3) := z_o184 (z_wat (q := 0) (j := 27) zwX11_readings_0 rfl) (z_wat (q := 0) (j := 28) zwX11_readings_0 rfl) (z_wat (q := 0) (j := 29) zwX11_readings_0 rfl) rfl
theorem dX11_readings_30 : decode cX11_readings 30 = .ok (.ifCond .ne 5, 3) := z_o154 (z_wat (q := 0) (j := 30) zwX11_readings_0 rfl) (z_wat (q := 0) (j := 31) zwX11_readings_0 rfl) (z_wat (q := 0) (j := 32) zwX11_readings_0 rfl) rfl
theorem zwX11_readings_32 : ((cX11_readings.data.toList.drop 32).take 34).map UInt8.toNat = [5, 2, 172, 29, 21, 4, 96, 21, 5, 96, 21, 6, 96, 54, 7, 42, 180, 0, 49, 42, 27, 182, 0, 187, 28, 182, 0, 245, 21, 7, 96, 54, 8, 21] := by decide +kernel
theorem dX11_readings_33 : decode cX11_readings 33 = .ok (.iconst (-1), 1) := z_o2 (z_wat (q := 32) (j := 1) zwX11_readings_32 rfl)
theorem dX11_readings_34 : decode cX11_readings 34 = .ok (.ireturn, 1) := z_o172 (z_wat (q := 32) (j := 2) zwX11_readings_32 rfl)
theorem dX11_readings_35 : decode cX11_readings 35 = .ok (.iload_n 3, 1) := z_o29 (z_wat (q := 32) (j := 3) zwX11_readings_32 rfl)
theorem dX11_readings_36 : decode cX11_readings 36 = .ok (.iload 4, 2) := z_o21 (z_wat (q := 32) (j := 4) zwX11_readings_32 rfl) (z_wat (q := 32) (j := 5) zwX11_readings_32 rfl)
theorem dX11_readings_38 : decode cX11_readings 38 = .ok (.iadd, 1) := z_o96 (z_wat (q := 32) (j := 6) zwX11_readings_32 rfl)
theorem dX11_readings_39 : decode cX11_readings 39 = .ok (.iload 5, 2) := z_o21 (z_wat (q := 32) (j := 7) zwX11_readings_32 rfl) (z_wat (q := 32) (j := 8) zwX11_readings_32 rfl)
theorem dX11_readings_41 : decode cX11_readings 41 = .ok (.iadd, 1) := z_o96 (z_wat (q := 32) (j := 9) zwX11_readings_32 rfl)
theorem dX11_readings_42 : decode cX11_readings 42 = .ok (.iload 6, 2) := z_o21 (z_wat (q := 32) (j := 10) zwX11_readings_32 rfl) (z_wat (q := 32) (j := 11) zwX11_readings_32 rfl)
theorem dX11_readings_44 : decode cX11_readings 44 = .ok (.iadd, 1) := z_o96 (z_wat (q := 32) (j := 12) zwX11_readings_32 rfl)
theorem dX11_readings_45 : decode cX11_readings 45 = .ok (.istore 7, 2) := z_o54 (z_wat (q := 32) (j := 13) zwX11_readings_32 rfl) (z_wat (q := 32) (j := 14) zwX11_readings_32 rfl)
theorem dX11_readings_47 : decode cX11_readings 47 = .ok (.aload_n 0, 1) := z_o42 (z_wat (q := 32) (j := 15) zwX11_readings_32 rfl)
theorem dX11_readings_48 : decode cX11_readings 48 = .ok (.getfield 49, 3) := z_o180 (z_wat (q := 32) (j := 16) zwX11_readings_32 rfl) (z_wat (q := 32) (j := 17) zwX11_readings_32 rfl) (z_wat (q := 32) (j := 18) zwX11_readings_32 rfl) rfl
theorem dX11_readings_51 : decode cX11_readings 51 = .ok (.aload_n 0, 1) := z_o42 (z_wat (q := 32) (j := 19) zwX11_readings_32 rfl)
theorem dX11_readings_52 : decode cX11_readings 52 = .ok (.iload_n 1, 1) := z_o27 (z_wat (q := 32) (j := 20) zwX11_readings_32 rfl)
theorem dX11_readings_53 : decode cX11_readings 53 = .ok (.invokevirtual 187, 3) := z_o182 (z_wat (q := 32) (j := 21) zwX11_readings_32 rfl) (z_wat (q := 32) (j := 22) zwX11_readings_32 rfl) (z_wat (q := 32) (j := 23) zwX11_readings_32 rfl) rfl
theorem dX11_readings_56 : decode cX11_readings 56 = .ok (.iload_n 2, 1) := z_o28 (z_wat (q := 32) (j := 24) zwX11_readings_32 rfl)
theorem dX11_readings_57 : decode cX11_readings 57 = .ok (.invokevirtual 245, 3) := z_o182 (z_wat (q := 32) (j := 25) zwX11_readings_32 rfl) (z_wat (q := 32) (j := 26) zwX11_readings_32 rfl) (z_wat (q := 32) (j := 27) zwX11_readings_32 rfl) rfl
theorem dX11_readings_60 : decode cX11_readings 60 = .ok (.iload 7, 2) := z_o21 (z_wat (q := 32) (j := 28) zwX11_readings_32 rfl) (z_wat (q := 32) (j := 29) zwX11_readings_32 rfl)
theorem dX11_readings_62 : decode cX11_readings 62 = .ok (.iadd, 1) := z_o96 (z_wat (q := 32) (j := 30) zwX11_readings_32 rfl)
theorem dX11_readings_63 : decode cX11_readings 63 = .ok (.istore 8, 2) := z_o54 (z_wat (q := 32) (j := 31) zwX11_readings_32 rfl) (z_wat (q := 32) (j := 32) zwX11_readings_32 rfl)
theorem zwX11_readings_64 : ((cX11_readings.data.toList.drop 64).take 34).map UInt8.toNat = [8, 21, 7, 153, 0, 10, 21, 8, 16, 40, 164, 0, 5, 2, 172, 42, 180, 0, 49, 27, 28, 29, 21, 4, 21, 5, 21, 6, 182, 0, 248, 21, 8, 172] := by decide +kernel
theorem dX11_readings_65 : decode cX11_readings 65 = .ok (.iload 7, 2) := z_o21 (z_wat (q := 64) (j := 1) zwX11_readings_64 rfl) (z_wat (q := 64) (j := 2) zwX11_readings_64 rfl)
theorem dX11_readings_67 : decode cX11_readings 67 = .ok (.ifCond .eq 10, 3) := z_o153 (z_wat (q := 64) (j := 3) zwX11_readings_64 rfl) (z_wat (q := 64) (j := 4) zwX11_readings_64 rfl) (z_wat (q := 64) (j := 5) zwX11_readings_64 rfl) rfl
theorem dX11_readings_70 : decode cX11_readings 70 = .ok (.iload 8, 2) := z_o21 (z_wat (q := 64) (j := 6) zwX11_readings_64 rfl) (z_wat (q := 64) (j := 7) zwX11_readings_64 rfl)
theorem dX11_readings_72 : decode cX11_readings 72 = .ok (.bipush 40, 2) := z_o16 (z_wat (q := 64) (j := 8) zwX11_readings_64 rfl) (z_wat (q := 64) (j := 9) zwX11_readings_64 rfl) rfl
theorem dX11_readings_74 : decode cX11_readings 74 = .ok (.if_icmp .le 5, 3) := z_o164 (z_wat (q := 64) (j := 10) zwX11_readings_64 rfl) (z_wat (q := 64) (j := 11) zwX11_readings_64 rfl) (z_wat (q := 64) (j := 12) zwX11_readings_64 rfl) rfl
theorem dX11_readings_77 : decode cX11_readings 77 = .ok (.iconst (-1), 1) := z_o2 (z_wat (q := 64) (j := 13) zwX11_readings_64 rfl)
theorem dX11_readings_78 : decode cX11_readings 78 = .ok (.ireturn, 1) := z_o172 (z_wat (q := 64) (j := 14) zwX11_readings_64 rfl)
theorem dX11_readings_79 : decode cX11_readings 79 = .ok (.aload_n 0, 1) := z_o42 (z_wat (q := 64) (j := 15) zwX11_readings_64 rfl)
theorem dX11_readings_80 : decode cX11_readings 80 = .ok (.getfield 49, 3) := z_o180 (z_wat (q := 64) (j := 16) zwX11_readings_64 rfl) (z_wat (q := 64) (j := 17) zwX11_readings_64 rfl) (z_wat (q := 64) (j := 18) zwX11_readings_64 rfl) rfl
theorem dX11_readings_83 : decode cX11_readings 83 = .ok (.iload_n 1, 1) := z_o27 (z_wat (q := 64) (j := 19) zwX11_readings_64 rfl)
theorem dX11_readings_84 : decode cX11_readings 84 = .ok (.iload_n 2, 1) := z_o28 (z_wat (q := 64) (j := 20) zwX11_readings_64 rfl)
theorem dX11_readings_85 : decode cX11_readings 85 = .ok (.iload_n 3, 1) := z_o29 (z_wat (q := 64) (j := 21) zwX11_readings_64 rfl)
theorem dX11_readings_86 : decode cX11_readings 86 = .ok (.iload 4, 2) := z_o21 (z_wat (q := 64) (j := 22) zwX11_readings_64 rfl) (z_wat (q := 64) (j := 23) zwX11_readings_64 rfl)
theorem dX11_readings_88 : decode cX11_readings 88 = .ok (.iload 5, 2) := z_o21 (z_wat (q := 64) (j := 24) zwX11_readings_64 rfl) (z_wat (q := 64) (j := 25) zwX11_readings_64 rfl)
theorem dX11_readings_90 : decode cX11_readings 90 = .ok (.iload 6, 2) := z_o21 (z_wat (q := 64) (j := 26) zwX11_readings_64 rfl) (z_wat (q := 64) (j := 27) zwX11_readings_64 rfl)
theorem dX11_readings_92 : decode cX11_readings 92 = .ok (.invokevirtual 248, 3) := z_o182 (z_wat (q := 64) (j := 28) zwX11_readings_64 rfl) (z_wat (q := 64) (j := 29) zwX11_readings_64 rfl) (z_wat (q := 64) (j := 30) zwX11_readings_64 rfl) rfl
theorem dX11_readings_95 : decode cX11_readings 95 = .ok (.iload 8, 2) := z_o21 (z_wat (q := 64) (j := 31) zwX11_readings_64 rfl) (z_wat (q := 64) (j := 32) zwX11_readings_64 rfl)
theorem zwX11_readings_96 : ((cX11_readings.data.toList.drop 96).take 2).map UInt8.toNat = [8, 172] := by decide +kernel
theorem dX11_readings_97 : decode cX11_readings 97 = .ok (.ireturn, 1) := z_o172 (z_wat (q := 96) (j := 1) zwX11_readings_96 rfl)
theorem zwX11_season_0 : ((cX11_season.data.toList.drop 0).take 34).map UInt8.toNat = [42, 180, 0, 19, 27, 182, 0, 115, 153, 0, 19, 28, 184, 0, 234, 153, 0, 12, 29, 155, 0, 8, 29, 8, 164, 0, 5, 2, 172, 42, 27, 182, 0, 187] := by decide +kernel
theorem dX11_season_0 : decode cX11_season 0 = .ok (.aload_n 0, 1) := z_o42 (z_wat (q := 0) (j := 0) zwX11_season_0 rfl)
theorem dX11_season_1 : decode cX11_season 1 = .ok (.getfield 19, 3) := z_o180 (z_wat (q := 0) (j := 1) zwX11_season_0 rfl) (z_wat (q := 0) (j := 2) zwX11_season_0 rfl) (z_wat (q := 0) (j := 3) zwX11_season_0 rfl) rfl
theorem dX11_season_4 : decode cX11_season 4 = .ok (.iload_n 1, 1) := z_o27 (z_wat (q := 0) (j := 4) zwX11_season_0 rfl)
theorem dX11_season_5 : decode cX11_season 5 = .ok (.invokevirtual 115, 3) := z_o182 (z_wat (q := 0) (j := 5) zwX11_season_0 rfl) (z_wat (q := 0) (j := 6) zwX11_season_0 rfl) (z_wat (q := 0) (j := 7) zwX11_season_0 rfl) rfl
theorem dX11_season_8 : decode cX11_season 8 = .ok (.ifCond .eq 19, 3) := z_o153 (z_wat (q := 0) (j := 8) zwX11_season_0 rfl) (z_wat (q := 0) (j := 9) zwX11_season_0 rfl) (z_wat (q := 0) (j := 10) zwX11_season_0 rfl) rfl
theorem dX11_season_11 : decode cX11_season 11 = .ok (.iload_n 2, 1) := z_o28 (z_wat (q := 0) (j := 11) zwX11_season_0 rfl)
theorem dX11_season_12 : decode cX11_season 12 = .ok (.invokestatic 234, 3) := z_o184 (z_wat (q := 0) (j := 12) zwX11_season_0 rfl) (z_wat (q := 0) (j := 13) zwX11_season_0 rfl) (z_wat (q := 0) (j := 14) zwX11_season_0 rfl) rfl
theorem dX11_season_15 : decode cX11_season 15 = .ok (.ifCond .eq 12, 3) := z_o153 (z_wat (q := 0) (j := 15) zwX11_season_0 rfl) (z_wat (q := 0) (j := 16) zwX11_season_0 rfl) (z_wat (q := 0) (j := 17) zwX11_season_0 rfl) rfl
theorem dX11_season_18 : decode cX11_season 18 = .ok (.iload_n 3, 1) := z_o29 (z_wat (q := 0) (j := 18) zwX11_season_0 rfl)
theorem dX11_season_19 : decode cX11_season 19 = .ok (.ifCond .lt 8, 3) := z_o155 (z_wat (q := 0) (j := 19) zwX11_season_0 rfl) (z_wat (q := 0) (j := 20) zwX11_season_0 rfl) (z_wat (q := 0) (j := 21) zwX11_season_0 rfl) rfl
theorem dX11_season_22 : decode cX11_season 22 = .ok (.iload_n 3, 1) := z_o29 (z_wat (q := 0) (j := 22) zwX11_season_0 rfl)
theorem dX11_season_23 : decode cX11_season 23 = .ok (.iconst 5, 1) := z_o8 (z_wat (q := 0) (j := 23) zwX11_season_0 rfl)
theorem dX11_season_24 : decode cX11_season 24 = .ok (.if_icmp .le 5, 3) := z_o164 (z_wat (q := 0) (j := 24) zwX11_season_0 rfl) (z_wat (q := 0) (j := 25) zwX11_season_0 rfl) (z_wat (q := 0) (j := 26) zwX11_season_0 rfl) rfl
theorem dX11_season_27 : decode cX11_season 27 = .ok (.iconst (-1), 1) := z_o2 (z_wat (q := 0) (j := 27) zwX11_season_0 rfl)
theorem dX11_season_28 : decode cX11_season 28 = .ok (.ireturn, 1) := z_o172 (z_wat (q := 0) (j := 28) zwX11_season_0 rfl)
theorem dX11_season_29 : decode cX11_season 29 = .ok (.aload_n 0, 1) := z_o42 (z_wat (q := 0) (j := 29) zwX11_season_0 rfl)
theorem dX11_season_30 : decode cX11_season 30 = .ok (.iload_n 1, 1) := z_o27 (z_wat (q := 0) (j := 30) zwX11_season_0 rfl)
theorem dX11_season_31 : decode cX11_season 31 = .ok (.invokevirtual 187, 3) := z_o182 (z_wat (q := 0) (j := 31) zwX11_season_0 rfl) (z_wat (q := 0) (j := 32) zwX11_season_0 rfl) (z_wat (q := 0) (j := 33) zwX11_season_0 rfl) rfl
theorem zwX11_season_32 : ((cX11_season.data.toList.drop 32).take 34).map UInt8.toNat = [0, 187, 54, 4, 29, 8, 160, 0, 14, 42, 180, 0, 49, 21, 4, 28, 182, 0, 245, 172, 42, 180, 0, 49, 21, 4, 28, 182, 0, 251, 154, 0, 5, 2] := by decide +kernel
theorem dX11_season_34 : decode cX11_season 34 = .ok (.istore 4, 2) := z_o54 (z_wat (q := 32) (j := 2) zwX11_season_32 rfl) (z_wat (q := 32) (j := 3) zwX11_season_32 rfl)
theorem dX11_season_36 : decode cX11_season 36 = .ok (.iload_n 3, 1) := z_o29 (z_wat (q := 32) (j := 4) zwX11_season_32 rfl)
theorem dX11_season_37 : decode cX11_season 37 = .ok (.iconst 5, 1) := z_o8 (z_wat (q := 32) (j := 5) zwX11_season_32 rfl)
theorem dX11_season_38 : decode cX11_season 38 = .ok (.if_icmp .ne 14, 3) := z_o160 (z_wat (q := 32) (j := 6) zwX11_season_32 rfl) (z_wat (q := 32) (j := 7) zwX11_season_32 rfl) (z_wat (q := 32) (j := 8) zwX11_season_32 rfl) rfl
theorem dX11_season_41 : decode cX11_season 41 = .ok (.aload_n 0, 1) := z_o42 (z_wat (q := 32) (j := 9) zwX11_season_32 rfl)
theorem dX11_season_42 : decode cX11_season 42 = .ok (.getfield 49, 3) := z_o180 (z_wat (q := 32) (j := 10) zwX11_season_32 rfl) (z_wat (q := 32) (j := 11) zwX11_season_32 rfl) (z_wat (q := 32) (j := 12) zwX11_season_32 rfl) rfl
theorem dX11_season_45 : decode cX11_season 45 = .ok (.iload 4, 2) := z_o21 (z_wat (q := 32) (j := 13) zwX11_season_32 rfl) (z_wat (q := 32) (j := 14) zwX11_season_32 rfl)
theorem dX11_season_47 : decode cX11_season 47 = .ok (.iload_n 2, 1) := z_o28 (z_wat (q := 32) (j := 15) zwX11_season_32 rfl)
theorem dX11_season_48 : decode cX11_season 48 = .ok (.invokevirtual 245, 3) := z_o182 (z_wat (q := 32) (j := 16) zwX11_season_32 rfl) (z_wat (q := 32) (j := 17) zwX11_season_32 rfl) (z_wat (q := 32) (j := 18) zwX11_season_32 rfl) rfl
theorem dX11_season_51 : decode cX11_season 51 = .ok (.ireturn, 1) := z_o172 (z_wat (q := 32) (j := 19) zwX11_season_32 rfl)
theorem dX11_season_52 : decode cX11_season 52 = .ok (.aload_n 0, 1) := z_o42 (z_wat (q := 32) (j := 20) zwX11_season_32 rfl)
theorem dX11_season_53 : decode cX11_season 53 = .ok (.getfield 49, 3) := z_o180 (z_wat (q := 32) (j := 21) zwX11_season_32 rfl) (z_wat (q := 32) (j := 22) zwX11_season_32 rfl) (z_wat (q := 32) (j := 23) zwX11_season_32 rfl) rfl
theorem dX11_season_56 : decode cX11_season 56 = .ok (.iload 4, 2) := z_o21 (z_wat (q := 32) (j := 24) zwX11_season_32 rfl) (z_wat (q := 32) (j := 25) zwX11_season_32 rfl)
theorem dX11_season_58 : decode cX11_season 58 = .ok (.iload_n 2, 1) := z_o28 (z_wat (q := 32) (j := 26) zwX11_season_32 rfl)
theorem dX11_season_59 : decode cX11_season 59 = .ok (.invokevirtual 251, 3) := z_o182 (z_wat (q := 32) (j := 27) zwX11_season_32 rfl) (z_wat (q := 32) (j := 28) zwX11_season_32 rfl) (z_wat (q := 32) (j := 29) zwX11_season_32 rfl) rfl
theorem dX11_season_62 : decode cX11_season 62 = .ok (.ifCond .ne 5, 3) := z_o154 (z_wat (q := 32) (j := 30) zwX11_season_32 rfl) (z_wat (q := 32) (j := 31) zwX11_season_32 rfl) (z_wat (q := 32) (j := 32) zwX11_season_32 rfl) rfl
theorem zwX11_season_64 : ((cX11_season.data.toList.drop 64).take 28).map UInt8.toNat = [5, 2, 172, 29, 7, 160, 0, 13, 42, 180, 0, 49, 180, 0, 254, 167, 0, 12, 42, 180, 0, 49, 180, 1, 1, 29, 46, 172] := by decide +kernel
theorem dX11_season_65 : decode cX11_season 65 = .ok (.iconst (-1), 1) := z_o2 (z_wat (q := 64) (j := 1) zwX11_season_64 rfl)
theorem dX11_season_66 : decode cX11_season 66 = .ok (.ireturn, 1) := z_o172 (z_wat (q := 64) (j := 2) zwX11_season_64 rfl)
theorem dX11_season_67 : decode cX11_season 67 = .ok (.iload_n 3, 1) := z_o29 (z_wat (q := 64) (j := 3) zwX11_season_64 rfl)
theorem dX11_season_68 : decode cX11_season 68 = .ok (.iconst 4, 1) := z_o7 (z_wat (q := 64) (j := 4) zwX11_season_64 rfl)
theorem dX11_season_69 : decode cX11_season 69 = .ok (.if_icmp .ne 13, 3) := z_o160 (z_wat (q := 64) (j := 5) zwX11_season_64 rfl) (z_wat (q := 64) (j := 6) zwX11_season_64 rfl) (z_wat (q := 64) (j := 7) zwX11_season_64 rfl) rfl
theorem dX11_season_72 : decode cX11_season 72 = .ok (.aload_n 0, 1) := z_o42 (z_wat (q := 64) (j := 8) zwX11_season_64 rfl)
theorem dX11_season_73 : decode cX11_season 73 = .ok (.getfield 49, 3) := z_o180 (z_wat (q := 64) (j := 9) zwX11_season_64 rfl) (z_wat (q := 64) (j := 10) zwX11_season_64 rfl) (z_wat (q := 64) (j := 11) zwX11_season_64 rfl) rfl
theorem dX11_season_76 : decode cX11_season 76 = .ok (.getfield 254, 3) := z_o180 (z_wat (q := 64) (j := 12) zwX11_season_64 rfl) (z_wat (q := 64) (j := 13) zwX11_season_64 rfl) (z_wat (q := 64) (j := 14) zwX11_season_64 rfl) rfl
theorem dX11_season_79 : decode cX11_season 79 = .ok (.goto 12, 3) := z_o167 (z_wat (q := 64) (j := 15) zwX11_season_64 rfl) (z_wat (q := 64) (j := 16) zwX11_season_64 rfl) (z_wat (q := 64) (j := 17) zwX11_season_64 rfl) rfl
theorem dX11_season_82 : decode cX11_season 82 = .ok (.aload_n 0, 1) := z_o42 (z_wat (q := 64) (j := 18) zwX11_season_64 rfl)
theorem dX11_season_83 : decode cX11_season 83 = .ok (.getfield 49, 3) := z_o180 (z_wat (q := 64) (j := 19) zwX11_season_64 rfl) (z_wat (q := 64) (j := 20) zwX11_season_64 rfl) (z_wat (q := 64) (j := 21) zwX11_season_64 rfl) rfl
theorem dX11_season_86 : decode cX11_season 86 = .ok (.getfield 257, 3) := z_o180 (z_wat (q := 64) (j := 22) zwX11_season_64 rfl) (z_wat (q := 64) (j := 23) zwX11_season_64 rfl) (z_wat (q := 64) (j := 24) zwX11_season_64 rfl) rfl
theorem dX11_season_89 : decode cX11_season 89 = .ok (.iload_n 3, 1) := z_o29 (z_wat (q := 64) (j := 25) zwX11_season_64 rfl)
theorem dX11_season_90 : decode cX11_season 90 = .ok (.iaload, 1) := z_o46 (z_wat (q := 64) (j := 26) zwX11_season_64 rfl)
theorem dX11_season_91 : decode cX11_season 91 = .ok (.ireturn, 1) := z_o172 (z_wat (q := 64) (j := 27) zwX11_season_64 rfl)
theorem zwX11_stay_0 : ((cX11_stay.data.toList.drop 0).take 28).map UInt8.toNat = [42, 180, 0, 19, 27, 182, 0, 115, 153, 0, 18, 42, 180, 0, 49, 42, 27, 182, 0, 187, 182, 1, 4, 167, 0, 4, 2, 172] := by decide +kernel
theorem dX11_stay_0 : decode cX11_stay 0 = .ok (.aload_n 0, 1) := z_o42 (z_wat (q := 0) (j := 0) zwX11_stay_0 rfl)
theorem dX11_stay_1 : decode cX11_stay 1 = .ok (.getfield 19, 3) := z_o180 (z_wat (q := 0) (j := 1) zwX11_stay_0 rfl) (z_wat (q := 0) (j := 2) zwX11_stay_0 rfl) (z_wat (q := 0) (j := 3) zwX11_stay_0 rfl) rfl
theorem dX11_stay_4 : decode cX11_stay 4 = .ok (.iload_n 1, 1) := z_o27 (z_wat (q := 0) (j := 4) zwX11_stay_0 rfl)
theorem dX11_stay_5 : decode cX11_stay 5 = .ok (.invokevirtual 115, 3) := z_o182 (z_wat (q := 0) (j := 5) zwX11_stay_0 rfl) (z_wat (q := 0) (j := 6) zwX11_stay_0 rfl) (z_wat (q := 0) (j := 7) zwX11_stay_0 rfl) rfl
theorem dX11_stay_8 : decode cX11_stay 8 = .ok (.ifCond .eq 18, 3) := z_o153 (z_wat (q := 0) (j := 8) zwX11_stay_0 rfl) (z_wat (q := 0) (j := 9) zwX11_stay_0 rfl) (z_wat (q := 0) (j := 10) zwX11_stay_0 rfl) rfl
theorem dX11_stay_11 : decode cX11_stay 11 = .ok (.aload_n 0, 1) := z_o42 (z_wat (q := 0) (j := 11) zwX11_stay_0 rfl)
theorem dX11_stay_12 : decode cX11_stay 12 = .ok (.getfield 49, 3) := z_o180 (z_wat (q := 0) (j := 12) zwX11_stay_0 rfl) (z_wat (q := 0) (j := 13) zwX11_stay_0 rfl) (z_wat (q := 0) (j := 14) zwX11_stay_0 rfl) rfl
theorem dX11_stay_15 : decode cX11_stay 15 = .ok (.aload_n 0, 1) := z_o42 (z_wat (q := 0) (j := 15) zwX11_stay_0 rfl)
theorem dX11_stay_16 : decode cX11_stay 16 = .ok (.iload_n 1, 1) := z_o27 (z_wat (q := 0) (j := 16) zwX11_stay_0 rfl)
theorem dX11_stay_17 : decode cX11_stay 17 = .ok (.invokevirtual 187, 3) := z_o182 (z_wat (q := 0) (j := 17) zwX11_stay_0 rfl) (z_wat (q := 0) (j := 18) zwX11_stay_0 rfl) (z_wat (q := 0) (j := 19) zwX11_stay_0 rfl) rfl
theorem dX11_stay_20 : decode cX11_stay 20 = .ok (.invokevirtual 260, 3) := z_o182 (z_wat (q := 0) (j := 20) zwX11_stay_0 rfl) (z_wat (q := 0) (j := 21) zwX11_stay_0 rfl) (z_wat (q := 0) (j := 22) zwX11_stay_0 rfl) rfl
theorem dX11_stay_23 : decode cX11_stay 23 = .ok (.goto 4, 3) := z_o167 (z_wat (q := 0) (j := 23) zwX11_stay_0 rfl) (z_wat (q := 0) (j := 24) zwX11_stay_0 rfl) (z_wat (q := 0) (j := 25) zwX11_stay_0 rfl) rfl
theorem dX11_stay_26 : decode cX11_stay 26 = .ok (.iconst (-1), 1) := z_o2 (z_wat (q := 0) (j := 26) zwX11_stay_0 rfl)
theorem dX11_stay_27 : decode cX11_stay 27 = .ok (.ireturn, 1) := z_o172 (z_wat (q := 0) (j := 27) zwX11_stay_0 rfl)
