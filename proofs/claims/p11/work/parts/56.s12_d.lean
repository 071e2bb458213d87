theorem zwX11_cause_0 : ((cX11_cause.data.toList.drop 0).take 34).map UInt8.toNat = [27, 155, 0, 28, 27, 42, 180, 0, 74, 180, 0, 106, 180, 0, 110, 162, 0, 14, 42, 180, 0, 19, 28, 182, 0, 115, 154, 0, 7, 20, 1, 16, 173, 42] := by decide +kernel
theorem dX11_cause_0 : decode cX11_cause 0 = .ok (.iload_n 1, 1) := z_o27 (z_wat (q := 0) (j := 0) zwX11_cause_0 rfl)
theorem dX11_cause_1 : decode cX11_cause 1 = .ok (.ifCond .lt 28, 3) := z_o155 (z_wat (q := 0) (j := 1) zwX11_cause_0 rfl) (z_wat (q := 0) (j := 2) zwX11_cause_0 rfl) (z_wat (q := 0) (j := 3) zwX11_cause_0 rfl) rfl
theorem dX11_cause_4 : decode cX11_cause 4 = .ok (.iload_n 1, 1) := z_o27 (z_wat (q := 0) (j := 4) zwX11_cause_0 rfl)
theorem dX11_cause_5 : decode cX11_cause 5 = .ok (.aload_n 0, 1) := z_o42 (z_wat (q := 0) (j := 5) zwX11_cause_0 rfl)
theorem dX11_cause_6 : decode cX11_cause 6 = .ok (.getfield 74, 3) := z_o180 (z_wat (q := 0) (j := 6) zwX11_cause_0 rfl) (z_wat (q := 0) (j := 7) zwX11_cause_0 rfl) (z_wat (q := 0) (j := 8) zwX11_cause_0 rfl) rfl
theorem dX11_cause_9 : decode cX11_cause 9 = .ok (.getfield 106, 3) := z_o180 (z_wat (q := 0) (j := 9) zwX11_cause_0 rfl) (z_wat (q := 0) (j := 10) zwX11_cause_0 rfl) (z_wat (q := 0) (j := 11) zwX11_cause_0 rfl) rfl
theorem dX11_cause_12 : decode cX11_cause 12 = .ok (.getfield 110, 3) := z_o180 (z_wat (q := 0) (j := 12) zwX11_cause_0 rfl) (z_wat (q := 0) (j := 13) zwX11_cause_0 rfl) (z_wat (q := 0) (j := 14) zwX11_cause_0 rfl) rfl
theorem dX11_cause_15 : decode cX11_cause 15 = .ok (.if_icmp .ge 14, 3) := z_o162 (z_wat (q := 0) (j := 15) zwX11_cause_0 rfl) (z_wat (q := 0) (j := 16) zwX11_cause_0 rfl) (z_wat (q := 0) (j := 17) zwX11_cause_0 rfl) rfl
theorem dX11_cause_18 : decode cX11_cause 18 = .ok (.aload_n 0, 1) := z_o42 (z_wat (q := 0) (j := 18) zwX11_cause_0 rfl)
theorem dX11_cause_19 : decode cX11_cause 19 = .ok (.getfield 19, 3) := z_o180 (z_wat (q := 0) (j := 19) zwX11_cause_0 rfl) (z_wat (q := 0) (j := 20) zwX11_cause_0 rfl) (z_wat (q := 0) (j := 21) zwX11_cause_0 rfl) rfl
theorem dX11_cause_22 : decode cX11_cause 22 = .ok (.iload_n 2, 1) := z_o28 (z_wat (q := 0) (j := 22) zwX11_cause_0 rfl)
theorem dX11_cause_23 : decode cX11_cause 23 = .ok (.invokevirtual 115, 3) := z_o182 (z_wat (q := 0) (j := 23) zwX11_cause_0 rfl) (z_wat (q := 0) (j := 24) zwX11_cause_0 rfl) (z_wat (q := 0) (j := 25) zwX11_cause_0 rfl) rfl
theorem dX11_cause_26 : decode cX11_cause 26 = .ok (.ifCond .ne 7, 3) := z_o154 (z_wat (q := 0) (j := 26) zwX11_cause_0 rfl) (z_wat (q := 0) (j := 27) zwX11_cause_0 rfl) (z_wat (q := 0) (j := 28) zwX11_cause_0 rfl) rfl
theorem dX11_cause_29 : decode cX11_cause 29 = .ok (.ldc2_w 272, 3) := z_o20 (z_wat (q := 0) (j := 29) zwX11_cause_0 rfl) (z_wat (q := 0) (j := 30) zwX11_cause_0 rfl) (z_wat (q := 0) (j := 31) zwX11_cause_0 rfl) rfl
theorem zwX11_cause_32 : ((cX11_cause.data.toList.drop 32).take 34).map UInt8.toNat = [173, 42, 180, 0, 28, 42, 180, 0, 19, 180, 0, 121, 182, 0, 143, 42, 180, 0, 83, 42, 180, 0, 28, 180, 0, 146, 28, 46, 182, 1, 18, 42, 180, 0] := by decide +kernel
theorem dX11_cause_32 : decode cX11_cause 32 = .ok (.lreturn, 1) := z_o173 (z_wat (q := 32) (j := 0) zwX11_cause_32 rfl)
theorem dX11_cause_33 : decode cX11_cause 33 = .ok (.aload_n 0, 1) := z_o42 (z_wat (q := 32) (j := 1) zwX11_cause_32 rfl)
theorem dX11_cause_34 : decode cX11_cause 34 = .ok (.getfield 28, 3) := z_o180 (z_wat (q := 32) (j := 2) zwX11_cause_32 rfl) (z_wat (q := 32) (j := 3) zwX11_cause_32 rfl) (z_wat (q := 32) (j := 4) zwX11_cause_32 rfl) rfl
theorem dX11_cause_37 : decode cX11_cause 37 = .ok (.aload_n 0, 1) := z_o42 (z_wat (q := 32) (j := 5) zwX11_cause_32 rfl)
theorem dX11_cause_38 : decode cX11_cause 38 = .ok (.getfield 19, 3) := z_o180 (z_wat (q := 32) (j := 6) zwX11_cause_32 rfl) (z_wat (q := 32) (j := 7) zwX11_cause_32 rfl) (z_wat (q := 32) (j := 8) zwX11_cause_32 rfl) rfl
theorem dX11_cause_41 : decode cX11_cause 41 = .ok (.getfield 121, 3) := z_o180 (z_wat (q := 32) (j := 9) zwX11_cause_32 rfl) (z_wat (q := 32) (j := 10) zwX11_cause_32 rfl) (z_wat (q := 32) (j := 11) zwX11_cause_32 rfl) rfl
theorem dX11_cause_44 : decode cX11_cause 44 = .ok (.invokevirtual 143, 3) := z_o182 (z_wat (q := 32) (j := 12) zwX11_cause_32 rfl) (z_wat (q := 32) (j := 13) zwX11_cause_32 rfl) (z_wat (q := 32) (j := 14) zwX11_cause_32 rfl) rfl
theorem dX11_cause_47 : decode cX11_cause 47 = .ok (.aload_n 0, 1) := z_o42 (z_wat (q := 32) (j := 15) zwX11_cause_32 rfl)
theorem dX11_cause_48 : decode cX11_cause 48 = .ok (.getfield 83, 3) := z_o180 (z_wat (q := 32) (j := 16) zwX11_cause_32 rfl) (z_wat (q := 32) (j := 17) zwX11_cause_32 rfl) (z_wat (q := 32) (j := 18) zwX11_cause_32 rfl) rfl
theorem dX11_cause_51 : decode cX11_cause 51 = .ok (.aload_n 0, 1) := z_o42 (z_wat (q := 32) (j := 19) zwX11_cause_32 rfl)
theorem dX11_cause_52 : decode cX11_cause 52 = .ok (.getfield 28, 3) := z_o180 (z_wat (q := 32) (j := 20) zwX11_cause_32 rfl) (z_wat (q := 32) (j := 21) zwX11_cause_32 rfl) (z_wat (q := 32) (j := 22) zwX11_cause_32 rfl) rfl
theorem dX11_cause_55 : decode cX11_cause 55 = .ok (.getfield 146, 3) := z_o180 (z_wat (q := 32) (j := 23) zwX11_cause_32 rfl) (z_wat (q := 32) (j := 24) zwX11_cause_32 rfl) (z_wat (q := 32) (j := 25) zwX11_cause_32 rfl) rfl
theorem dX11_cause_58 : decode cX11_cause 58 = .ok (.iload_n 2, 1) := z_o28 (z_wat (q := 32) (j := 26) zwX11_cause_32 rfl)
theorem dX11_cause_59 : decode cX11_cause 59 = .ok (.iaload, 1) := z_o46 (z_wat (q := 32) (j := 27) zwX11_cause_32 rfl)
theorem dX11_cause_60 : decode cX11_cause 60 = .ok (.invokevirtual 274, 3) := z_o182 (z_wat (q := 32) (j := 28) zwX11_cause_32 rfl) (z_wat (q := 32) (j := 29) zwX11_cause_32 rfl) (z_wat (q := 32) (j := 30) zwX11_cause_32 rfl) rfl
theorem dX11_cause_63 : decode cX11_cause 63 = .ok (.aload_n 0, 1) := z_o42 (z_wat (q := 32) (j := 31) zwX11_cause_32 rfl)
theorem zwX11_cause_64 : ((cX11_cause.data.toList.drop 64).take 15).map UInt8.toNat = [180, 0, 83, 42, 180, 0, 74, 180, 0, 106, 27, 182, 1, 21, 173] := by decide +kernel
theorem dX11_cause_64 : decode cX11_cause 64 = .ok (.getfield 83, 3) := z_o180 (z_wat (q := 64) (j := 0) zwX11_cause_64 rfl) (z_wat (q := 64) (j := 1) zwX11_cause_64 rfl) (z_wat (q := 64) (j := 2) zwX11_cause_64 rfl) rfl
theorem dX11_cause_67 : decode cX11_cause 67 = .ok (.aload_n 0, 1) := z_o42 (z_wat (q := 64) (j := 3) zwX11_cause_64 rfl)
theorem dX11_cause_68 : decode cX11_cause 68 = .ok (.getfield 74, 3) := z_o180 (z_wat (q := 64) (j := 4) zwX11_cause_64 rfl) (z_wat (q := 64) (j := 5) zwX11_cause_64 rfl) (z_wat (q := 64) (j := 6) zwX11_cause_64 rfl) rfl
theorem dX11_cause_71 : decode cX11_cause 71 = .ok (.getfield 106, 3) := z_o180 (z_wat (q := 64) (j := 7) zwX11_cause_64 rfl) (z_wat (q := 64) (j := 8) zwX11_cause_64 rfl) (z_wat (q := 64) (j := 9) zwX11_cause_64 rfl) rfl
theorem dX11_cause_74 : decode cX11_cause 74 = .ok (.iload_n 1, 1) := z_o27 (z_wat (q := 64) (j := 10) zwX11_cause_64 rfl)
theorem dX11_cause_75 : decode cX11_cause 75 = .ok (.invokevirtual 277, 3) := z_o182 (z_wat (q := 64) (j := 11) zwX11_cause_64 rfl) (z_wat (q := 64) (j := 12) zwX11_cause_64 rfl) (z_wat (q := 64) (j := 13) zwX11_cause_64 rfl) rfl
theorem dX11_cause_78 : decode cX11_cause 78 = .ok (.lreturn, 1) := z_o173 (z_wat (q := 64) (j := 14) zwX11_cause_64 rfl)
theorem zwX11_count_0 : ((cX11_count.data.toList.drop 0).take 34).map UInt8.toNat = [27, 170, 0, 0, 0, 0, 0, 131, 0, 0, 0, 0, 0, 0, 0, 7, 0, 0, 0, 47, 0, 0, 0, 69, 0, 0, 0, 77, 0, 0, 0, 85, 0, 0] := by decide +kernel
theorem dX11_count_0 : decode cX11_count 0 = .ok (.iload_n 1, 1) := z_o27 (z_wat (q := 0) (j := 0) zwX11_count_0 rfl)
theorem dX11_count_1 : decode cX11_count 1 = .ok (.tableswitch 131 0 7 #[47, 69, 77, 85, 93, 101, 109, 120], 47) := by decide +kernel
theorem zwX11_count_32 : ((cX11_count.data.toList.drop 32).take 34).map UInt8.toNat = [0, 0, 0, 93, 0, 0, 0, 101, 0, 0, 0, 109, 0, 0, 0, 120, 42, 180, 0, 28, 42, 180, 0, 19, 180, 0, 121, 182, 0, 143, 42, 180, 0, 28] := by decide +kernel
theorem dX11_count_48 : decode cX11_count 48 = .ok (.aload_n 0, 1) := z_o42 (z_wat (q := 32) (j := 16) zwX11_count_32 rfl)
theorem dX11_count_49 : decode cX11_count 49 = .ok (.getfield 28, 3) := z_o180 (z_wat (q := 32) (j := 17) zwX11_count_32 rfl) (z_wat (q := 32) (j := 18) zwX11_count_32 rfl) (z_wat (q := 32) (j := 19) zwX11_count_32 rfl) rfl
theorem dX11_count_52 : decode cX11_count 52 = .ok (.aload_n 0, 1) := z_o42 (z_wat (q := 32) (j := 20) zwX11_count_32 rfl)
theorem dX11_count_53 : decode cX11_count 53 = .ok (.getfield 19, 3) := z_o180 (z_wat (q := 32) (j := 21) zwX11_count_32 rfl) (z_wat (q := 32) (j := 22) zwX11_count_32 rfl) (z_wat (q := 32) (j := 23) zwX11_count_32 rfl) rfl
theorem dX11_count_56 : decode cX11_count 56 = .ok (.getfield 121, 3) := z_o180 (z_wat (q := 32) (j := 24) zwX11_count_32 rfl) (z_wat (q := 32) (j := 25) zwX11_count_32 rfl) (z_wat (q := 32) (j := 26) zwX11_count_32 rfl) rfl
theorem dX11_count_59 : decode cX11_count 59 = .ok (.invokevirtual 143, 3) := z_o182 (z_wat (q := 32) (j := 27) zwX11_count_32 rfl) (z_wat (q := 32) (j := 28) zwX11_count_32 rfl) (z_wat (q := 32) (j := 29) zwX11_count_32 rfl) rfl
theorem dX11_count_62 : decode cX11_count 62 = .ok (.aload_n 0, 1) := z_o42 (z_wat (q := 32) (j := 30) zwX11_count_32 rfl)
theorem dX11_count_63 : decode cX11_count 63 = .ok (.getfield 28, 3) := z_o180 (z_wat (q := 32) (j := 31) zwX11_count_32 rfl) (z_wat (q := 32) (j := 32) zwX11_count_32 rfl) (z_wat (q := 32) (j := 33) zwX11_count_32 rfl) rfl
theorem zwX11_count_64 : ((cX11_count.data.toList.drop 64).take 34).map UInt8.toNat = [0, 28, 182, 1, 25, 172, 42, 180, 0, 19, 180, 0, 137, 172, 42, 180, 0, 19, 180, 0, 121, 172, 42, 180, 0, 35, 180, 0, 181, 172, 42, 180, 0, 42] := by decide +kernel
theorem dX11_count_66 : decode cX11_count 66 = .ok (.invokevirtual 281, 3) := z_o182 (z_wat (q := 64) (j := 2) zwX11_count_64 rfl) (z_wat (q := 64) (j := 3) zwX11_count_64 rfl) (z_wat (q := 64) (j := 4) zwX11_count_64 rfl) rfl
theorem dX11_count_69 : decode cX11_count 69 = .ok (.ireturn, 1) := z_o172 (z_wat (q := 64) (j := 5) zwX11_count_64 rfl)
theorem dX11_count_70 : decode cX11_count 70 = .ok (.aload_n 0, 1) := z_o42 (z_wat (q := 64) (j := 6) zwX11_count_64 rfl)
theorem dX11_count_71 : decode cX11_count 71 = .ok (.getfield 19, 3) := z_o180 (z_wat (q := 64) (j := 7) zwX11_count_64 rfl) (z_wat (q := 64) (j := 8) zwX11_count_64 rfl) (z_wat (q := 64) (j := 9) zwX11_count_64 rfl) rfl
theorem dX11_count_74 : decode cX11_count 74 = .ok (.getfield 137, 3) := z_o180 (z_wat (q := 64) (j := 10) zwX11_count_64 rfl) (z_wat (q := 64) (j := 11) zwX11_count_64 rfl) (z_wat (q := 64) (j := 12) zwX11_count_64 rfl) rfl
theorem dX11_count_77 : decode cX11_count 77 = .ok (.ireturn, 1) := z_o172 (z_wat (q := 64) (j := 13) zwX11_count_64 rfl)
theorem dX11_count_78 : decode cX11_count 78 = .ok (.aload_n 0, 1) := z_o42 (z_wat (q := 64) (j := 14) zwX11_count_64 rfl)
theorem dX11_count_79 : decode cX11_count 79 = .ok (.getfield 19, 3) := z_o180 (z_wat (q := 64) (j := 15) zwX11_count_64 rfl) (z_wat (q := 64) (j := 16) zwX11_count_64 rfl) (z_wat (q := 64) (j := 17) zwX11_count_64 rfl) rfl
theorem dX11_count_82 : decode cX11_count 82 = .ok (.getfield 121, 3) := z_o180 (z_wat (q := 64) (j := 18) zwX11_count_64 rfl) (z_wat (q := 64) (j := 19) zwX11_count_64 rfl) (z_wat (q := 64) (j := 20) zwX11_count_64 rfl) rfl
theorem dX11_count_85 : decode cX11_count 85 = .ok (.ireturn, 1) := z_o172 (z_wat (q := 64) (j := 21) zwX11_count_64 rfl)
theorem dX11_count_86 : decode cX11_count 86 = .ok (.aload_n 0, 1) := z_o42 (z_wat (q := 64) (j := 22) zwX11_count_64 rfl)
theorem dX11_count_87 : decode cX11_count 87 = .ok (.getfield 35, 3) := z_o180 (z_wat (q := 64) (j := 23) zwX11_count_64 rfl) (z_wat (q := 64) (j := 24) zwX11_count_64 rfl) (z_wat (q := 64) (j := 25) zwX11_count_64 rfl) rfl
theorem dX11_count_90 : decode cX11_count 90 = .ok (.getfield 181, 3) := z_o180 (z_wat (q := 64) (j := 26) zwX11_count_64 rfl) (z_wat (q := 64) (j := 27) zwX11_count_64 rfl) (z_wat (q := 64) (j := 28) zwX11_count_64 rfl) rfl
theorem dX11_count_93 : decode cX11_count 93 = .ok (.ireturn, 1) := z_o172 (z_wat (q := 64) (j := 29) zwX11_count_64 rfl)
theorem dX11_count_94 : decode cX11_count 94 = .ok (.aload_n 0, 1) := z_o42 (z_wat (q := 64) (j := 30) zwX11_count_64 rfl)
theorem dX11_count_95 : decode cX11_count 95 = .ok (.getfield 42, 3) := z_o180 (z_wat (q := 64) (j := 31) zwX11_count_64 rfl) (z_wat (q := 64) (j := 32) zwX11_count_64 rfl) (z_wat (q := 64) (j := 33) zwX11_count_64 rfl) rfl
theorem zwX11_count_96 : ((cX11_count.data.toList.drop 96).take 34).map UInt8.toNat = [0, 42, 180, 1, 29, 172, 42, 180, 0, 56, 180, 1, 32, 172, 42, 180, 0, 74, 180, 0, 106, 180, 0, 110, 172, 42, 180, 0, 74, 180, 0, 106, 180, 1] := by decide +kernel
theorem dX11_count_98 : decode cX11_count 98 = .ok (.getfield 285, 3) := z_o180 (z_wat (q := 96) (j := 2) zwX11_count_96 rfl) (z_wat (q := 96) (j := 3) zwX11_count_96 rfl) (z_wat (q := 96) (j := 4) zwX11_count_96 rfl) rfl
theorem dX11_count_101 : decode cX11_count 101 = .ok (.ireturn, 1) := z_o172 (z_wat (q := 96) (j := 5) zwX11_count_96 rfl)
theorem dX11_count_102 : decode cX11_count 102 = .ok (.aload_n 0, 1) := z_o42 (z_wat (q := 96) (j := 6) zwX11_count_96 rfl)
theorem dX11_count_103 : decode cX11_count 103 = .ok (.getfield 56, 3) := z_o180 (z_wat (q := 96) (j := 7) zwX11_count_96 rfl) (z_wat (q := 96) (j := 8) zwX11_count_96 rfl) (z_wat (q := 96) (j := 9) zwX11_count_96 rfl) rfl
theorem dX11_count_106 : decode cX11_count 106 = .ok (.getfield 288, 3) := z_o180 (z_wat (q := 96) (j := 10) zwX11_count_96 rfl) (z_wat (q := 96) (j := 11) zwX11_count_96 rfl) (z_wat (q := 96) (j := 12) zwX11_count_96 rfl) rfl
theorem dX11_count_109 : decode cX11_count 109 = .ok (.ireturn, 1) := z_o172 (z_wat (q := 96) (j := 13) zwX11_count_96 rfl)
theorem dX11_count_110 : decode cX11_count 110 = .ok (.aload_n 0, 1) := z_o42 (z_wat (q := 96) (j := 14) zwX11_count_96 rfl)
theorem dX11_count_111 : decode cX11_count 111 = .ok (.getfield 74, 3) := z_o180 (z_wat (q := 96) (j := 15) zwX11_count_96 rfl) (z_wat (q := 96) (j := 16) zwX11_count_96 rfl) (z_wat (q := 96) (j := 17) zwX11_count_96 rfl) rfl
theorem dX11_count_114 : decode cX11_count 114 = .ok (.getfield 106, 3) := z_o180 (z_wat (q := 96) (j := 18) zwX11_count_96 rfl) (z_wat (q := 96) (j := 19) zwX11_count_96 rfl) (z_wat (q := 96) (j := 20) zwX11_count_96 rfl) rfl
theorem dX11_count_117 : decode cX11_count 117 = .ok (.getfield 110, 3) := z_o180 (z_wat (q := 96) (j := 21) zwX11_count_96 rfl) (z_wat (q := 96) (j := 22) zwX11_count_96 rfl) (z_wat (q := 96) (j := 23) zwX11_count_96 rfl) rfl
theorem dX11_count_120 : decode cX11_count 120 = .ok (.ireturn, 1) := z_o172 (z_wat (q := 96) (j := 24) zwX11_count_96 rfl)
theorem dX11_count_121 : decode cX11_count 121 = .ok (.aload_n 0, 1) := z_o42 (z_wat (q := 96) (j := 25) zwX11_count_96 rfl)
theorem dX11_count_122 : decode cX11_count 122 = .ok (.getfield 74, 3) := z_o180 (z_wat (q := 96) (j := 26) zwX11_count_96 rfl) (z_wat (q := 96) (j := 27) zwX11_count_96 rfl) (z_wat (q := 96) (j := 28) zwX11_count_96 rfl) rfl
theorem dX11_count_125 : decode cX11_count 125 = .ok (.getfield 106, 3) := z_o180 (z_wat (q := 96) (j := 29) zwX11_count_96 rfl) (z_wat (q := 96) (j := 30) zwX11_count_96 rfl) (z_wat (q := 96) (j := 31) zwX11_count_96 rfl) rfl
theorem zwX11_count_128 : ((cX11_count.data.toList.drop 128).take 15).map UInt8.toNat = [180, 1, 35, 172, 187, 1, 38, 89, 19, 1, 40, 183, 1, 42, 191] := by decide +kernel
theorem dX11_count_128 : decode cX11_count 128 = .ok (.getfield 291, 3) := z_o180 (z_wat (q := 128) (j := 0) zwX11_count_128 rfl) (z_wat (q := 128) (j := 1) zwX11_count_128 rfl) (z_wat (q := 128) (j := 2) zwX11_count_128 rfl) rfl
theorem dX11_count_131 : decode cX11_count 131 = .ok (.ireturn, 1) := z_o172 (z_wat (q := 128) (j := 3) zwX11_count_128 rfl)
theorem zwX11_why_0 : ((cX11_why.data.toList.drop 0).take 34).map UInt8.toNat = [42, 180, 0, 19, 27, 182, 0, 115, 154, 0, 5, 2, 172, 42, 180, 0, 28, 42, 180, 0, 19, 180, 0, 121, 182, 0, 143, 42, 180, 0, 83, 42, 180, 0] := by decide +kernel
theorem dX11_why_0 : decode cX11_why 0 = .ok (.aload_n 0, 1) := z_o42 (z_wat (q := 0) (j := 0) zwX11_why_0 rfl)
theorem dX11_why_1 : decode cX11_why 1 = .ok (.getfield 19, 3) := z_o180 (z_wat (q := 0) (j := 1) zwX11_why_0 rfl) (z_wat (q := 0) (j := 2) zwX11_why_0 rfl) (z_wat (q := 0) (j := 3) zwX11_why_0 rfl) rfl
theorem dX11_why_4 : decode cX11_why 4 = .ok (.iload_n 1, 1) := z_o27 (z_wat (q := 0) (j := 4) zwX11_why_0 rfl)
theorem dX11_why_5 : decode cX11_why 5 = .ok (.invokevirtual 115, 3) := z_o182 (z_wat (q := 0) (j := 5) zwX11_why_0 rfl) (z_wat (q := 0) (j := 6) zwX11_why_0 rfl) (z_wat (q := 0) (j := 7) zwX11_why_0 rfl) rfl
theorem dX11_why_8 : decode cX11_why 8 = .ok (.ifCond .ne 5, 3) := z_o154 (z_wat (q := 0) (j := 8) zwX11_why_0 rfl) (z_wat (q := 0) (j := 9) zwX11_why_0 rfl) (z_wat (q := 0) (j := 10) zwX11_why_0 rfl) rfl
theorem dX11_why_11 : decode cX11_why 11 = .ok (.iconst (-1), 1) := z_o2 (z_wat (q := 0) (j := 11) zwX11_why_0 rfl)
theorem dX11_why_12 : decode cX11_why 12 = .ok (.ireturn, 1) := z_o172 (z_wat (q := 0) (j := 12) zwX11_why_0 rfl)
theorem dX11_why_13 : decode cX11_why 13 = .ok (.aload_n 0, 1) := z_o42 (z_wat (q := 0) (j := 13) zwX11_why_0 rfl)
theorem dX11_why_14 : decode cX11_why 14 = .ok (.getfield 28, 3) := z_o180 (z_wat (q := 0) (j := 14) zwX11_why_0 rfl) (z_wat (q := 0) (j := 15) zwX11_why_0 rfl) (z_wat (q := 0) (j := 16) zwX11_why_0 rfl) rfl
theorem dX11_why_17 : decode cX11_why 17 = .ok (.aload_n 0, 1) := z_o42 (z_wat (q := 0) (j := 17) zwX11_why_0 rfl)
theorem dX11_why_18 : decode cX11_why 18 = .ok (.getfield 19, 3) := z_o180 (z_wat (q := 0) (j := 18) zwX11_why_0 rfl) (z_wat (q := 0) (j := 19) zwX11_why_0 rfl) (z_wat (q := 0) (j := 20) zwX11_why_0 rfl) rfl
theorem dX11_why_21 : decode cX11_why 21 = .ok (.getfield 121, 3) := z_o180 (z_wat (q := 0) (j := 21) zwX11_why_0 rfl) (z_wat (q := 0) (j := 22) zwX11_why_0 rfl) (z_wat (q := 0) (j := 23) zwX11_why_0 rfl) rfl
theorem dX11_why_24 : decode cX11_why 24 = .ok (.invokevirtual 143, 3) := z_o182 (z_wat (q := 0) (j := 24) zwX11_why_0 rfl) (z_wat (q := 0) (j := 25) zwX11_why_0 rfl) (z_wat (q := 0) (j := 26) zwX11_why_0 rfl) rfl
theorem dX11_why_27 : decode cX11_why 27 = .ok (.aload_n 0, 1) := z_o42 (z_wat (q := 0) (j := 27) zwX11_why_0 rfl)
theorem dX11_why_28 : decode cX11_why 28 = .ok (.getfield 83, 3) := z_o180 (z_wat (q := 0) (j := 28) zwX11_why_0 rfl) (z_wat (q := 0) (j := 29) zwX11_why_0 rfl) (z_wat (q := 0) (j := 30) zwX11_why_0 rfl) rfl
theorem dX11_why_31 : decode cX11_why 31 = .ok (.aload_n 0, 1) := z_o42 (z_wat (q := 0) (j := 31) zwX11_why_0 rfl)
theorem zwX11_why_32 : ((cX11_why.data.toList.drop 32).take 34).map UInt8.toNat = [180, 0, 28, 180, 0, 146, 27, 46, 182, 1, 18, 2, 61, 3, 62, 29, 42, 180, 0, 74, 180, 0, 106, 180, 0, 110, 162, 0, 51, 42, 180, 0, 83, 42] := by decide +kernel
theorem dX11_why_32 : decode cX11_why 32 = .ok (.getfield 28, 3) := z_o180 (z_wat (q := 32) (j := 0) zwX11_why_32 rfl) (z_wat (q := 32) (j := 1) zwX11_why_32 rfl) (z_wat (q := 32) (j := 2) zwX11_why_32 rfl) rfl
theorem dX11_why_35 : decode cX11_why 35 = .ok (.getfield 146, 3) := z_o180 (z_wat (q := 32) (j := 3) zwX11_why_32 rfl) (z_wat (q := 32) (j := 4) zwX11_why_32 rfl) (z_wat (q := 32) (j := 5) zwX11_why_32 rfl) rfl
theorem dX11_why_38 : decode cX11_why 38 = .ok (.iload_n 1, 1) := z_o27 (z_wat (q := 32) (j := 6) zwX11_why_32 rfl)
theorem dX11_why_39 : decode cX11_why 39 = .ok (.iaload, 1) := z_o46 (z_wat (q := 32) (j := 7) zwX11_why_32 rfl)
theorem dX11_why_40 : decode cX11_why 40 = .ok (.invokevirtual 274, 3) := z_o182 (z_wat (q := 32) (j := 8) zwX11_why_32 rfl) (z_wat (q := 32) (j := 9) zwX11_why_32 rfl) (z_wat (q := 32) (j := 10) zwX11_why_32 rfl) rfl
theorem dX11_why_43 : decode cX11_why 43 = .ok (.iconst (-1), 1) := z_o2 (z_wat (q := 32) (j := 11) zwX11_why_32 rfl)
theorem dX11_why_44 : decode cX11_why 44 = .ok (.istore_n 2, 1) := z_o61 (z_wat (q := 32) (j := 12) zwX11_why_32 rfl)
theorem dX11_why_45 : decode cX11_why 45 = .ok (.iconst 0, 1) := z_o3 (z_wat (q := 32) (j := 13) zwX11_why_32 rfl)
theorem dX11_why_46 : decode cX11_why 46 = .ok (.istore_n 3, 1) := z_o62 (z_wat (q := 32) (j := 14) zwX11_why_32 rfl)
theorem dX11_why_47 : decode cX11_why 47 = .ok (.iload_n 3, 1) := z_o29 (z_wat (q := 32) (j := 15) zwX11_why_32 rfl)
theorem dX11_why_48 : decode cX11_why 48 = .ok (.aload_n 0, 1) := z_o42 (z_wat (q := 32) (j := 16) zwX11_why_32 rfl)
theorem dX11_why_49 : decode cX11_why 49 = .ok (.getfield 74, 3) := z_o180 (z_wat (q := 32) (j := 17) zwX11_why_32 rfl) (z_wat (q := 32) (j := 18) zwX11_why_32 rfl) (z_wat (q := 32) (j := 19) zwX11_why_32 rfl) rfl
theorem dX11_why_52 : decode cX11_why 52 = .ok (.getfield 106, 3) := z_o180 (z_wat (q := 32) (j := 20) zwX11_why_32 rfl) (z_wat (q := 32) (j := 21) zwX11_why_32 rfl) (z_wat (q := 32) (j := 22) zwX11_why_32 rfl) rfl
theorem dX11_why_55 : decode cX11_why 55 = .ok (.getfield 110, 3) := z_o180 (z_wat (q := 32) (j := 23) zwX11_why_32 rfl) (z_wat (q := 32) (j := 24) zwX11_why_32 rfl) (z_wat (q := 32) (j := 25) zwX11_why_32 rfl) rfl
theorem dX11_why_58 : decode cX11_why 58 = .ok (.if_icmp .ge 51, 3) := z_o162 (z_wat (q := 32) (j := 26) zwX11_why_32 rfl) (z_wat (q := 32) (j := 27) zwX11_why_32 rfl) (z_wat (q := 32) (j := 28) zwX11_why_32 rfl) rfl
theorem dX11_why_61 : decode cX11_why 61 = .ok (.aload_n 0, 1) := z_o42 (z_wat (q := 32) (j := 29) zwX11_why_32 rfl)
theorem dX11_why_62 : decode cX11_why 62 = .ok (.getfield 83, 3) := z_o180 (z_wat (q := 32) (j := 30) zwX11_why_32 rfl) (z_wat (q := 32) (j := 31) zwX11_why_32 rfl) (z_wat (q := 32) (j := 32) zwX11_why_32 rfl) rfl
theorem zwX11_why_64 : ((cX11_why.data.toList.drop 64).take 34).map UInt8.toNat = [83, 42, 180, 0, 74, 180, 0, 106, 29, 182, 1, 21, 55, 4, 22, 4, 9, 148, 153, 0, 21, 22, 4, 20, 1, 16, 148, 153, 0, 12, 28, 2, 159, 0] := by decide +kernel
theorem dX11_why_65 : decode cX11_why 65 = .ok (.aload_n 0, 1) := z_o42 (z_wat (q := 64) (j := 1) zwX11_why_64 rfl)
theorem dX11_why_66 : decode cX11_why 66 = .ok (.getfield 74, 3) := z_o180 (z_wat (q := 64) (j := 2) zwX11_why_64 rfl) (z_wat (q := 64) (j := 3) zwX11_why_64 rfl) (z_wat (q := 64) (j := 4) zwX11_why_64 rfl) rfl
theorem dX11_why_69 : decode cX11_why 69 = .ok (.getfield 106, 3) := z_o180 (z_wat (q := 64) (j := 5) zwX11_why_64 rfl) (z_wat (q := 64) (j := 6) zwX11_why_64 rfl) (z_wat (q := 64) (j := 7) zwX11_why_64 rfl) rfl
theorem dX11_why_72 : decode cX11_why 72 = .ok (.iload_n 3, 1) := z_o29 (z_wat (q := 64) (j := 8) zwX11_why_64 rfl)
theorem dX11_why_73 : decode cX11_why 73 = .ok (.invokevirtual 277, 3) := z_o182 (z_wat (q := 64) (j := 9) zwX11_why_64 rfl) (z_wat (q := 64) (j := 10) zwX11_why_64 rfl) (z_wat (q := 64) (j := 11) zwX11_why_64 rfl) rfl
theorem dX11_why_76 : decode cX11_why 76 = .ok (.lstore 4, 2) := z_o55 (z_wat (q := 64) (j := 12) zwX11_why_64 rfl) (z_wat (q := 64) (j := 13) zwX11_why_64 rfl)
theorem dX11_why_78 : decode cX11_why 78 = .ok (.lload 4, 2) := z_o22 (z_wat (q := 64) (j := 14) zwX11_why_64 rfl) (z_wat (q := 64) (j := 15) zwX11_why_64 rfl)
theorem dX11_why_80 : decode cX11_why 80 = .ok (.lconst 0, 1) := z_o9 (z_wat (q := 64) (j := 16) zwX11_why_64 rfl)
theorem dX11_why_81 : decode cX11_why 81 = .ok (.lcmp, 1) := z_o148 (z_wat (q := 64) (j := 17) zwX11_why_64 rfl)
theorem dX11_why_82 : decode cX11_why 82 = .ok (.ifCond .eq 21, 3) := z_o153 (z_wat (q := 64) (j := 18) zwX11_why_64 rfl) (z_wat (q := 64) (j := 19) zwX11_why_64 rfl) (z_wat (q := 64) (j := 20) zwX11_why_64 rfl) rfl
theorem dX11_why_85 : decode cX11_why 85 = .ok (.lload 4, 2) := z_o22 (z_wat (q := 64) (j := 21) zwX11_why_64 rfl) (z_wat (q := 64) (j := 22) zwX11_why_64 rfl)
theorem dX11_why_87 : decode cX11_why 87 = .ok (.ldc2_w 272, 3) := z_o20 (z_wat (q := 64) (j := 23) zwX11_why_64 rfl) (z_wat (q := 64) (j := 24) zwX11_why_64 rfl) (z_wat (q := 64) (j := 25) zwX11_why_64 rfl) rfl
theorem dX11_why_90 : decode cX11_why 90 = .ok (.lcmp, 1) := z_o148 (z_wat (q := 64) (j := 26) zwX11_why_64 rfl)
theorem dX11_why_91 : decode cX11_why 91 = .ok (.ifCond .eq 12, 3) := z_o153 (z_wat (q := 64) (j := 27) zwX11_why_64 rfl) (z_wat (q := 64) (j := 28) zwX11_why_64 rfl) (z_wat (q := 64) (j := 29) zwX11_why_64 rfl) rfl
theorem dX11_why_94 : decode cX11_why 94 = .ok (.iload_n 2, 1) := z_o28 (z_wat (q := 64) (j := 30) zwX11_why_64 rfl)
theorem dX11_why_95 : decode cX11_why 95 = .ok (.iconst (-1), 1) := z_o2 (z_wat (q := 64) (j := 31) zwX11_why_64 rfl)
theorem zwX11_why_96 : ((cX11_why.data.toList.drop 96).take 15).map UInt8.toNat = [159, 0, 5, 2, 172, 29, 61, 132, 3, 1, 167, 255, 197, 28, 172] := by decide +kernel
theorem dX11_why_96 : decode cX11_why 96 = .ok (.if_icmp .eq 5, 3) := z_o159 (z_wat (q := 96) (j := 0) zwX11_why_96 rfl) (z_wat (q := 96) (j := 1) zwX11_why_96 rfl) (z_wat (q := 96) (j := 2) zwX11_why_96 rfl) rfl
theorem dX11_why_99 : decode cX11_why 99 = .ok (.iconst (-1), 1) := z_o2 (z_wat (q := 96) (j := 3) zwX11_why_96 rfl)
theorem dX11_why_100 : decode cX11_why 100 = .ok (.ireturn, 1) := z_o172 (z_wat (q := 96) (j := 4) zwX11_why_96 rfl)
theorem dX11_why_101 : decode cX11_why 101 = .ok (.iload_n 3, 1) := z_o29 (z_wat (q := 96) (j := 5) zwX11_why_96 rfl)
theorem dX11_why_102 : decode cX11_why 102 = .ok (.istore_n 2, 1) := z_o61 (z_wat (q := 96) (j := 6) zwX11_why_96 rfl)
theorem dX11_why_103 : decode cX11_why 103 = .ok (.iinc 3 1, 3) := z_o132 (z_wat (q := 96) (j := 7) zwX11_why_96 rfl) (z_wat (q := 96) (j := 8) zwX11_why_96 rfl) (z_wat (q := 96) (j := 9) zwX11_why_96 rfl) rfl
theorem dX11_why_106 : decode cX11_why 106 = .ok (.goto (-59), 3) := z_o167 (z_wat (q := 96) (j := 10) zwX11_why_96 rfl) (z_wat (q := 96) (j := 11) zwX11_why_96 rfl) (z_wat (q := 96) (j := 12) zwX11_why_96 rfl) rfl
theorem dX11_why_109 : decode cX11_why 109 = .ok (.iload_n 2, 1) := z_o28 (z_wat (q := 96) (j := 13) zwX11_why_96 rfl)
theorem dX11_why_110 : decode cX11_why 110 = .ok (.ireturn, 1) := z_o172 (z_wat (q := 96) (j := 14) zwX11_why_96 rfl)
theorem zwX3_ofShells_0 : ((cX3_ofShells.data.toList.drop 0).take 34).map UInt8.toNat = [27, 170, 0, 0, 0, 0, 0, 99, 0, 0, 0, 3, 0, 0, 0, 9, 0, 0, 0, 43, 0, 0, 0, 99, 0, 0, 0, 99, 0, 0, 0, 56, 0, 0] := by decide +kernel
theorem dX3_ofShells_0 : decode cX3_ofShells 0 = .ok (.iload_n 1, 1) := z_o27 (z_wat (q := 0) (j := 0) zwX3_ofShells_0 rfl)
theorem dX3_ofShells_1 : decode cX3_ofShells 1 = .ok (.tableswitch 99 3 9 #[43, 99, 99, 56, 99, 64, 91], 43) := by decide +kernel
theorem zwX3_ofShells_32 : ((cX3_ofShells.data.toList.drop 32).take 34).map UInt8.toNat = [0, 0, 0, 99, 0, 0, 0, 64, 0, 0, 0, 91, 42, 180, 0, 39, 17, 78, 32, 16, 100, 182, 0, 125, 173, 42, 180, 0, 39, 180, 0, 128, 173, 42] := by decide +kernel
theorem dX3_ofShells_44 : decode cX3_ofShells 44 = .ok (.aload_n 0, 1) := z_o42 (z_wat (q := 32) (j := 12) zwX3_ofShells_32 rfl)
theorem dX3_ofShells_45 : decode cX3_ofShells 45 = .ok (.getfield 39, 3) := z_o180 (z_wat (q := 32) (j := 13) zwX3_ofShells_32 rfl) (z_wat (q := 32) (j := 14) zwX3_ofShells_32 rfl) (z_wat (q := 32) (j := 15) zwX3_ofShells_32 rfl) rfl
theorem dX3_ofShells_48 : decode cX3_ofShells 48 = .ok (.sipush 20000, 3) := z_o17 (z_wat (q := 32) (j := 16) zwX3_ofShells_32 rfl) (z_wat (q := 32) (j := 17) zwX3_ofShells_32 rfl) (z_wat (q := 32) (j := 18) zwX3_ofShells_32 rfl) rfl
theorem dX3_ofShells_51 : decode cX3_ofShells 51 = .ok (.bipush 100, 2) := z_o16 (z_wat (q := 32) (j := 19) zwX3_ofShells_32 rfl) (z_wat (q := 32) (j := 20) zwX3_ofShells_32 rfl) rfl
theorem dX3_ofShells_53 : decode cX3_ofShells 53 = .ok (.invokevirtual 125, 3) := z_o182 (z_wat (q := 32) (j := 21) zwX3_ofShells_32 rfl) (z_wat (q := 32) (j := 22) zwX3_ofShells_32 rfl) (z_wat (q := 32) (j := 23) zwX3_ofShells_32 rfl) rfl
theorem dX3_ofShells_56 : decode cX3_ofShells 56 = .ok (.lreturn, 1) := z_o173 (z_wat (q := 32) (j := 24) zwX3_ofShells_32 rfl)
theorem dX3_ofShells_57 : decode cX3_ofShells 57 = .ok (.aload_n 0, 1) := z_o42 (z_wat (q := 32) (j := 25) zwX3_ofShells_32 rfl)
theorem dX3_ofShells_58 : decode cX3_ofShells 58 = .ok (.getfield 39, 3) := z_o180 (z_wat (q := 32) (j := 26) zwX3_ofShells_32 rfl) (z_wat (q := 32) (j := 27) zwX3_ofShells_32 rfl) (z_wat (q := 32) (j := 28) zwX3_ofShells_32 rfl) rfl
theorem dX3_ofShells_61 : decode cX3_ofShells 61 = .ok (.getfield 128, 3) := z_o180 (z_wat (q := 32) (j := 29) zwX3_ofShells_32 rfl) (z_wat (q := 32) (j := 30) zwX3_ofShells_32 rfl) (z_wat (q := 32) (j := 31) zwX3_ofShells_32 rfl) rfl
theorem zwX3_ofShells_64 : ((cX3_ofShells.data.toList.drop 64).take 34).map UInt8.toNat = [173, 42, 180, 0, 39, 3, 182, 0, 132, 153, 0, 15, 42, 180, 0, 39, 180, 0, 136, 3, 47, 167, 0, 6, 20, 0, 79, 173, 42, 180, 0, 39, 180, 0] := by decide +kernel
theorem dX3_ofShells_64 : decode cX3_ofShells 64 = .ok (.lreturn, 1) := z_o173 (z_wat (q := 64) (j := 0) zwX3_ofShells_64 rfl)
theorem dX3_ofShells_65 : decode cX3_ofShells 65 = .ok (.aload_n 0, 1) := z_o42 (z_wat (q := 64) (j := 1) zwX3_ofShells_64 rfl)
theorem dX3_ofShells_66 : decode cX3_ofShells 66 = .ok (.getfield 39, 3) := z_o180 (z_wat (q := 64) (j := 2) zwX3_ofShells_64 rfl) (z_wat (q := 64) (j := 3) zwX3_ofShells_64 rfl) (z_wat (q := 64) (j := 4) zwX3_ofShells_64 rfl) rfl
theorem dX3_ofShells_69 : decode cX3_ofShells 69 = .ok (.iconst 0, 1) := z_o3 (z_wat (q := 64) (j := 5) zwX3_ofShells_64 rfl)
theorem dX3_ofShells_70 : decode cX3_ofShells 70 = .ok (.invokevirtual 132, 3) := z_o182 (z_wat (q := 64) (j := 6) zwX3_ofShells_64 rfl) (z_wat (q := 64) (j := 7) zwX3_ofShells_64 rfl) (z_wat (q := 64) (j := 8) zwX3_ofShells_64 rfl) rfl
theorem dX3_ofShells_73 : decode cX3_ofShells 73 = .ok (.ifCond .eq 15, 3) := z_o153 (z_wat (q := 64) (j := 9) zwX3_ofShells_64 rfl) (z_wat (q := 64) (j := 10) zwX3_ofShells_64 rfl) (z_wat (q := 64) (j := 11) zwX3_ofShells_64 rfl) rfl
theorem dX3_ofShells_76 : decode cX3_ofShells 76 = .ok (.aload_n 0, 1) := z_o42 (z_wat (q := 64) (j := 12) zwX3_ofShells_64 rfl)
theorem dX3_ofShells_77 : decode cX3_ofShells 77 = .ok (.getfield 39, 3) := z_o180 (z_wat (q := 64) (j := 13) zwX3_ofShells_64 rfl) (z_wat (q := 64) (j := 14) zwX3_ofShells_64 rfl) (z_wat (q := 64) (j := 15) zwX3_ofShells_64 rfl) rfl
theorem dX3_ofShells_80 : decode cX3_ofShells 80 = .ok (.getfield 136, 3) := z_o180 (z_wat (q := 64) (j := 16) zwX3_ofShells_64 rfl) (z_wat (q := 64) (j := 17) zwX3_ofShells_64 rfl) (z_wat (q := 64) (j := 18) zwX3_ofShells_64 rfl) rfl
theorem dX3_ofShells_83 : decode cX3_ofShells 83 = .ok (.iconst 0, 1) := z_o3 (z_wat (q := 64) (j := 19) zwX3_ofShells_64 rfl)
theorem dX3_ofShells_84 : decode cX3_ofShells 84 = .ok (.laload, 1) := z_o47 (z_wat (q := 64) (j := 20) zwX3_ofShells_64 rfl)
theorem dX3_ofShells_85 : decode cX3_ofShells 85 = .ok (.goto 6, 3) := z_o167 (z_wat (q := 64) (j := 21) zwX3_ofShells_64 rfl) (z_wat (q := 64) (j := 22) zwX3_ofShells_64 rfl) (z_wat (q := 64) (j := 23) zwX3_ofShells_64 rfl) rfl
theorem dX3_ofShells_88 : decode cX3_ofShells 88 = .ok (.ldc2_w 79, 3) := z_o20 (z_wat (q := 64) (j := 24) zwX3_ofShells_64 rfl) (z_wat (q := 64) (j := 25) zwX3_ofShells_64 rfl) (z_wat (q := 64) (j := 26) zwX3_ofShells_64 rfl) rfl
theorem dX3_ofShells_91 : decode cX3_ofShells 91 = .ok (.lreturn, 1) := z_o173 (z_wat (q := 64) (j := 27) zwX3_ofShells_64 rfl)
theorem dX3_ofShells_92 : decode cX3_ofShells 92 = .ok (.aload_n 0, 1) := z_o42 (z_wat (q := 64) (j := 28) zwX3_ofShells_64 rfl)
theorem dX3_ofShells_93 : decode cX3_ofShells 93 = .ok (.getfield 39, 3) := z_o180 (z_wat (q := 64) (j := 29) zwX3_ofShells_64 rfl) (z_wat (q := 64) (j := 30) zwX3_ofShells_64 rfl) (z_wat (q := 64) (j := 31) zwX3_ofShells_64 rfl) rfl
theorem zwX3_ofShells_96 : ((cX3_ofShells.data.toList.drop 96).take 8).map UInt8.toNat = [180, 0, 139, 173, 20, 0, 79, 173] := by decide +kernel
theorem dX3_ofShells_96 : decode cX3_ofShells 96 = .ok (.getfield 139, 3) := z_o180 (z_wat (q := 96) (j := 0) zwX3_ofShells_96 rfl) (z_wat (q := 96) (j := 1) zwX3_ofShells_96 rfl) (z_wat (q := 96) (j := 2) zwX3_ofShells_96 rfl) rfl
theorem dX3_ofShells_99 : decode cX3_ofShells 99 = .ok (.lreturn, 1) := z_o173 (z_wat (q := 96) (j := 3) zwX3_ofShells_96 rfl)
theorem dX3_ofShells_100 : decode cX3_ofShells 100 = .ok (.ldc2_w 79, 3) := z_o20 (z_wat (q := 96) (j := 4) zwX3_ofShells_96 rfl) (z_wat (q := 96) (j := 5) zwX3_ofShells_96 rfl) (z_wat (q := 96) (j := 6) zwX3_ofShells_96 rfl) rfl
theorem dX3_ofShells_103 : decode cX3_ofShells 103 = .ok (.lreturn, 1) := z_o173 (z_wat (q := 96) (j := 7) zwX3_ofShells_96 rfl)
theorem zwX3_part_0 : ((cX3_part.data.toList.drop 0).take 34).map UInt8.toNat = [27, 4, 160, 0, 6, 28, 133, 173, 27, 5, 160, 0, 10, 42, 180, 0, 24, 167, 0, 7, 42, 180, 0, 28, 62, 29, 2, 159, 0, 13, 28, 155, 0, 9] := by decide +kernel
theorem dX3_part_0 : decode cX3_part 0 = .ok (.iload_n 1, 1) := z_o27 (z_wat (q := 0) (j := 0) zwX3_part_0 rfl)
theorem dX3_part_1 : decode cX3_part 1 = .ok (.iconst 1, 1) := z_o4 (z_wat (q := 0) (j := 1) zwX3_part_0 rfl)
theorem dX3_part_2 : decode cX3_part 2 = .ok (.if_icmp .ne 6, 3) := z_o160 (z_wat (q := 0) (j := 2) zwX3_part_0 rfl) (z_wat (q := 0) (j := 3) zwX3_part_0 rfl) (z_wat (q := 0) (j := 4) zwX3_part_0 rfl) rfl
theorem dX3_part_5 : decode cX3_part 5 = .ok (.iload_n 2, 1) := z_o28 (z_wat (q := 0) (j := 5) zwX3_part_0 rfl)
theorem dX3_part_6 : decode cX3_part 6 = .ok (.i2l, 1) := z_o133 (z_wat (q := 0) (j := 6) zwX3_part_0 rfl)
theorem dX3_part_7 : decode cX3_part 7 = .ok (.lreturn, 1) := z_o173 (z_wat (q := 0) (j := 7) zwX3_part_0 rfl)
theorem dX3_part_8 : decode cX3_part 8 = .ok (.iload_n 1, 1) := z_o27 (z_wat (q := 0) (j := 8) zwX3_part_0 rfl)
theorem dX3_part_9 : decode cX3_part 9 = .ok (.iconst 2, 1) := z_o5 (z_wat (q := 0) (j := 9) zwX3_part_0 rfl)
theorem dX3_part_10 : decode cX3_part 10 = .ok (.if_icmp .ne 10, 3) := z_o160 (z_wat (q := 0) (j := 10) zwX3_part_0 rfl) (z_wat (q := 0) (j := 11) zwX3_part_0 rfl) (z_wat (q := 0) (j := 12) zwX3_part_0 rfl) rfl
theorem dX3_part_13 : decode cX3_part 13 = .ok (.aload_n 0, 1) := z_o42 (z_wat (q := 0) (j := 13) zwX3_part_0 rfl)
theorem dX3_part_14 : decode cX3_part 14 = .ok (.getfield 24, 3) := z_o180 (z_wat (q := 0) (j := 14) zwX3_part_0 rfl) (z_wat (q := 0) (j := 15) zwX3_part_0 rfl) (z_wat (q := 0) (j := 16) zwX3_part_0 rfl) rfl
theorem dX3_part_17 : decode cX3_part 17 = .ok (.goto 7, 3) := z_o167 (z_wat (q := 0) (j := 17) zwX3_part_0 rfl) (z_wat (q := 0) (j := 18) zwX3_part_0 rfl) (z_wat (q := 0) (j := 19) zwX3_part_0 rfl) rfl
theorem dX3_part_20 : decode cX3_part 20 = .ok (.aload_n 0, 1) := z_o42 (z_wat (q := 0) (j := 20) zwX3_part_0 rfl)
theorem dX3_part_21 : decode cX3_part 21 = .ok (.getfield 28, 3) := z_o180 (z_wat (q := 0) (j := 21) zwX3_part_0 rfl) (z_wat (q := 0) (j := 22) zwX3_part_0 rfl) (z_wat (q := 0) (j := 23) zwX3_part_0 rfl) rfl
theorem dX3_part_24 : decode cX3_part 24 = .ok (.istore_n 3, 1) := z_o62 (z_wat (q := 0) (j := 24) zwX3_part_0 rfl)
theorem dX3_part_25 : decode cX3_part 25 = .ok (.iload_n 3, 1) := z_o29 (z_wat (q := 0) (j := 25) zwX3_part_0 rfl)
theorem dX3_part_26 : decode cX3_part 26 = .ok (.iconst (-1), 1) := z_o2 (z_wat (q := 0) (j := 26) zwX3_part_0 rfl)
theorem dX3_part_27 : decode cX3_part 27 = .ok (.if_icmp .eq 13, 3) := z_o159 (z_wat (q := 0) (j := 27) zwX3_part_0 rfl) (z_wat (q := 0) (j := 28) zwX3_part_0 rfl) (z_wat (q := 0) (j := 29) zwX3_part_0 rfl) rfl
theorem dX3_part_30 : decode cX3_part 30 = .ok (.iload_n 2, 1) := z_o28 (z_wat (q := 0) (j := 30) zwX3_part_0 rfl)
theorem dX3_part_31 : decode cX3_part 31 = .ok (.ifCond .lt 9, 3) := z_o155 (z_wat (q := 0) (j := 31) zwX3_part_0 rfl) (z_wat (q := 0) (j := 32) zwX3_part_0 rfl) (z_wat (q := 0) (j := 33) zwX3_part_0 rfl) rfl
theorem zwX3_part_32 : ((cX3_part.data.toList.drop 32).take 34).map UInt8.toNat = [0, 9, 28, 16, 10, 161, 0, 7, 20, 0, 74, 173, 27, 5, 160, 0, 7, 28, 167, 0, 7, 16, 10, 28, 96, 54, 4, 42, 180, 0, 15, 21, 4, 51] := by decide +kernel
theorem dX3_part_34 : decode cX3_part 34 = .ok (.iload_n 2, 1) := z_o28 (z_wat (q := 32) (j := 2) zwX3_part_32 rfl)
theorem dX3_part_35 : decode cX3_part 35 = .ok (.bipush 10, 2) := z_o16 (z_wat (q := 32) (j := 3) zwX3_part_32 rfl) (z_wat (q := 32) (j := 4) zwX3_part_32 rfl) rfl
theorem dX3_part_37 : decode cX3_part 37 = .ok (.if_icmp .lt 7, 3) := z_o161 (z_wat (q := 32) (j := 5) zwX3_part_32 rfl) (z_wat (q := 32) (j := 6) zwX3_part_32 rfl) (z_wat (q := 32) (j := 7) zwX3_part_32 rfl) rfl
theorem dX3_part_40 : decode cX3_part 40 = .ok (.ldc2_w 74, 3) := z_o20 (z_wat (q := 32) (j := 8) zwX3_part_32 rfl) (z_wat (q := 32) (j := 9) zwX3_part_32 rfl) (z_wat (q := 32) (j := 10) zwX3_part_32 rfl) rfl
theorem dX3_part_43 : decode cX3_part 43 = .ok (.lreturn, 1) := z_o173 (z_wat (q := 32) (j := 11) zwX3_part_32 rfl)
theorem dX3_part_44 : decode cX3_part 44 = .ok (.iload_n 1, 1) := z_o27 (z_wat (q := 32) (j := 12) zwX3_part_32 rfl)
theorem dX3_part_45 : decode cX3_part 45 = .ok (.iconst 2, 1) := z_o5 (z_wat (q := 32) (j := 13) zwX3_part_32 rfl)
theorem dX3_part_46 : decode cX3_part 46 = .ok (.if_icmp .ne 7, 3) := z_o160 (z_wat (q := 32) (j := 14) zwX3_part_32 rfl) (z_wat (q := 32) (j := 15) zwX3_part_32 rfl) (z_wat (q := 32) (j := 16) zwX3_part_32 rfl) rfl
theorem dX3_part_49 : decode cX3_part 49 = .ok (.iload_n 2, 1) := z_o28 (z_wat (q := 32) (j := 17) zwX3_part_32 rfl)
theorem dX3_part_50 : decode cX3_part 50 = .ok (.goto 7, 3) := z_o167 (z_wat (q := 32) (j := 18) zwX3_part_32 rfl) (z_wat (q := 32) (j := 19) zwX3_part_32 rfl) (z_wat (q := 32) (j := 20) zwX3_part_32 rfl) rfl
theorem dX3_part_53 : decode cX3_part 53 = .ok (.bipush 10, 2) := z_o16 (z_wat (q := 32) (j := 21) zwX3_part_32 rfl) (z_wat (q := 32) (j := 22) zwX3_part_32 rfl) rfl
theorem dX3_part_55 : decode cX3_part 55 = .ok (.iload_n 2, 1) := z_o28 (z_wat (q := 32) (j := 23) zwX3_part_32 rfl)
theorem dX3_part_56 : decode cX3_part 56 = .ok (.iadd, 1) := z_o96 (z_wat (q := 32) (j := 24) zwX3_part_32 rfl)
theorem dX3_part_57 : decode cX3_part 57 = .ok (.istore 4, 2) := z_o54 (z_wat (q := 32) (j := 25) zwX3_part_32 rfl) (z_wat (q := 32) (j := 26) zwX3_part_32 rfl)
theorem dX3_part_59 : decode cX3_part 59 = .ok (.aload_n 0, 1) := z_o42 (z_wat (q := 32) (j := 27) zwX3_part_32 rfl)
theorem dX3_part_60 : decode cX3_part 60 = .ok (.getfield 15, 3) := z_o180 (z_wat (q := 32) (j := 28) zwX3_part_32 rfl) (z_wat (q := 32) (j := 29) zwX3_part_32 rfl) (z_wat (q := 32) (j := 30) zwX3_part_32 rfl) rfl
theorem dX3_part_63 : decode cX3_part 63 = .ok (.iload 4, 2) := z_o21 (z_wat (q := 32) (j := 31) zwX3_part_32 rfl) (z_wat (q := 32) (j := 32) zwX3_part_32 rfl)
theorem zwX3_part_64 : ((cX3_part.data.toList.drop 64).take 34).map UInt8.toNat = [4, 51, 154, 0, 43, 42, 28, 29, 182, 0, 76, 55, 5, 42, 180, 0, 11, 21, 4, 22, 5, 20, 0, 79, 148, 154, 0, 9, 20, 0, 74, 167, 0, 5] := by decide +kernel
theorem dX3_part_65 : decode cX3_part 65 = .ok (.baload, 1) := z_o51 (z_wat (q := 64) (j := 1) zwX3_part_64 rfl)
theorem dX3_part_66 : decode cX3_part 66 = .ok (.ifCond .ne 43, 3) := z_o154 (z_wat (q := 64) (j := 2) zwX3_part_64 rfl) (z_wat (q := 64) (j := 3) zwX3_part_64 rfl) (z_wat (q := 64) (j := 4) zwX3_part_64 rfl) rfl
theorem dX3_part_69 : decode cX3_part 69 = .ok (.aload_n 0, 1) := z_o42 (z_wat (q := 64) (j := 5) zwX3_part_64 rfl)
theorem dX3_part_70 : decode cX3_part 70 = .ok (.iload_n 2, 1) := z_o28 (z_wat (q := 64) (j := 6) zwX3_part_64 rfl)
theorem dX3_part_71 : decode cX3_part 71 = .ok (.iload_n 3, 1) := z_o29 (z_wat (q := 64) (j := 7) zwX3_part_64 rfl)
theorem dX3_part_72 : decode cX3_part 72 = .ok (.invokevirtual 76, 3) := z_o182 (z_wat (q := 64) (j := 8) zwX3_part_64 rfl) (z_wat (q := 64) (j := 9) zwX3_part_64 rfl) (z_wat (q := 64) (j := 10) zwX3_part_64 rfl) rfl
theorem dX3_part_75 : decode cX3_part 75 = .ok (.lstore 5, 2) := z_o55 (z_wat (q := 64) (j := 11) zwX3_part_64 rfl) (z_wat (q := 64) (j := 12) zwX3_part_64 rfl)
theorem dX3_part_77 : decode cX3_part 77 = .ok (.aload_n 0, 1) := z_o42 (z_wat (q := 64) (j := 13) zwX3_part_64 rfl)
theorem dX3_part_78 : decode cX3_part 78 = .ok (.getfield 11, 3) := z_o180 (z_wat (q := 64) (j := 14) zwX3_part_64 rfl) (z_wat (q := 64) (j := 15) zwX3_part_64 rfl) (z_wat (q := 64) (j := 16) zwX3_part_64 rfl) rfl
theorem dX3_part_81 : decode cX3_part 81 = .ok (.iload 4, 2) := z_o21 (z_wat (q := 64) (j := 17) zwX3_part_64 rfl) (z_wat (q := 64) (j := 18) zwX3_part_64 rfl)
theorem dX3_part_83 : decode cX3_part 83 = .ok (.lload 5, 2) := z_o22 (z_wat (q := 64) (j := 19) zwX3_part_64 rfl) (z_wat (q := 64) (j := 20) zwX3_part_64 rfl)
theorem dX3_part_85 : decode cX3_part 85 = .ok (.ldc2_w 79, 3) := z_o20 (z_wat (q := 64) (j := 21) zwX3_part_64 rfl) (z_wat (q := 64) (j := 22) zwX3_part_64 rfl) (z_wat (q := 64) (j := 23) zwX3_part_64 rfl) rfl
theorem dX3_part_88 : decode cX3_part 88 = .ok (.lcmp, 1) := z_o148 (z_wat (q := 64) (j := 24) zwX3_part_64 rfl)
theorem dX3_part_89 : decode cX3_part 89 = .ok (.ifCond .ne 9, 3) := z_o154 (z_wat (q := 64) (j := 25) zwX3_part_64 rfl) (z_wat (q := 64) (j := 26) zwX3_part_64 rfl) (z_wat (q := 64) (j := 27) zwX3_part_64 rfl) rfl
theorem dX3_part_92 : decode cX3_part 92 = .ok (.ldc2_w 74, 3) := z_o20 (z_wat (q := 64) (j := 28) zwX3_part_64 rfl) (z_wat (q := 64) (j := 29) zwX3_part_64 rfl) (z_wat (q := 64) (j := 30) zwX3_part_64 rfl) rfl
theorem dX3_part_95 : decode cX3_part 95 = .ok (.goto 5, 3) := z_o167 (z_wat (q := 64) (j := 31) zwX3_part_64 rfl) (z_wat (q := 64) (j := 32) zwX3_part_64 rfl) (z_wat (q := 64) (j := 33) zwX3_part_64 rfl) rfl
theorem zwX3_part_96 : ((cX3_part.data.toList.drop 96).take 21).map UInt8.toNat = [0, 5, 22, 5, 80, 42, 180, 0, 15, 21, 4, 4, 84, 42, 180, 0, 11, 21, 4, 47, 173] := by decide +kernel
theorem dX3_part_98 : decode cX3_part 98 = .ok (.lload 5, 2) := z_o22 (z_wat (q := 96) (j := 2) zwX3_part_96 rfl) (z_wat (q := 96) (j := 3) zwX3_part_96 rfl)
theorem dX3_part_100 : decode cX3_part 100 = .ok (.lastore, 1) := z_o80 (z_wat (q := 96) (j := 4) zwX3_part_96 rfl)
theorem dX3_part_101 : decode cX3_part 101 = .ok (.aload_n 0, 1) := z_o42 (z_wat (q := 96) (j := 5) zwX3_part_96 rfl)
theorem dX3_part_102 : decode cX3_part 102 = .ok (.getfield 15, 3) := z_o180 (z_wat (q := 96) (j := 6) zwX3_part_96 rfl) (z_wat (q := 96) (j := 7) zwX3_part_96 rfl) (z_wat (q := 96) (j := 8) zwX3_part_96 rfl) rfl
theorem dX3_part_105 : decode cX3_part 105 = .ok (.iload 4, 2) := z_o21 (z_wat (q := 96) (j := 9) zwX3_part_96 rfl) (z_wat (q := 96) (j := 10) zwX3_part_96 rfl)
theorem dX3_part_107 : decode cX3_part 107 = .ok (.iconst 1, 1) := z_o4 (z_wat (q := 96) (j := 11) zwX3_part_96 rfl)
theorem dX3_part_108 : decode cX3_part 108 = .ok (.bastore, 1) := z_o84 (z_wat (q := 96) (j := 12) zwX3_part_96 rfl)
theorem dX3_part_109 : decode cX3_part 109 = .ok (.aload_n 0, 1) := z_o42 (z_wat (q := 96) (j := 13) zwX3_part_96 rfl)
theorem dX3_part_110 : decode cX3_part 110 = .ok (.getfield 11, 3) := z_o180 (z_wat (q := 96) (j := 14) zwX3_part_96 rfl) (z_wat (q := 96) (j := 15) zwX3_part_96 rfl) (z_wat (q := 96) (j := 16) zwX3_part_96 rfl) rfl
theorem dX3_part_113 : decode cX3_part 113 = .ok (.iload 4, 2) := z_o21 (z_wat (q := 96) (j := 17) zwX3_part_96 rfl) (z_wat (q := 96) (j := 18) zwX3_part_96 rfl)
theorem dX3_part_115 : decode cX3_part 115 = .ok (.laload, 1) := z_o47 (z_wat (q := 96) (j := 19) zwX3_part_96 rfl)
theorem dX3_part_116 : decode cX3_part 116 = .ok (.lreturn, 1) := z_o173 (z_wat (q := 96) (j := 20) zwX3_part_96 rfl)
theorem zwX3_valueOf_0 : ((cX3_valueOf.data.toList.drop 0).take 34).map UInt8.toNat = [42, 180, 0, 31, 28, 182, 0, 81, 62, 27, 170, 0, 0, 0, 0, 129, 0, 0, 0, 0, 0, 0, 0, 7, 0, 0, 0, 46, 0, 0, 0, 46, 0, 0] := by decide +kernel
theorem dX3_valueOf_0 : decode cX3_valueOf 0 = .ok (.aload_n 0, 1) := z_o42 (z_wat (q := 0) (j := 0) zwX3_valueOf_0 rfl)
theorem dX3_valueOf_1 : decode cX3_valueOf 1 = .ok (.getfield 31, 3) := z_o180 (z_wat (q := 0) (j := 1) zwX3_valueOf_0 rfl) (z_wat (q := 0) (j := 2) zwX3_valueOf_0 rfl) (z_wat (q := 0) (j := 3) zwX3_valueOf_0 rfl) rfl
theorem dX3_valueOf_4 : decode cX3_valueOf 4 = .ok (.iload_n 2, 1) := z_o28 (z_wat (q := 0) (j := 4) zwX3_valueOf_0 rfl)
theorem dX3_valueOf_5 : decode cX3_valueOf 5 = .ok (.invokevirtual 81, 3) := z_o182 (z_wat (q := 0) (j := 5) zwX3_valueOf_0 rfl) (z_wat (q := 0) (j := 6) zwX3_valueOf_0 rfl) (z_wat (q := 0) (j := 7) zwX3_valueOf_0 rfl) rfl
theorem dX3_valueOf_8 : decode cX3_valueOf 8 = .ok (.istore_n 3, 1) := z_o62 (z_wat (q := 0) (j := 8) zwX3_valueOf_0 rfl)
theorem dX3_valueOf_9 : decode cX3_valueOf 9 = .ok (.iload_n 1, 1) := z_o27 (z_wat (q := 0) (j := 9) zwX3_valueOf_0 rfl)
theorem dX3_valueOf_10 : decode cX3_valueOf 10 = .ok (.tableswitch 129 0 7 #[46, 46, 46, 129, 57, 86, 129, 96], 46) := by decide +kernel
theorem zwX3_valueOf_32 : ((cX3_valueOf.data.toList.drop 32).take 34).map UInt8.toNat = [0, 0, 0, 46, 0, 0, 0, 129, 0, 0, 0, 57, 0, 0, 0, 86, 0, 0, 0, 129, 0, 0, 0, 96, 42, 180, 0, 47, 29, 27, 182, 0, 84, 133] := by decide +kernel
theorem dX3_valueOf_56 : decode cX3_valueOf 56 = .ok (.aload_n 0, 1) := z_o42 (z_wat (q := 32) (j := 24) zwX3_valueOf_32 rfl)
theorem dX3_valueOf_57 : decode cX3_valueOf 57 = .ok (.getfield 47, 3) := z_o180 (z_wat (q := 32) (j := 25) zwX3_valueOf_32 rfl) (z_wat (q := 32) (j := 26) zwX3_valueOf_32 rfl) (z_wat (q := 32) (j := 27) zwX3_valueOf_32 rfl) rfl
theorem dX3_valueOf_60 : decode cX3_valueOf 60 = .ok (.iload_n 3, 1) := z_o29 (z_wat (q := 32) (j := 28) zwX3_valueOf_32 rfl)
theorem dX3_valueOf_61 : decode cX3_valueOf 61 = .ok (.iload_n 1, 1) := z_o27 (z_wat (q := 32) (j := 29) zwX3_valueOf_32 rfl)
theorem dX3_valueOf_62 : decode cX3_valueOf 62 = .ok (.invokevirtual 84, 3) := z_o182 (z_wat (q := 32) (j := 30) zwX3_valueOf_32 rfl) (z_wat (q := 32) (j := 31) zwX3_valueOf_32 rfl) (z_wat (q := 32) (j := 32) zwX3_valueOf_32 rfl) rfl
theorem zwX3_valueOf_64 : ((cX3_valueOf.data.toList.drop 64).take 34).map UInt8.toNat = [84, 133, 173, 42, 180, 0, 43, 29, 182, 0, 90, 54, 4, 21, 4, 2, 160, 0, 9, 20, 0, 79, 167, 0, 9, 21, 4, 184, 0, 95, 133, 173, 42, 180] := by decide +kernel
theorem dX3_valueOf_65 : decode cX3_valueOf 65 = .ok (.i2l, 1) := z_o133 (z_wat (q := 64) (j := 1) zwX3_valueOf_64 rfl)
theorem dX3_valueOf_66 : decode cX3_valueOf 66 = .ok (.lreturn, 1) := z_o173 (z_wat (q := 64) (j := 2) zwX3_valueOf_64 rfl)
theorem dX3_valueOf_67 : decode cX3_valueOf 67 = .ok (.aload_n 0, 1) := z_o42 (z_wat (q := 64) (j := 3) zwX3_valueOf_64 rfl)
theorem dX3_valueOf_68 : decode cX3_valueOf 68 = .ok (.getfield 43, 3) := z_o180 (z_wat (q := 64) (j := 4) zwX3_valueOf_64 rfl) (z_wat (q := 64) (j := 5) zwX3_valueOf_64 rfl) (z_wat (q := 64) (j := 6) zwX3_valueOf_64 rfl) rfl
theorem dX3_valueOf_71 : decode cX3_valueOf 71 = .ok (.iload_n 3, 1) := z_o29 (z_wat (q := 64) (j := 7) zwX3_valueOf_64 rfl)
theorem dX3_valueOf_72 : decode cX3_valueOf 72 = .ok (.invokevirtual 90, 3) := z_o182 (z_wat (q := 64) (j := 8) zwX3_valueOf_64 rfl) (z_wat (q := 64) (j := 9) zwX3_valueOf_64 rfl) (z_wat (q := 64) (j := 10) zwX3_valueOf_64 rfl) rfl
theorem dX3_valueOf_75 : decode cX3_valueOf 75 = .ok (.istore 4, 2) := z_o54 (z_wat (q := 64) (j := 11) zwX3_valueOf_64 rfl) (z_wat (q := 64) (j := 12) zwX3_valueOf_64 rfl)
theorem dX3_valueOf_77 : decode cX3_valueOf 77 = .ok (.iload 4, 2) := z_o21 (z_wat (q := 64) (j := 13) zwX3_valueOf_64 rfl) (z_wat (q := 64) (j := 14) zwX3_valueOf_64 rfl)
theorem dX3_valueOf_79 : decode cX3_valueOf 79 = .ok (.iconst (-1), 1) := z_o2 (z_wat (q := 64) (j := 15) zwX3_valueOf_64 rfl)
theorem dX3_valueOf_80 : decode cX3_valueOf 80 = .ok (.if_icmp .ne 9, 3) := z_o160 (z_wat (q := 64) (j := 16) zwX3_valueOf_64 rfl) (z_wat (q := 64) (j := 17) zwX3_valueOf_64 rfl) (z_wat (q := 64) (j := 18) zwX3_valueOf_64 rfl) rfl
theorem dX3_valueOf_83 : decode cX3_valueOf 83 = .ok (.ldc2_w 79, 3) := z_o20 (z_wat (q := 64) (j := 19) zwX3_valueOf_64 rfl) (z_wat (q := 64) (j := 20) zwX3_valueOf_64 rfl) (z_wat (q := 64) (j := 21) zwX3_valueOf_64 rfl) rfl
theorem dX3_valueOf_86 : decode cX3_valueOf 86 = .ok (.goto 9, 3) := z_o167 (z_wat (q := 64) (j := 22) zwX3_valueOf_64 rfl) (z_wat (q := 64) (j := 23) zwX3_valueOf_64 rfl) (z_wat (q := 64) (j := 24) zwX3_valueOf_64 rfl) rfl
theorem dX3_valueOf_89 : decode cX3_valueOf 89 = .ok (.iload 4, 2) := z_o21 (z_wat (q := 64) (j := 25) zwX3_valueOf_64 rfl) (z_wat (q := 64) (j := 26) zwX3_valueOf_64 rfl)
theorem dX3_valueOf_91 : decode cX3_valueOf 91 = .ok (.invokestatic 95, 3) := z_o184 (z_wat (q := 64) (j := 27) zwX3_valueOf_64 rfl) (z_wat (q := 64) (j := 28) zwX3_valueOf_64 rfl) (z_wat (q := 64) (j := 29) zwX3_valueOf_64 rfl) rfl
theorem dX3_valueOf_94 : decode cX3_valueOf 94 = .ok (.i2l, 1) := z_o133 (z_wat (q := 64) (j := 30) zwX3_valueOf_64 rfl)
theorem dX3_valueOf_95 : decode cX3_valueOf 95 = .ok (.lreturn, 1) := z_o173 (z_wat (q := 64) (j := 31) zwX3_valueOf_64 rfl)
theorem zwX3_valueOf_96 : ((cX3_valueOf.data.toList.drop 96).take 34).map UInt8.toNat = [42, 180, 0, 31, 28, 182, 0, 100, 133, 173, 42, 180, 0, 35, 29, 182, 0, 103, 42, 180, 0, 35, 180, 0, 109, 154, 0, 9, 20, 0, 79, 167, 0, 11] := by decide +kernel
theorem dX3_valueOf_96 : decode cX3_valueOf 96 = .ok (.aload_n 0, 1) := z_o42 (z_wat (q := 96) (j := 0) zwX3_valueOf_96 rfl)
theorem dX3_valueOf_97 : decode cX3_valueOf 97 = .ok (.getfield 31, 3) := z_o180 (z_wat (q := 96) (j := 1) zwX3_valueOf_96 rfl) (z_wat (q := 96) (j := 2) zwX3_valueOf_96 rfl) (z_wat (q := 96) (j := 3) zwX3_valueOf_96 rfl) rfl
theorem dX3_valueOf_100 : decode cX3_valueOf 100 = .ok (.iload_n 2, 1) := z_o28 (z_wat (q := 96) (j := 4) zwX3_valueOf_96 rfl)
theorem dX3_valueOf_101 : decode cX3_valueOf 101 = .ok (.invokevirtual 100, 3) := z_o182 (z_wat (q := 96) (j := 5) zwX3_valueOf_96 rfl) (z_wat (q := 96) (j := 6) zwX3_valueOf_96 rfl) (z_wat (q := 96) (j := 7) zwX3_valueOf_96 rfl) rfl
theorem dX3_valueOf_104 : decode cX3_valueOf 104 = .ok (.i2l, 1) := z_o133 (z_wat (q := 96) (j := 8) zwX3_valueOf_96 rfl)
theorem dX3_valueOf_105 : decode cX3_valueOf 105 = .ok (.lreturn, 1) := z_o173 (z_wat (q := 96) (j := 9) zwX3_valueOf_96 rfl)
theorem dX3_valueOf_106 : decode cX3_valueOf 106 = .ok (.aload_n 0, 1) := z_o42 (z_wat (q := 96) (j := 10) zwX3_valueOf_96 rfl)
theorem dX3_valueOf_107 : decode cX3_valueOf 107 = .ok (.getfield 35, 3) := z_o180 (z_wat (q := 96) (j := 11) zwX3_valueOf_96 rfl) (z_wat (q := 96) (j := 12) zwX3_valueOf_96 rfl) (z_wat (q := 96) (j := 13) zwX3_valueOf_96 rfl) rfl
theorem dX3_valueOf_110 : decode cX3_valueOf 110 = .ok (.iload_n 3, 1) := z_o29 (z_wat (q := 96) (j := 14) zwX3_valueOf_96 rfl)
theorem dX3_valueOf_111 : decode cX3_valueOf 111 = .ok (.invokevirtual 103, 3) := z_o182 (z_wat (q := 96) (j := 15) zwX3_valueOf_96 rfl) (z_wat (q := 96) (j := 16) zwX3_valueOf_96 rfl) (z_wat (q := 96) (j := 17) zwX3_valueOf_96 rfl) rfl
theorem dX3_valueOf_114 : decode cX3_valueOf 114 = .ok (.aload_n 0, 1) := z_o42 (z_wat (q := 96) (j := 18) zwX3_valueOf_96 rfl)
theorem dX3_valueOf_115 : decode cX3_valueOf 115 = .ok (.getfield 35, 3) := z_o180 (z_wat (q := 96) (j := 19) zwX3_valueOf_96 rfl) (z_wat (q := 96) (j := 20) zwX3_valueOf_96 rfl) (z_wat (q := 96) (j := 21) zwX3_valueOf_96 rfl) rfl
theorem dX3_valueOf_118 : decode cX3_valueOf 118 = .ok (.getfield 109, 3) := z_o180 (z_wat (q := 96) (j := 22) zwX3_valueOf_96 rfl) (z_wat (q := 96) (j := 23) zwX3_valueOf_96 rfl) (z_wat (q := 96) (j := 24) zwX3_valueOf_96 rfl) rfl
theorem dX3_valueOf_121 : decode cX3_valueOf 121 = .ok (.ifCond .ne 9, 3) := z_o154 (z_wat (q := 96) (j := 25) zwX3_valueOf_96 rfl) (z_wat (q := 96) (j := 26) zwX3_valueOf_96 rfl) (z_wat (q := 96) (j := 27) zwX3_valueOf_96 rfl) rfl
theorem dX3_valueOf_124 : decode cX3_valueOf 124 = .ok (.ldc2_w 79, 3) := z_o20 (z_wat (q := 96) (j := 28) zwX3_valueOf_96 rfl) (z_wat (q := 96) (j := 29) zwX3_valueOf_96 rfl) (z_wat (q := 96) (j := 30) zwX3_valueOf_96 rfl) rfl
theorem dX3_valueOf_127 : decode cX3_valueOf 127 = .ok (.goto 11, 3) := z_o167 (z_wat (q := 96) (j := 31) zwX3_valueOf_96 rfl) (z_wat (q := 96) (j := 32) zwX3_valueOf_96 rfl) (z_wat (q := 96) (j := 33) zwX3_valueOf_96 rfl) rfl
theorem zwX3_valueOf_128 : ((cX3_valueOf.data.toList.drop 128).take 29).map UInt8.toNat = [0, 11, 42, 180, 0, 35, 180, 0, 112, 133, 173, 42, 180, 0, 39, 42, 180, 0, 31, 29, 182, 0, 115, 42, 27, 182, 0, 121, 173] := by decide +kernel
theorem dX3_valueOf_130 : decode cX3_valueOf 130 = .ok (.aload_n 0, 1) := z_o42 (z_wat (q := 128) (j := 2) zwX3_valueOf_128 rfl)
theorem dX3_valueOf_131 : decode cX3_valueOf 131 = .ok (.getfield 35, 3) := z_o180 (z_wat (q := 128) (j := 3) zwX3_valueOf_128 rfl) (z_wat (q := 128) (j := 4) zwX3_valueOf_128 rfl) (z_wat (q := 128) (j := 5) zwX3_valueOf_128 rfl) rfl
theorem dX3_valueOf_134 : decode cX3_valueOf 134 = .ok (.getfield 112, 3) := z_o180 (z_wat (q := 128) (j := 6) zwX3_valueOf_128 rfl) (z_wat (q := 128) (j := 7) zwX3_valueOf_128 rfl) (z_wat (q := 128) (j := 8) zwX3_valueOf_128 rfl) rfl
theorem dX3_valueOf_137 : decode cX3_valueOf 137 = .ok (.i2l, 1) := z_o133 (z_wat (q := 128) (j := 9) zwX3_valueOf_128 rfl)
theorem dX3_valueOf_138 : decode cX3_valueOf 138 = .ok (.lreturn, 1) := z_o173 (z_wat (q := 128) (j := 10) zwX3_valueOf_128 rfl)
theorem dX3_valueOf_139 : decode cX3_valueOf 139 = .ok (.aload_n 0, 1) := z_o42 (z_wat (q := 128) (j := 11) zwX3_valueOf_128 rfl)
theorem dX3_valueOf_140 : decode cX3_valueOf 140 = .ok (.getfield 39, 3) := z_o180 (z_wat (q := 128) (j := 12) zwX3_valueOf_128 rfl) (z_wat (q := 128) (j := 13) zwX3_valueOf_128 rfl) (z_wat (q := 128) (j := 14) zwX3_valueOf_128 rfl) rfl
theorem dX3_valueOf_143 : decode cX3_valueOf 143 = .ok (.aload_n 0, 1) := z_o42 (z_wat (q := 128) (j := 15) zwX3_valueOf_128 rfl)
theorem dX3_valueOf_144 : decode cX3_valueOf 144 = .ok (.getfield 31, 3) := z_o180 (z_wat (q := 128) (j := 16) zwX3_valueOf_128 rfl) (z_wat (q := 128) (j := 17) zwX3_valueOf_128 rfl) (z_wat (q := 128) (j := 18) zwX3_valueOf_128 rfl) rfl
theorem dX3_valueOf_147 : decode cX3_valueOf 147 = .ok (.iload_n 3, 1) := z_o29 (z_wat (q := 128) (j := 19) zwX3_valueOf_128 rfl)
theorem dX3_valueOf_148 : decode cX3_valueOf 148 = .ok (.invokevirtual 115, 3) := z_o182 (z_wat (q := 128) (j := 20) zwX3_valueOf_128 rfl) (z_wat (q := 128) (j := 21) zwX3_valueOf_128 rfl) (z_wat (q := 128) (j := 22) zwX3_valueOf_128 rfl) rfl
theorem dX3_valueOf_151 : decode cX3_valueOf 151 = .ok (.aload_n 0, 1) := z_o42 (z_wat (q := 128) (j := 23) zwX3_valueOf_128 rfl)
theorem dX3_valueOf_152 : decode cX3_valueOf 152 = .ok (.iload_n 1, 1) := z_o27 (z_wat (q := 128) (j := 24) zwX3_valueOf_128 rfl)
theorem dX3_valueOf_153 : decode cX3_valueOf 153 = .ok (.invokevirtual 121, 3) := z_o182 (z_wat (q := 128) (j := 25) zwX3_valueOf_128 rfl) (z_wat (q := 128) (j := 26) zwX3_valueOf_128 rfl) (z_wat (q := 128) (j := 27) zwX3_valueOf_128 rfl) rfl
theorem dX3_valueOf_156 : decode cX3_valueOf 156 = .ok (.lreturn, 1) := z_o173 (z_wat (q := 128) (j := 28) zwX3_valueOf_128 rfl)
theorem zwX3_worthOf_0 : ((cX3_worthOf.data.toList.drop 0).take 34).map UInt8.toNat = [3, 62, 43, 180, 0, 56, 28, 46, 54, 4, 21, 4, 43, 180, 0, 56, 28, 4, 96, 46, 162, 0, 145, 43, 180, 0, 60, 21, 4, 46, 54, 5, 21, 5] := by decide +kernel
theorem dX3_worthOf_0 : decode cX3_worthOf 0 = .ok (.iconst 0, 1) := z_o3 (z_wat (q := 0) (j := 0) zwX3_worthOf_0 rfl)
theorem dX3_worthOf_1 : decode cX3_worthOf 1 = .ok (.istore_n 3, 1) := z_o62 (z_wat (q := 0) (j := 1) zwX3_worthOf_0 rfl)
theorem dX3_worthOf_2 : decode cX3_worthOf 2 = .ok (.aload_n 1, 1) := z_o43 (z_wat (q := 0) (j := 2) zwX3_worthOf_0 rfl)
theorem dX3_worthOf_3 : decode cX3_worthOf 3 = .ok (.getfield 56, 3) := z_o180 (z_wat (q := 0) (j := 3) zwX3_worthOf_0 rfl) (z_wat (q := 0) (j := 4) zwX3_worthOf_0 rfl) (z_wat (q := 0) (j := 5) zwX3_worthOf_0 rfl) rfl
theorem dX3_worthOf_6 : decode cX3_worthOf 6 = .ok (.iload_n 2, 1) := z_o28 (z_wat (q := 0) (j := 6) zwX3_worthOf_0 rfl)
theorem dX3_worthOf_7 : decode cX3_worthOf 7 = .ok (.iaload, 1) := z_o46 (z_wat (q := 0) (j := 7) zwX3_worthOf_0 rfl)
theorem dX3_worthOf_8 : decode cX3_worthOf 8 = .ok (.istore 4, 2) := z_o54 (z_wat (q := 0) (j := 8) zwX3_worthOf_0 rfl) (z_wat (q := 0) (j := 9) zwX3_worthOf_0 rfl)
theorem dX3_worthOf_10 : decode cX3_worthOf 10 = .ok (.iload 4, 2) := z_o21 (z_wat (q := 0) (j := 10) zwX3_worthOf_0 rfl) (z_wat (q := 0) (j := 11) zwX3_worthOf_0 rfl)
theorem dX3_worthOf_12 : decode cX3_worthOf 12 = .ok (.aload_n 1, 1) := z_o43 (z_wat (q := 0) (j := 12) zwX3_worthOf_0 rfl)
theorem dX3_worthOf_13 : decode cX3_worthOf 13 = .ok (.getfield 56, 3) := z_o180 (z_wat (q := 0) (j := 13) zwX3_worthOf_0 rfl) (z_wat (q := 0) (j := 14) zwX3_worthOf_0 rfl) (z_wat (q := 0) (j := 15) zwX3_worthOf_0 rfl) rfl
theorem dX3_worthOf_16 : decode cX3_worthOf 16 = .ok (.iload_n 2, 1) := z_o28 (z_wat (q := 0) (j := 16) zwX3_worthOf_0 rfl)
theorem dX3_worthOf_17 : decode cX3_worthOf 17 = .ok (.iconst 1, 1) := z_o4 (z_wat (q := 0) (j := 17) zwX3_worthOf_0 rfl)
theorem dX3_worthOf_18 : decode cX3_worthOf 18 = .ok (.iadd, 1) := z_o96 (z_wat (q := 0) (j := 18) zwX3_worthOf_0 rfl)
theorem dX3_worthOf_19 : decode cX3_worthOf 19 = .ok (.iaload, 1) := z_o46 (z_wat (q := 0) (j := 19) zwX3_worthOf_0 rfl)
theorem dX3_worthOf_20 : decode cX3_worthOf 20 = .ok (.if_icmp .ge 145, 3) := z_o162 (z_wat (q := 0) (j := 20) zwX3_worthOf_0 rfl) (z_wat (q := 0) (j := 21) zwX3_worthOf_0 rfl) (z_wat (q := 0) (j := 22) zwX3_worthOf_0 rfl) rfl
theorem dX3_worthOf_23 : decode cX3_worthOf 23 = .ok (.aload_n 1, 1) := z_o43 (z_wat (q := 0) (j := 23) zwX3_worthOf_0 rfl)
theorem dX3_worthOf_24 : decode cX3_worthOf 24 = .ok (.getfield 60, 3) := z_o180 (z_wat (q := 0) (j := 24) zwX3_worthOf_0 rfl) (z_wat (q := 0) (j := 25) zwX3_worthOf_0 rfl) (z_wat (q := 0) (j := 26) zwX3_worthOf_0 rfl) rfl
theorem dX3_worthOf_27 : decode cX3_worthOf 27 = .ok (.iload 4, 2) := z_o21 (z_wat (q := 0) (j := 27) zwX3_worthOf_0 rfl) (z_wat (q := 0) (j := 28) zwX3_worthOf_0 rfl)
theorem dX3_worthOf_29 : decode cX3_worthOf 29 = .ok (.iaload, 1) := z_o46 (z_wat (q := 0) (j := 29) zwX3_worthOf_0 rfl)
theorem dX3_worthOf_30 : decode cX3_worthOf 30 = .ok (.istore 5, 2) := z_o54 (z_wat (q := 0) (j := 30) zwX3_worthOf_0 rfl) (z_wat (q := 0) (j := 31) zwX3_worthOf_0 rfl)
theorem zwX3_worthOf_32 : ((cX3_worthOf.data.toList.drop 32).take 34).map UInt8.toNat = [21, 5, 16, 10, 162, 0, 21, 42, 21, 5, 43, 180, 0, 63, 21, 4, 46, 182, 0, 66, 55, 6, 167, 0, 75, 21, 5, 16, 30, 160, 0, 32, 29, 4] := by decide +kernel
theorem dX3_worthOf_32 : decode cX3_worthOf 32 = .ok (.iload 5, 2) := z_o21 (z_wat (q := 32) (j := 0) zwX3_worthOf_32 rfl) (z_wat (q := 32) (j := 1) zwX3_worthOf_32 rfl)
theorem dX3_worthOf_34 : decode cX3_worthOf 34 = .ok (.bipush 10, 2) := z_o16 (z_wat (q := 32) (j := 2) zwX3_worthOf_32 rfl) (z_wat (q := 32) (j := 3) zwX3_worthOf_32 rfl) rfl
theorem dX3_worthOf_36 : decode cX3_worthOf 36 = .ok (.if_icmp .ge 21, 3) := z_o162 (z_wat (q := 32) (j := 4) zwX3_worthOf_32 rfl) (z_wat (q := 32) (j := 5) zwX3_worthOf_32 rfl) (z_wat (q := 32) (j := 6) zwX3_worthOf_32 rfl) rfl
theorem dX3_worthOf_39 : decode cX3_worthOf 39 = .ok (.aload_n 0, 1) := z_o42 (z_wat (q := 32) (j := 7) zwX3_worthOf_32 rfl)
theorem dX3_worthOf_40 : decode cX3_worthOf 40 = .ok (.iload 5, 2) := z_o21 (z_wat (q := 32) (j := 8) zwX3_worthOf_32 rfl) (z_wat (q := 32) (j := 9) zwX3_worthOf_32 rfl)
theorem dX3_worthOf_42 : decode cX3_worthOf 42 = .ok (.aload_n 1, 1) := z_o43 (z_wat (q := 32) (j := 10) zwX3_worthOf_32 rfl)
theorem dX3_worthOf_43 : decode cX3_worthOf 43 = .ok (.getfield 63, 3) := z_o180 (z_wat (q := 32) (j := 11) zwX3_worthOf_32 rfl) (z_wat (q := 32) (j := 12) zwX3_worthOf_32 rfl) (z_wat (q := 32) (j := 13) zwX3_worthOf_32 rfl) rfl
theorem dX3_worthOf_46 : decode cX3_worthOf 46 = .ok (.iload 4, 2) := z_o21 (z_wat (q := 32) (j := 14) zwX3_worthOf_32 rfl) (z_wat (q := 32) (j := 15) zwX3_worthOf_32 rfl)
theorem dX3_worthOf_48 : decode cX3_worthOf 48 = .ok (.iaload, 1) := z_o46 (z_wat (q := 32) (j := 16) zwX3_worthOf_32 rfl)
theorem dX3_worthOf_49 : decode cX3_worthOf 49 = .ok (.invokevirtual 66, 3) := z_o182 (z_wat (q := 32) (j := 17) zwX3_worthOf_32 rfl) (z_wat (q := 32) (j := 18) zwX3_worthOf_32 rfl) (z_wat (q := 32) (j := 19) zwX3_worthOf_32 rfl) rfl
theorem dX3_worthOf_52 : decode cX3_worthOf 52 = .ok (.lstore 6, 2) := z_o55 (z_wat (q := 32) (j := 20) zwX3_worthOf_32 rfl) (z_wat (q := 32) (j := 21) zwX3_worthOf_32 rfl)
theorem dX3_worthOf_54 : decode cX3_worthOf 54 = .ok (.goto 75, 3) := z_o167 (z_wat (q := 32) (j := 22) zwX3_worthOf_32 rfl) (z_wat (q := 32) (j := 23) zwX3_worthOf_32 rfl) (z_wat (q := 32) (j := 24) zwX3_worthOf_32 rfl) rfl
theorem dX3_worthOf_57 : decode cX3_worthOf 57 = .ok (.iload 5, 2) := z_o21 (z_wat (q := 32) (j := 25) zwX3_worthOf_32 rfl) (z_wat (q := 32) (j := 26) zwX3_worthOf_32 rfl)
theorem dX3_worthOf_59 : decode cX3_worthOf 59 = .ok (.bipush 30, 2) := z_o16 (z_wat (q := 32) (j := 27) zwX3_worthOf_32 rfl) (z_wat (q := 32) (j := 28) zwX3_worthOf_32 rfl) rfl
theorem dX3_worthOf_61 : decode cX3_worthOf 61 = .ok (.if_icmp .ne 32, 3) := z_o160 (z_wat (q := 32) (j := 29) zwX3_worthOf_32 rfl) (z_wat (q := 32) (j := 30) zwX3_worthOf_32 rfl) (z_wat (q := 32) (j := 31) zwX3_worthOf_32 rfl) rfl
theorem zwX3_worthOf_64 : ((cX3_worthOf.data.toList.drop 64).take 34).map UInt8.toNat = [29, 4, 161, 0, 27, 132, 3, 255, 42, 180, 0, 21, 29, 47, 9, 148, 154, 0, 7, 10, 167, 0, 4, 9, 55, 6, 167, 0, 39, 29, 5, 161, 0, 30] := by decide +kernel
theorem dX3_worthOf_64 : decode cX3_worthOf 64 = .ok (.iload_n 3, 1) := z_o29 (z_wat (q := 64) (j := 0) zwX3_worthOf_64 rfl)
theorem dX3_worthOf_65 : decode cX3_worthOf 65 = .ok (.iconst 1, 1) := z_o4 (z_wat (q := 64) (j := 1) zwX3_worthOf_64 rfl)
theorem dX3_worthOf_66 : decode cX3_worthOf 66 = .ok (.if_icmp .lt 27, 3) := z_o161 (z_wat (q := 64) (j := 2) zwX3_worthOf_64 rfl) (z_wat (q := 64) (j := 3) zwX3_worthOf_64 rfl) (z_wat (q := 64) (j := 4) zwX3_worthOf_64 rfl) rfl
theorem dX3_worthOf_69 : decode cX3_worthOf 69 = .ok (.iinc 3 (-1), 3) := z_o132 (z_wat (q := 64) (j := 5) zwX3_worthOf_64 rfl) (z_wat (q := 64) (j := 6) zwX3_worthOf_64 rfl) (z_wat (q := 64) (j := 7) zwX3_worthOf_64 rfl) rfl
theorem dX3_worthOf_72 : decode cX3_worthOf 72 = .ok (.aload_n 0, 1) := z_o42 (z_wat (q := 64) (j := 8) zwX3_worthOf_64 rfl)
theorem dX3_worthOf_73 : decode cX3_worthOf 73 = .ok (.getfield 21, 3) := z_o180 (z_wat (q := 64) (j := 9) zwX3_worthOf_64 rfl) (z_wat (q := 64) (j := 10) zwX3_worthOf_64 rfl) (z_wat (q := 64) (j := 11) zwX3_worthOf_64 rfl) rfl
theorem dX3_worthOf_76 : decode cX3_worthOf 76 = .ok (.iload_n 3, 1) := z_o29 (z_wat (q := 64) (j := 12) zwX3_worthOf_64 rfl)
theorem dX3_worthOf_77 : decode cX3_worthOf 77 = .ok (.laload, 1) := z_o47 (z_wat (q := 64) (j := 13) zwX3_worthOf_64 rfl)
theorem dX3_worthOf_78 : decode cX3_worthOf 78 = .ok (.lconst 0, 1) := z_o9 (z_wat (q := 64) (j := 14) zwX3_worthOf_64 rfl)
theorem dX3_worthOf_79 : decode cX3_worthOf 79 = .ok (.lcmp, 1) := z_o148 (z_wat (q := 64) (j := 15) zwX3_worthOf_64 rfl)
theorem dX3_worthOf_80 : decode cX3_worthOf 80 = .ok (.ifCond .ne 7, 3) := z_o154 (z_wat (q := 64) (j := 16) zwX3_worthOf_64 rfl) (z_wat (q := 64) (j := 17) zwX3_worthOf_64 rfl) (z_wat (q := 64) (j := 18) zwX3_worthOf_64 rfl) rfl
theorem dX3_worthOf_83 : decode cX3_worthOf 83 = .ok (.lconst 1, 1) := z_o10 (z_wat (q := 64) (j := 19) zwX3_worthOf_64 rfl)
theorem dX3_worthOf_84 : decode cX3_worthOf 84 = .ok (.goto 4, 3) := z_o167 (z_wat (q := 64) (j := 20) zwX3_worthOf_64 rfl) (z_wat (q := 64) (j := 21) zwX3_worthOf_64 rfl) (z_wat (q := 64) (j := 22) zwX3_worthOf_64 rfl) rfl
theorem dX3_worthOf_87 : decode cX3_worthOf 87 = .ok (.lconst 0, 1) := z_o9 (z_wat (q := 64) (j := 23) zwX3_worthOf_64 rfl)
theorem dX3_worthOf_88 : decode cX3_worthOf 88 = .ok (.lstore 6, 2) := z_o55 (z_wat (q := 64) (j := 24) zwX3_worthOf_64 rfl) (z_wat (q := 64) (j := 25) zwX3_worthOf_64 rfl)
theorem dX3_worthOf_90 : decode cX3_worthOf 90 = .ok (.goto 39, 3) := z_o167 (z_wat (q := 64) (j := 26) zwX3_worthOf_64 rfl) (z_wat (q := 64) (j := 27) zwX3_worthOf_64 rfl) (z_wat (q := 64) (j := 28) zwX3_worthOf_64 rfl) rfl
theorem dX3_worthOf_93 : decode cX3_worthOf 93 = .ok (.iload_n 3, 1) := z_o29 (z_wat (q := 64) (j := 29) zwX3_worthOf_64 rfl)
theorem dX3_worthOf_94 : decode cX3_worthOf 94 = .ok (.iconst 2, 1) := z_o5 (z_wat (q := 64) (j := 30) zwX3_worthOf_64 rfl)
theorem dX3_worthOf_95 : decode cX3_worthOf 95 = .ok (.if_icmp .lt 30, 3) := z_o161 (z_wat (q := 64) (j := 31) zwX3_worthOf_64 rfl) (z_wat (q := 64) (j := 32) zwX3_worthOf_64 rfl) (z_wat (q := 64) (j := 33) zwX3_worthOf_64 rfl) rfl
theorem zwX3_worthOf_96 : ((cX3_worthOf.data.toList.drop 96).take 34).map UInt8.toNat = [0, 30, 132, 3, 254, 21, 5, 42, 180, 0, 21, 29, 47, 42, 180, 0, 21, 29, 4, 96, 47, 184, 0, 70, 55, 6, 167, 0, 7, 20, 0, 74, 173, 22] := by decide +kernel
theorem dX3_worthOf_98 : decode cX3_worthOf 98 = .ok (.iinc 3 (-2), 3) := z_o132 (z_wat (q := 96) (j := 2) zwX3_worthOf_96 rfl) (z_wat (q := 96) (j := 3) zwX3_worthOf_96 rfl) (z_wat (q := 96) (j := 4) zwX3_worthOf_96 rfl) rfl
theorem dX3_worthOf_101 : decode cX3_worthOf 101 = .ok (.iload 5, 2) := z_o21 (z_wat (q := 96) (j := 5) zwX3_worthOf_96 rfl) (z_wat (q := 96) (j := 6) zwX3_worthOf_96 rfl)
theorem dX3_worthOf_103 : decode cX3_worthOf 103 = .ok (.aload_n 0, 1) := z_o42 (z_wat (q := 96) (j := 7) zwX3_worthOf_96 rfl)
theorem dX3_worthOf_104 : decode cX3_worthOf 104 = .ok (.getfield 21, 3) := z_o180 (z_wat (q := 96) (j := 8) zwX3_worthOf_96 rfl) (z_wat (q := 96) (j := 9) zwX3_worthOf_96 rfl) (z_wat (q := 96) (j := 10) zwX3_worthOf_96 rfl) rfl
theorem dX3_worthOf_107 : decode cX3_worthOf 107 = .ok (.iload_n 3, 1) := z_o29 (z_wat (q := 96) (j := 11) zwX3_worthOf_96 rfl)
theorem dX3_worthOf_108 : decode cX3_worthOf 108 = .ok (.laload, 1) := z_o47 (z_wat (q := 96) (j := 12) zwX3_worthOf_96 rfl)
theorem dX3_worthOf_109 : decode cX3_worthOf 109 = .ok (.aload_n 0, 1) := z_o42 (z_wat (q := 96) (j := 13) zwX3_worthOf_96 rfl)
theorem dX3_worthOf_110 : decode cX3_worthOf 110 = .ok (.getfield 21, 3) := z_o180 (z_wat (q := 96) (j := 14) zwX3_worthOf_96 rfl) (z_wat (q := 96) (j := 15) zwX3_worthOf_96 rfl) (z_wat (q := 96) (j := 16) zwX3_worthOf_96 rfl) rfl
theorem dX3_worthOf_113 : decode cX3_worthOf 113 = .ok (.iload_n 3, 1) := z_o29 (z_wat (q := 96) (j := 17) zwX3_worthOf_96 rfl)
theorem dX3_worthOf_114 : decode cX3_worthOf 114 = .ok (.iconst 1, 1) := z_o4 (z_wat (q := 96) (j := 18) zwX3_worthOf_96 rfl)
theorem dX3_worthOf_115 : decode cX3_worthOf 115 = .ok (.iadd, 1) := z_o96 (z_wat (q := 96) (j := 19) zwX3_worthOf_96 rfl)
theorem dX3_worthOf_116 : decode cX3_worthOf 116 = .ok (.laload, 1) := z_o47 (z_wat (q := 96) (j := 20) zwX3_worthOf_96 rfl)
theorem dX3_worthOf_117 : decode cX3_worthOf 117 = .ok (.invokestatic 70, 3) := z_o184 (z_wat (q := 96) (j := 21) zwX3_worthOf_96 rfl) (z_wat (q := 96) (j := 22) zwX3_worthOf_96 rfl) (z_wat (q := 96) (j := 23) zwX3_worthOf_96 rfl) rfl
theorem dX3_worthOf_120 : decode cX3_worthOf 120 = .ok (.lstore 6, 2) := z_o55 (z_wat (q := 96) (j := 24) zwX3_worthOf_96 rfl) (z_wat (q := 96) (j := 25) zwX3_worthOf_96 rfl)
theorem dX3_worthOf_122 : decode cX3_worthOf 122 = .ok (.goto 7, 3) := z_o167 (z_wat (q := 96) (j := 26) zwX3_worthOf_96 rfl) (z_wat (q := 96) (j := 27) zwX3_worthOf_96 rfl) (z_wat (q := 96) (j := 28) zwX3_worthOf_96 rfl) rfl
theorem dX3_worthOf_125 : decode cX3_worthOf 125 = .ok (.ldc2_w 74, 3) := z_o20 (z_wat (q := 96) (j := 29) zwX3_worthOf_96 rfl) (z_wat (q := 96) (j := 30) zwX3_worthOf_96 rfl) (z_wat (q := 96) (j := 31) zwX3_worthOf_96 rfl) rfl
theorem zwX3_worthOf_128 : ((cX3_worthOf.data.toList.drop 128).take 34).map UInt8.toNat = [173, 22, 6, 20, 0, 74, 148, 153, 0, 9, 29, 16, 96, 161, 0, 7, 20, 0, 74, 173, 42, 180, 0, 21, 29, 22, 6, 80, 132, 3, 1, 132, 4, 1] := by decide +kernel
theorem dX3_worthOf_128 : decode cX3_worthOf 128 = .ok (.lreturn, 1) := z_o173 (z_wat (q := 128) (j := 0) zwX3_worthOf_128 rfl)
theorem dX3_worthOf_129 : decode cX3_worthOf 129 = .ok (.lload 6, 2) := z_o22 (z_wat (q := 128) (j := 1) zwX3_worthOf_128 rfl) (z_wat (q := 128) (j := 2) zwX3_worthOf_128 rfl)
theorem dX3_worthOf_131 : decode cX3_worthOf 131 = .ok (.ldc2_w 74, 3) := z_o20 (z_wat (q := 128) (j := 3) zwX3_worthOf_128 rfl) (z_wat (q := 128) (j := 4) zwX3_worthOf_128 rfl) (z_wat (q := 128) (j := 5) zwX3_worthOf_128 rfl) rfl
theorem dX3_worthOf_134 : decode cX3_worthOf 134 = .ok (.lcmp, 1) := z_o148 (z_wat (q := 128) (j := 6) zwX3_worthOf_128 rfl)
theorem dX3_worthOf_135 : decode cX3_worthOf 135 = .ok (.ifCond .eq 9, 3) := z_o153 (z_wat (q := 128) (j := 7) zwX3_worthOf_128 rfl) (z_wat (q := 128) (j := 8) zwX3_worthOf_128 rfl) (z_wat (q := 128) (j := 9) zwX3_worthOf_128 rfl) rfl
theorem dX3_worthOf_138 : decode cX3_worthOf 138 = .ok (.iload_n 3, 1) := z_o29 (z_wat (q := 128) (j := 10) zwX3_worthOf_128 rfl)
theorem dX3_worthOf_139 : decode cX3_worthOf 139 = .ok (.bipush 96, 2) := z_o16 (z_wat (q := 128) (j := 11) zwX3_worthOf_128 rfl) (z_wat (q := 128) (j := 12) zwX3_worthOf_128 rfl) rfl
theorem dX3_worthOf_141 : decode cX3_worthOf 141 = .ok (.if_icmp .lt 7, 3) := z_o161 (z_wat (q := 128) (j := 13) zwX3_worthOf_128 rfl) (z_wat (q := 128) (j := 14) zwX3_worthOf_128 rfl) (z_wat (q := 128) (j := 15) zwX3_worthOf_128 rfl) rfl
theorem dX3_worthOf_144 : decode cX3_worthOf 144 = .ok (.ldc2_w 74, 3) := z_o20 (z_wat (q := 128) (j := 16) zwX3_worthOf_128 rfl) (z_wat (q := 128) (j := 17) zwX3_worthOf_128 rfl) (z_wat (q := 128) (j := 18) zwX3_worthOf_128 rfl) rfl
theorem dX3_worthOf_147 : decode cX3_worthOf 147 = .ok (.lreturn, 1) := z_o173 (z_wat (q := 128) (j := 19) zwX3_worthOf_128 rfl)
theorem dX3_worthOf_148 : decode cX3_worthOf 148 = .ok (.aload_n 0, 1) := z_o42 (z_wat (q := 128) (j := 20) zwX3_worthOf_128 rfl)
theorem dX3_worthOf_149 : decode cX3_worthOf 149 = .ok (.getfield 21, 3) := z_o180 (z_wat (q := 128) (j := 21) zwX3_worthOf_128 rfl) (z_wat (q := 128) (j := 22) zwX3_worthOf_128 rfl) (z_wat (q := 128) (j := 23) zwX3_worthOf_128 rfl) rfl
theorem dX3_worthOf_152 : decode cX3_worthOf 152 = .ok (.iload_n 3, 1) := z_o29 (z_wat (q := 128) (j := 24) zwX3_worthOf_128 rfl)
theorem dX3_worthOf_153 : decode cX3_worthOf 153 = .ok (.lload 6, 2) := z_o22 (z_wat (q := 128) (j := 25) zwX3_worthOf_128 rfl) (z_wat (q := 128) (j := 26) zwX3_worthOf_128 rfl)
theorem dX3_worthOf_155 : decode cX3_worthOf 155 = .ok (.lastore, 1) := z_o80 (z_wat (q := 128) (j := 27) zwX3_worthOf_128 rfl)
theorem dX3_worthOf_156 : decode cX3_worthOf 156 = .ok (.iinc 3 1, 3) := z_o132 (z_wat (q := 128) (j := 28) zwX3_worthOf_128 rfl) (z_wat (q := 128) (j := 29) zwX3_worthOf_128 rfl) (z_wat (q := 128) (j := 30) zwX3_worthOf_128 rfl) rfl
theorem dX3_worthOf_159 : decode cX3_worthOf 159 = .ok (.iinc 4 1, 3) := z_o132 (z_wat (q := 128) (j := 31) zwX3_worthOf_128 rfl) (z_wat (q := 128) (j := 32) zwX3_worthOf_128 rfl) (z_wat (q := 128) (j := 33) zwX3_worthOf_128 rfl) rfl
theorem zwX3_worthOf_160 : ((cX3_worthOf.data.toList.drop 160).take 23).map UInt8.toNat = [4, 1, 167, 255, 104, 29, 4, 160, 0, 12, 42, 180, 0, 21, 3, 47, 167, 0, 6, 20, 0, 74, 173] := by decide +kernel
theorem dX3_worthOf_162 : decode cX3_worthOf 162 = .ok (.goto (-152), 3) := z_o167 (z_wat (q := 160) (j := 2) zwX3_worthOf_160 rfl) (z_wat (q := 160) (j := 3) zwX3_worthOf_160 rfl) (z_wat (q := 160) (j := 4) zwX3_worthOf_160 rfl) rfl
theorem dX3_worthOf_165 : decode cX3_worthOf 165 = .ok (.iload_n 3, 1) := z_o29 (z_wat (q := 160) (j := 5) zwX3_worthOf_160 rfl)
theorem dX3_worthOf_166 : decode cX3_worthOf 166 = .ok (.iconst 1, 1) := z_o4 (z_wat (q := 160) (j := 6) zwX3_worthOf_160 rfl)
theorem dX3_worthOf_167 : decode cX3_worthOf 167 = .ok (.if_icmp .ne 12, 3) := z_o160 (z_wat (q := 160) (j := 7) zwX3_worthOf_160 rfl) (z_wat (q := 160) (j := 8) zwX3_worthOf_160 rfl) (z_wat (q := 160) (j := 9) zwX3_worthOf_160 rfl) rfl
theorem dX3_worthOf_170 : decode cX3_worthOf 170 = .ok (.aload_n 0, 1) := z_o42 (z_wat (q := 160) (j := 10) zwX3_worthOf_160 rfl)
theorem dX3_worthOf_171 : decode cX3_worthOf 171 = .ok (.getfield 21, 3) := z_o180 (z_wat (q := 160) (j := 11) zwX3_worthOf_160 rfl) (z_wat (q := 160) (j := 12) zwX3_worthOf_160 rfl) (z_wat (q := 160) (j := 13) zwX3_worthOf_160 rfl) rfl
theorem dX3_worthOf_174 : decode cX3_worthOf 174 = .ok (.iconst 0, 1) := z_o3 (z_wat (q := 160) (j := 14) zwX3_worthOf_160 rfl)
theorem dX3_worthOf_175 : decode cX3_worthOf 175 = .ok (.laload, 1) := z_o47 (z_wat (q := 160) (j := 15) zwX3_worthOf_160 rfl)
theorem dX3_worthOf_176 : decode cX3_worthOf 176 = .ok (.goto 6, 3) := z_o167 (z_wat (q := 160) (j := 16) zwX3_worthOf_160 rfl) (z_wat (q := 160) (j := 17) zwX3_worthOf_160 rfl) (z_wat (q := 160) (j := 18) zwX3_worthOf_160 rfl) rfl
theorem dX3_worthOf_179 : decode cX3_worthOf 179 = .ok (.ldc2_w 74, 3) := z_o20 (z_wat (q := 160) (j := 19) zwX3_worthOf_160 rfl) (z_wat (q := 160) (j := 20) zwX3_worthOf_160 rfl) (z_wat (q := 160) (j := 21) zwX3_worthOf_160 rfl) rfl
theorem dX3_worthOf_182 : decode cX3_worthOf 182 = .ok (.lreturn, 1) := z_o173 (z_wat (q := 160) (j := 22) zwX3_worthOf_160 rfl)
