theorem zwX12_know_0 : ((cX12_know.data.toList.drop 0).take 34).map UInt8.toNat = [3, 61, 28, 16, 80, 162, 0, 25, 42, 180, 0, 25, 28, 28, 27, 162, 0, 7, 4, 167, 0, 4, 3, 84, 132, 2, 1, 167, 255, 231, 27, 4, 100, 61] := by decide +kernel
theorem dX12_know_0 : decode cX12_know 0 = .ok (.iconst 0, 1) := z_o3 (z_wat (q := 0) (j := 0) zwX12_know_0 rfl)
theorem dX12_know_1 : decode cX12_know 1 = .ok (.istore_n 2, 1) := z_o61 (z_wat (q := 0) (j := 1) zwX12_know_0 rfl)
theorem dX12_know_2 : decode cX12_know 2 = .ok (.iload_n 2, 1) := z_o28 (z_wat (q := 0) (j := 2) zwX12_know_0 rfl)
theorem dX12_know_3 : decode cX12_know 3 = .ok (.bipush 80, 2) := z_o16 (z_wat (q := 0) (j := 3) zwX12_know_0 rfl) (z_wat (q := 0) (j := 4) zwX12_know_0 rfl) rfl
theorem dX12_know_5 : decode cX12_know 5 = .ok (.if_icmp .ge 25, 3) := z_o162 (z_wat (q := 0) (j := 5) zwX12_know_0 rfl) (z_wat (q := 0) (j := 6) zwX12_know_0 rfl) (z_wat (q := 0) (j := 7) zwX12_know_0 rfl) rfl
theorem dX12_know_8 : decode cX12_know 8 = .ok (.aload_n 0, 1) := z_o42 (z_wat (q := 0) (j := 8) zwX12_know_0 rfl)
theorem dX12_know_9 : decode cX12_know 9 = .ok (.getfield 25, 3) := z_o180 (z_wat (q := 0) (j := 9) zwX12_know_0 rfl) (z_wat (q := 0) (j := 10) zwX12_know_0 rfl) (z_wat (q := 0) (j := 11) zwX12_know_0 rfl) rfl
theorem dX12_know_12 : decode cX12_know 12 = .ok (.iload_n 2, 1) := z_o28 (z_wat (q := 0) (j := 12) zwX12_know_0 rfl)
theorem dX12_know_13 : decode cX12_know 13 = .ok (.iload_n 2, 1) := z_o28 (z_wat (q := 0) (j := 13) zwX12_know_0 rfl)
theorem dX12_know_14 : decode cX12_know 14 = .ok (.iload_n 1, 1) := z_o27 (z_wat (q := 0) (j := 14) zwX12_know_0 rfl)
theorem dX12_know_15 : decode cX12_know 15 = .ok (.if_icmp .ge 7, 3) := z_o162 (z_wat (q := 0) (j := 15) zwX12_know_0 rfl) (z_wat (q := 0) (j := 16) zwX12_know_0 rfl) (z_wat (q := 0) (j := 17) zwX12_know_0 rfl) rfl
theorem dX12_know_18 : decode cX12_know 18 = .ok (.iconst 1, 1) := z_o4 (z_wat (q := 0) (j := 18) zwX12_know_0 rfl)
theorem dX12_know_19 : decode cX12_know 19 = .ok (.goto 4, 3) := z_o167 (z_wat (q := 0) (j := 19) zwX12_know_0 rfl) (z_wat (q := 0) (j := 20) zwX12_know_0 rfl) (z_wat (q := 0) (j := 21) zwX12_know_0 rfl) rfl
theorem dX12_know_22 : decode cX12_know 22 = .ok (.iconst 0, 1) := z_o3 (z_wat (q := 0) (j := 22) zwX12_know_0 rfl)
theorem dX12_know_23 : decode cX12_know 23 = .ok (.bastore, 1) := z_o84 (z_wat (q := 0) (j := 23) zwX12_know_0 rfl)
theorem dX12_know_24 : decode cX12_know 24 = .ok (.iinc 2 1, 3) := z_o132 (z_wat (q := 0) (j := 24) zwX12_know_0 rfl) (z_wat (q := 0) (j := 25) zwX12_know_0 rfl) (z_wat (q := 0) (j := 26) zwX12_know_0 rfl) rfl
theorem dX12_know_27 : decode cX12_know 27 = .ok (.goto (-25), 3) := z_o167 (z_wat (q := 0) (j := 27) zwX12_know_0 rfl) (z_wat (q := 0) (j := 28) zwX12_know_0 rfl) (z_wat (q := 0) (j := 29) zwX12_know_0 rfl) rfl
theorem dX12_know_30 : decode cX12_know 30 = .ok (.iload_n 1, 1) := z_o27 (z_wat (q := 0) (j := 30) zwX12_know_0 rfl)
theorem dX12_know_31 : decode cX12_know 31 = .ok (.iconst 1, 1) := z_o4 (z_wat (q := 0) (j := 31) zwX12_know_0 rfl)
theorem zwX12_know_32 : ((cX12_know.data.toList.drop 32).take 34).map UInt8.toNat = [100, 61, 28, 155, 0, 41, 42, 180, 0, 13, 28, 46, 16, 9, 160, 0, 24, 42, 180, 0, 25, 28, 51, 153, 0, 15, 42, 180, 0, 25, 42, 180, 0, 16] := by decide +kernel
theorem dX12_know_32 : decode cX12_know 32 = .ok (.isub, 1) := z_o100 (z_wat (q := 32) (j := 0) zwX12_know_32 rfl)
theorem dX12_know_33 : decode cX12_know 33 = .ok (.istore_n 2, 1) := z_o61 (z_wat (q := 32) (j := 1) zwX12_know_32 rfl)
theorem dX12_know_34 : decode cX12_know 34 = .ok (.iload_n 2, 1) := z_o28 (z_wat (q := 32) (j := 2) zwX12_know_32 rfl)
theorem dX12_know_35 : decode cX12_know 35 = .ok (.ifCond .lt 41, 3) := z_o155 (z_wat (q := 32) (j := 3) zwX12_know_32 rfl) (z_wat (q := 32) (j := 4) zwX12_know_32 rfl) (z_wat (q := 32) (j := 5) zwX12_know_32 rfl) rfl
theorem dX12_know_38 : decode cX12_know 38 = .ok (.aload_n 0, 1) := z_o42 (z_wat (q := 32) (j := 6) zwX12_know_32 rfl)
theorem dX12_know_39 : decode cX12_know 39 = .ok (.getfield 13, 3) := z_o180 (z_wat (q := 32) (j := 7) zwX12_know_32 rfl) (z_wat (q := 32) (j := 8) zwX12_know_32 rfl) (z_wat (q := 32) (j := 9) zwX12_know_32 rfl) rfl
theorem dX12_know_42 : decode cX12_know 42 = .ok (.iload_n 2, 1) := z_o28 (z_wat (q := 32) (j := 10) zwX12_know_32 rfl)
theorem dX12_know_43 : decode cX12_know 43 = .ok (.iaload, 1) := z_o46 (z_wat (q := 32) (j := 11) zwX12_know_32 rfl)
theorem dX12_know_44 : decode cX12_know 44 = .ok (.bipush 9, 2) := z_o16 (z_wat (q := 32) (j := 12) zwX12_know_32 rfl) (z_wat (q := 32) (j := 13) zwX12_know_32 rfl) rfl
theorem dX12_know_46 : decode cX12_know 46 = .ok (.if_icmp .ne 24, 3) := z_o160 (z_wat (q := 32) (j := 14) zwX12_know_32 rfl) (z_wat (q := 32) (j := 15) zwX12_know_32 rfl) (z_wat (q := 32) (j := 16) zwX12_know_32 rfl) rfl
theorem dX12_know_49 : decode cX12_know 49 = .ok (.aload_n 0, 1) := z_o42 (z_wat (q := 32) (j := 17) zwX12_know_32 rfl)
theorem dX12_know_50 : decode cX12_know 50 = .ok (.getfield 25, 3) := z_o180 (z_wat (q := 32) (j := 18) zwX12_know_32 rfl) (z_wat (q := 32) (j := 19) zwX12_know_32 rfl) (z_wat (q := 32) (j := 20) zwX12_know_32 rfl) rfl
theorem dX12_know_53 : decode cX12_know 53 = .ok (.iload_n 2, 1) := z_o28 (z_wat (q := 32) (j := 21) zwX12_know_32 rfl)
theorem dX12_know_54 : decode cX12_know 54 = .ok (.baload, 1) := z_o51 (z_wat (q := 32) (j := 22) zwX12_know_32 rfl)
theorem dX12_know_55 : decode cX12_know 55 = .ok (.ifCond .eq 15, 3) := z_o153 (z_wat (q := 32) (j := 23) zwX12_know_32 rfl) (z_wat (q := 32) (j := 24) zwX12_know_32 rfl) (z_wat (q := 32) (j := 25) zwX12_know_32 rfl) rfl
theorem dX12_know_58 : decode cX12_know 58 = .ok (.aload_n 0, 1) := z_o42 (z_wat (q := 32) (j := 26) zwX12_know_32 rfl)
theorem dX12_know_59 : decode cX12_know 59 = .ok (.getfield 25, 3) := z_o180 (z_wat (q := 32) (j := 27) zwX12_know_32 rfl) (z_wat (q := 32) (j := 28) zwX12_know_32 rfl) (z_wat (q := 32) (j := 29) zwX12_know_32 rfl) rfl
theorem dX12_know_62 : decode cX12_know 62 = .ok (.aload_n 0, 1) := z_o42 (z_wat (q := 32) (j := 30) zwX12_know_32 rfl)
theorem dX12_know_63 : decode cX12_know 63 = .ok (.getfield 16, 3) := z_o180 (z_wat (q := 32) (j := 31) zwX12_know_32 rfl) (z_wat (q := 32) (j := 32) zwX12_know_32 rfl) (z_wat (q := 32) (j := 33) zwX12_know_32 rfl) rfl
theorem zwX12_know_64 : ((cX12_know.data.toList.drop 64).take 34).map UInt8.toNat = [0, 16, 28, 46, 3, 84, 132, 2, 255, 167, 255, 217, 3, 61, 28, 16, 12, 162, 0, 16, 42, 180, 0, 32, 28, 28, 79, 132, 2, 1, 167, 255, 240, 4] := by decide +kernel
theorem dX12_know_66 : decode cX12_know 66 = .ok (.iload_n 2, 1) := z_o28 (z_wat (q := 64) (j := 2) zwX12_know_64 rfl)
theorem dX12_know_67 : decode cX12_know 67 = .ok (.iaload, 1) := z_o46 (z_wat (q := 64) (j := 3) zwX12_know_64 rfl)
theorem dX12_know_68 : decode cX12_know 68 = .ok (.iconst 0, 1) := z_o3 (z_wat (q := 64) (j := 4) zwX12_know_64 rfl)
theorem dX12_know_69 : decode cX12_know 69 = .ok (.bastore, 1) := z_o84 (z_wat (q := 64) (j := 5) zwX12_know_64 rfl)
theorem dX12_know_70 : decode cX12_know 70 = .ok (.iinc 2 (-1), 3) := z_o132 (z_wat (q := 64) (j := 6) zwX12_know_64 rfl) (z_wat (q := 64) (j := 7) zwX12_know_64 rfl) (z_wat (q := 64) (j := 8) zwX12_know_64 rfl) rfl
theorem dX12_know_73 : decode cX12_know 73 = .ok (.goto (-39), 3) := z_o167 (z_wat (q := 64) (j := 9) zwX12_know_64 rfl) (z_wat (q := 64) (j := 10) zwX12_know_64 rfl) (z_wat (q := 64) (j := 11) zwX12_know_64 rfl) rfl
theorem dX12_know_76 : decode cX12_know 76 = .ok (.iconst 0, 1) := z_o3 (z_wat (q := 64) (j := 12) zwX12_know_64 rfl)
theorem dX12_know_77 : decode cX12_know 77 = .ok (.istore_n 2, 1) := z_o61 (z_wat (q := 64) (j := 13) zwX12_know_64 rfl)
theorem dX12_know_78 : decode cX12_know 78 = .ok (.iload_n 2, 1) := z_o28 (z_wat (q := 64) (j := 14) zwX12_know_64 rfl)
theorem dX12_know_79 : decode cX12_know 79 = .ok (.bipush 12, 2) := z_o16 (z_wat (q := 64) (j := 15) zwX12_know_64 rfl) (z_wat (q := 64) (j := 16) zwX12_know_64 rfl) rfl
theorem dX12_know_81 : decode cX12_know 81 = .ok (.if_icmp .ge 16, 3) := z_o162 (z_wat (q := 64) (j := 17) zwX12_know_64 rfl) (z_wat (q := 64) (j := 18) zwX12_know_64 rfl) (z_wat (q := 64) (j := 19) zwX12_know_64 rfl) rfl
theorem dX12_know_84 : decode cX12_know 84 = .ok (.aload_n 0, 1) := z_o42 (z_wat (q := 64) (j := 20) zwX12_know_64 rfl)
theorem dX12_know_85 : decode cX12_know 85 = .ok (.getfield 32, 3) := z_o180 (z_wat (q := 64) (j := 21) zwX12_know_64 rfl) (z_wat (q := 64) (j := 22) zwX12_know_64 rfl) (z_wat (q := 64) (j := 23) zwX12_know_64 rfl) rfl
theorem dX12_know_88 : decode cX12_know 88 = .ok (.iload_n 2, 1) := z_o28 (z_wat (q := 64) (j := 24) zwX12_know_64 rfl)
theorem dX12_know_89 : decode cX12_know 89 = .ok (.iload_n 2, 1) := z_o28 (z_wat (q := 64) (j := 25) zwX12_know_64 rfl)
theorem dX12_know_90 : decode cX12_know 90 = .ok (.iastore, 1) := z_o79 (z_wat (q := 64) (j := 26) zwX12_know_64 rfl)
theorem dX12_know_91 : decode cX12_know 91 = .ok (.iinc 2 1, 3) := z_o132 (z_wat (q := 64) (j := 27) zwX12_know_64 rfl) (z_wat (q := 64) (j := 28) zwX12_know_64 rfl) (z_wat (q := 64) (j := 29) zwX12_know_64 rfl) rfl
theorem dX12_know_94 : decode cX12_know 94 = .ok (.goto (-16), 3) := z_o167 (z_wat (q := 64) (j := 30) zwX12_know_64 rfl) (z_wat (q := 64) (j := 31) zwX12_know_64 rfl) (z_wat (q := 64) (j := 32) zwX12_know_64 rfl) rfl
theorem zwX12_know_96 : ((cX12_know.data.toList.drop 96).take 34).map UInt8.toNat = [240, 4, 61, 28, 153, 0, 151, 3, 61, 3, 62, 29, 42, 180, 0, 154, 162, 0, 136, 42, 180, 0, 25, 29, 51, 153, 0, 121, 42, 180, 0, 13, 29, 46] := by decide +kernel
theorem dX12_know_97 : decode cX12_know 97 = .ok (.iconst 1, 1) := z_o4 (z_wat (q := 96) (j := 1) zwX12_know_96 rfl)
theorem dX12_know_98 : decode cX12_know 98 = .ok (.istore_n 2, 1) := z_o61 (z_wat (q := 96) (j := 2) zwX12_know_96 rfl)
theorem dX12_know_99 : decode cX12_know 99 = .ok (.iload_n 2, 1) := z_o28 (z_wat (q := 96) (j := 3) zwX12_know_96 rfl)
theorem dX12_know_100 : decode cX12_know 100 = .ok (.ifCond .eq 151, 3) := z_o153 (z_wat (q := 96) (j := 4) zwX12_know_96 rfl) (z_wat (q := 96) (j := 5) zwX12_know_96 rfl) (z_wat (q := 96) (j := 6) zwX12_know_96 rfl) rfl
theorem dX12_know_103 : decode cX12_know 103 = .ok (.iconst 0, 1) := z_o3 (z_wat (q := 96) (j := 7) zwX12_know_96 rfl)
theorem dX12_know_104 : decode cX12_know 104 = .ok (.istore_n 2, 1) := z_o61 (z_wat (q := 96) (j := 8) zwX12_know_96 rfl)
theorem dX12_know_105 : decode cX12_know 105 = .ok (.iconst 0, 1) := z_o3 (z_wat (q := 96) (j := 9) zwX12_know_96 rfl)
theorem dX12_know_106 : decode cX12_know 106 = .ok (.istore_n 3, 1) := z_o62 (z_wat (q := 96) (j := 10) zwX12_know_96 rfl)
theorem dX12_know_107 : decode cX12_know 107 = .ok (.iload_n 3, 1) := z_o29 (z_wat (q := 96) (j := 11) zwX12_know_96 rfl)
theorem dX12_know_108 : decode cX12_know 108 = .ok (.aload_n 0, 1) := z_o42 (z_wat (q := 96) (j := 12) zwX12_know_96 rfl)
theorem dX12_know_109 : decode cX12_know 109 = .ok (.getfield 154, 3) := z_o180 (z_wat (q := 96) (j := 13) zwX12_know_96 rfl) (z_wat (q := 96) (j := 14) zwX12_know_96 rfl) (z_wat (q := 96) (j := 15) zwX12_know_96 rfl) rfl
theorem dX12_know_112 : decode cX12_know 112 = .ok (.if_icmp .ge 136, 3) := z_o162 (z_wat (q := 96) (j := 16) zwX12_know_96 rfl) (z_wat (q := 96) (j := 17) zwX12_know_96 rfl) (z_wat (q := 96) (j := 18) zwX12_know_96 rfl) rfl
theorem dX12_know_115 : decode cX12_know 115 = .ok (.aload_n 0, 1) := z_o42 (z_wat (q := 96) (j := 19) zwX12_know_96 rfl)
theorem dX12_know_116 : decode cX12_know 116 = .ok (.getfield 25, 3) := z_o180 (z_wat (q := 96) (j := 20) zwX12_know_96 rfl) (z_wat (q := 96) (j := 21) zwX12_know_96 rfl) (z_wat (q := 96) (j := 22) zwX12_know_96 rfl) rfl
theorem dX12_know_119 : decode cX12_know 119 = .ok (.iload_n 3, 1) := z_o29 (z_wat (q := 96) (j := 23) zwX12_know_96 rfl)
theorem dX12_know_120 : decode cX12_know 120 = .ok (.baload, 1) := z_o51 (z_wat (q := 96) (j := 24) zwX12_know_96 rfl)
theorem dX12_know_121 : decode cX12_know 121 = .ok (.ifCond .eq 121, 3) := z_o153 (z_wat (q := 96) (j := 25) zwX12_know_96 rfl) (z_wat (q := 96) (j := 26) zwX12_know_96 rfl) (z_wat (q := 96) (j := 27) zwX12_know_96 rfl) rfl
theorem dX12_know_124 : decode cX12_know 124 = .ok (.aload_n 0, 1) := z_o42 (z_wat (q := 96) (j := 28) zwX12_know_96 rfl)
theorem dX12_know_125 : decode cX12_know 125 = .ok (.getfield 13, 3) := z_o180 (z_wat (q := 96) (j := 29) zwX12_know_96 rfl) (z_wat (q := 96) (j := 30) zwX12_know_96 rfl) (z_wat (q := 96) (j := 31) zwX12_know_96 rfl) rfl
theorem zwX12_know_128 : ((cX12_know.data.toList.drop 128).take 34).map UInt8.toNat = [29, 46, 5, 160, 0, 111, 42, 180, 0, 32, 42, 180, 0, 16, 29, 46, 46, 42, 180, 0, 32, 42, 180, 0, 19, 29, 46, 46, 160, 0, 6, 167, 0, 83] := by decide +kernel
theorem dX12_know_128 : decode cX12_know 128 = .ok (.iload_n 3, 1) := z_o29 (z_wat (q := 128) (j := 0) zwX12_know_128 rfl)
theorem dX12_know_129 : decode cX12_know 129 = .ok (.iaload, 1) := z_o46 (z_wat (q := 128) (j := 1) zwX12_know_128 rfl)
theorem dX12_know_130 : decode cX12_know 130 = .ok (.iconst 2, 1) := z_o5 (z_wat (q := 128) (j := 2) zwX12_know_128 rfl)
theorem dX12_know_131 : decode cX12_know 131 = .ok (.if_icmp .ne 111, 3) := z_o160 (z_wat (q := 128) (j := 3) zwX12_know_128 rfl) (z_wat (q := 128) (j := 4) zwX12_know_128 rfl) (z_wat (q := 128) (j := 5) zwX12_know_128 rfl) rfl
theorem dX12_know_134 : decode cX12_know 134 = .ok (.aload_n 0, 1) := z_o42 (z_wat (q := 128) (j := 6) zwX12_know_128 rfl)
theorem dX12_know_135 : decode cX12_know 135 = .ok (.getfield 32, 3) := z_o180 (z_wat (q := 128) (j := 7) zwX12_know_128 rfl) (z_wat (q := 128) (j := 8) zwX12_know_128 rfl) (z_wat (q := 128) (j := 9) zwX12_know_128 rfl) rfl
theorem dX12_know_138 : decode cX12_know 138 = .ok (.aload_n 0, 1) := z_o42 (z_wat (q := 128) (j := 10) zwX12_know_128 rfl)
theorem dX12_know_139 : decode cX12_know 139 = .ok (.getfield 16, 3) := z_o180 (z_wat (q := 128) (j := 11) zwX12_know_128 rfl) (z_wat (q := 128) (j := 12) zwX12_know_128 rfl) (z_wat (q := 128) (j := 13) zwX12_know_128 rfl) rfl
theorem dX12_know_142 : decode cX12_know 142 = .ok (.iload_n 3, 1) := z_o29 (z_wat (q := 128) (j := 14) zwX12_know_128 rfl)
theorem dX12_know_143 : decode cX12_know 143 = .ok (.iaload, 1) := z_o46 (z_wat (q := 128) (j := 15) zwX12_know_128 rfl)
theorem dX12_know_144 : decode cX12_know 144 = .ok (.iaload, 1) := z_o46 (z_wat (q := 128) (j := 16) zwX12_know_128 rfl)
theorem dX12_know_145 : decode cX12_know 145 = .ok (.aload_n 0, 1) := z_o42 (z_wat (q := 128) (j := 17) zwX12_know_128 rfl)
theorem dX12_know_146 : decode cX12_know 146 = .ok (.getfield 32, 3) := z_o180 (z_wat (q := 128) (j := 18) zwX12_know_128 rfl) (z_wat (q := 128) (j := 19) zwX12_know_128 rfl) (z_wat (q := 128) (j := 20) zwX12_know_128 rfl) rfl
theorem dX12_know_149 : decode cX12_know 149 = .ok (.aload_n 0, 1) := z_o42 (z_wat (q := 128) (j := 21) zwX12_know_128 rfl)
theorem dX12_know_150 : decode cX12_know 150 = .ok (.getfield 19, 3) := z_o180 (z_wat (q := 128) (j := 22) zwX12_know_128 rfl) (z_wat (q := 128) (j := 23) zwX12_know_128 rfl) (z_wat (q := 128) (j := 24) zwX12_know_128 rfl) rfl
theorem dX12_know_153 : decode cX12_know 153 = .ok (.iload_n 3, 1) := z_o29 (z_wat (q := 128) (j := 25) zwX12_know_128 rfl)
theorem dX12_know_154 : decode cX12_know 154 = .ok (.iaload, 1) := z_o46 (z_wat (q := 128) (j := 26) zwX12_know_128 rfl)
theorem dX12_know_155 : decode cX12_know 155 = .ok (.iaload, 1) := z_o46 (z_wat (q := 128) (j := 27) zwX12_know_128 rfl)
theorem dX12_know_156 : decode cX12_know 156 = .ok (.if_icmp .ne 6, 3) := z_o160 (z_wat (q := 128) (j := 28) zwX12_know_128 rfl) (z_wat (q := 128) (j := 29) zwX12_know_128 rfl) (z_wat (q := 128) (j := 30) zwX12_know_128 rfl) rfl
theorem dX12_know_159 : decode cX12_know 159 = .ok (.goto 83, 3) := z_o167 (z_wat (q := 128) (j := 31) zwX12_know_128 rfl) (z_wat (q := 128) (j := 32) zwX12_know_128 rfl) (z_wat (q := 128) (j := 33) zwX12_know_128 rfl) rfl
theorem zwX12_know_160 : ((cX12_know.data.toList.drop 160).take 34).map UInt8.toNat = [0, 83, 42, 180, 0, 32, 42, 180, 0, 16, 29, 46, 46, 42, 180, 0, 32, 42, 180, 0, 19, 29, 46, 46, 162, 0, 17, 42, 180, 0, 32, 42, 180, 0] := by decide +kernel
theorem dX12_know_162 : decode cX12_know 162 = .ok (.aload_n 0, 1) := z_o42 (z_wat (q := 160) (j := 2) zwX12_know_160 rfl)
theorem dX12_know_163 : decode cX12_know 163 = .ok (.getfield 32, 3) := z_o180 (z_wat (q := 160) (j := 3) zwX12_know_160 rfl) (z_wat (q := 160) (j := 4) zwX12_know_160 rfl) (z_wat (q := 160) (j := 5) zwX12_know_160 rfl) rfl
theorem dX12_know_166 : decode cX12_know 166 = .ok (.aload_n 0, 1) := z_o42 (z_wat (q := 160) (j := 6) zwX12_know_160 rfl)
theorem dX12_know_167 : decode cX12_know 167 = .ok (.getfield 16, 3) := z_o180 (z_wat (q := 160) (j := 7) zwX12_know_160 rfl) (z_wat (q := 160) (j := 8) zwX12_know_160 rfl) (z_wat (q := 160) (j := 9) zwX12_know_160 rfl) rfl
theorem dX12_know_170 : decode cX12_know 170 = .ok (.iload_n 3, 1) := z_o29 (z_wat (q := 160) (j := 10) zwX12_know_160 rfl)
theorem dX12_know_171 : decode cX12_know 171 = .ok (.iaload, 1) := z_o46 (z_wat (q := 160) (j := 11) zwX12_know_160 rfl)
theorem dX12_know_172 : decode cX12_know 172 = .ok (.iaload, 1) := z_o46 (z_wat (q := 160) (j := 12) zwX12_know_160 rfl)
theorem dX12_know_173 : decode cX12_know 173 = .ok (.aload_n 0, 1) := z_o42 (z_wat (q := 160) (j := 13) zwX12_know_160 rfl)
theorem dX12_know_174 : decode cX12_know 174 = .ok (.getfield 32, 3) := z_o180 (z_wat (q := 160) (j := 14) zwX12_know_160 rfl) (z_wat (q := 160) (j := 15) zwX12_know_160 rfl) (z_wat (q := 160) (j := 16) zwX12_know_160 rfl) rfl
theorem dX12_know_177 : decode cX12_know 177 = .ok (.aload_n 0, 1) := z_o42 (z_wat (q := 160) (j := 17) zwX12_know_160 rfl)
theorem dX12_know_178 : decode cX12_know 178 = .ok (.getfield 19, 3) := z_o180 (z_wat (q := 160) (j := 18) zwX12_know_160 rfl) (z_wat (q := 160) (j := 19) zwX12_know_160 rfl) (z_wat (q := 160) (j := 20) zwX12_know_160 rfl) rfl
theorem dX12_know_181 : decode cX12_know 181 = .ok (.iload_n 3, 1) := z_o29 (z_wat (q := 160) (j := 21) zwX12_know_160 rfl)
theorem dX12_know_182 : decode cX12_know 182 = .ok (.iaload, 1) := z_o46 (z_wat (q := 160) (j := 22) zwX12_know_160 rfl)
theorem dX12_know_183 : decode cX12_know 183 = .ok (.iaload, 1) := z_o46 (z_wat (q := 160) (j := 23) zwX12_know_160 rfl)
theorem dX12_know_184 : decode cX12_know 184 = .ok (.if_icmp .ge 17, 3) := z_o162 (z_wat (q := 160) (j := 24) zwX12_know_160 rfl) (z_wat (q := 160) (j := 25) zwX12_know_160 rfl) (z_wat (q := 160) (j := 26) zwX12_know_160 rfl) rfl
theorem dX12_know_187 : decode cX12_know 187 = .ok (.aload_n 0, 1) := z_o42 (z_wat (q := 160) (j := 27) zwX12_know_160 rfl)
theorem dX12_know_188 : decode cX12_know 188 = .ok (.getfield 32, 3) := z_o180 (z_wat (q := 160) (j := 28) zwX12_know_160 rfl) (z_wat (q := 160) (j := 29) zwX12_know_160 rfl) (z_wat (q := 160) (j := 30) zwX12_know_160 rfl) rfl
theorem dX12_know_191 : decode cX12_know 191 = .ok (.aload_n 0, 1) := z_o42 (z_wat (q := 160) (j := 31) zwX12_know_160 rfl)
theorem zwX12_know_192 : ((cX12_know.data.toList.drop 192).take 34).map UInt8.toNat = [180, 0, 16, 29, 46, 46, 167, 0, 14, 42, 180, 0, 32, 42, 180, 0, 19, 29, 46, 46, 54, 4, 42, 180, 0, 32, 42, 180, 0, 16, 29, 46, 21, 4] := by decide +kernel
theorem dX12_know_192 : decode cX12_know 192 = .ok (.getfield 16, 3) := z_o180 (z_wat (q := 192) (j := 0) zwX12_know_192 rfl) (z_wat (q := 192) (j := 1) zwX12_know_192 rfl) (z_wat (q := 192) (j := 2) zwX12_know_192 rfl) rfl
theorem dX12_know_195 : decode cX12_know 195 = .ok (.iload_n 3, 1) := z_o29 (z_wat (q := 192) (j := 3) zwX12_know_192 rfl)
theorem dX12_know_196 : decode cX12_know 196 = .ok (.iaload, 1) := z_o46 (z_wat (q := 192) (j := 4) zwX12_know_192 rfl)
theorem dX12_know_197 : decode cX12_know 197 = .ok (.iaload, 1) := z_o46 (z_wat (q := 192) (j := 5) zwX12_know_192 rfl)
theorem dX12_know_198 : decode cX12_know 198 = .ok (.goto 14, 3) := z_o167 (z_wat (q := 192) (j := 6) zwX12_know_192 rfl) (z_wat (q := 192) (j := 7) zwX12_know_192 rfl) (z_wat (q := 192) (j := 8) zwX12_know_192 rfl) rfl
theorem dX12_know_201 : decode cX12_know 201 = .ok (.aload_n 0, 1) := z_o42 (z_wat (q := 192) (j := 9) zwX12_know_192 rfl)
theorem dX12_know_202 : decode cX12_know 202 = .ok (.getfield 32, 3) := z_o180 (z_wat (q := 192) (j := 10) zwX12_know_192 rfl) (z_wat (q := 192) (j := 11) zwX12_know_192 rfl) (z_wat (q := 192) (j := 12) zwX12_know_192 rfl) rfl
theorem dX12_know_205 : decode cX12_know 205 = .ok (.aload_n 0, 1) := z_o42 (z_wat (q := 192) (j := 13) zwX12_know_192 rfl)
theorem dX12_know_206 : decode cX12_know 206 = .ok (.getfield 19, 3) := z_o180 (z_wat (q := 192) (j := 14) zwX12_know_192 rfl) (z_wat (q := 192) (j := 15) zwX12_know_192 rfl) (z_wat (q := 192) (j := 16) zwX12_know_192 rfl) rfl
theorem dX12_know_209 : decode cX12_know 209 = .ok (.iload_n 3, 1) := z_o29 (z_wat (q := 192) (j := 17) zwX12_know_192 rfl)
theorem dX12_know_210 : decode cX12_know 210 = .ok (.iaload, 1) := z_o46 (z_wat (q := 192) (j := 18) zwX12_know_192 rfl)
theorem dX12_know_211 : decode cX12_know 211 = .ok (.iaload, 1) := z_o46 (z_wat (q := 192) (j := 19) zwX12_know_192 rfl)
theorem dX12_know_212 : decode cX12_know 212 = .ok (.istore 4, 2) := z_o54 (z_wat (q := 192) (j := 20) zwX12_know_192 rfl) (z_wat (q := 192) (j := 21) zwX12_know_192 rfl)
theorem dX12_know_214 : decode cX12_know 214 = .ok (.aload_n 0, 1) := z_o42 (z_wat (q := 192) (j := 22) zwX12_know_192 rfl)
theorem dX12_know_215 : decode cX12_know 215 = .ok (.getfield 32, 3) := z_o180 (z_wat (q := 192) (j := 23) zwX12_know_192 rfl) (z_wat (q := 192) (j := 24) zwX12_know_192 rfl) (z_wat (q := 192) (j := 25) zwX12_know_192 rfl) rfl
theorem dX12_know_218 : decode cX12_know 218 = .ok (.aload_n 0, 1) := z_o42 (z_wat (q := 192) (j := 26) zwX12_know_192 rfl)
theorem dX12_know_219 : decode cX12_know 219 = .ok (.getfield 16, 3) := z_o180 (z_wat (q := 192) (j := 27) zwX12_know_192 rfl) (z_wat (q := 192) (j := 28) zwX12_know_192 rfl) (z_wat (q := 192) (j := 29) zwX12_know_192 rfl) rfl
theorem dX12_know_222 : decode cX12_know 222 = .ok (.iload_n 3, 1) := z_o29 (z_wat (q := 192) (j := 30) zwX12_know_192 rfl)
theorem dX12_know_223 : decode cX12_know 223 = .ok (.iaload, 1) := z_o46 (z_wat (q := 192) (j := 31) zwX12_know_192 rfl)
theorem zwX12_know_224 : ((cX12_know.data.toList.drop 224).take 34).map UInt8.toNat = [21, 4, 79, 42, 180, 0, 32, 42, 180, 0, 19, 29, 46, 21, 4, 79, 4, 61, 132, 3, 1, 167, 255, 118, 167, 255, 107, 42, 182, 0, 161, 42, 182, 0] := by decide +kernel
theorem dX12_know_224 : decode cX12_know 224 = .ok (.iload 4, 2) := z_o21 (z_wat (q := 224) (j := 0) zwX12_know_224 rfl) (z_wat (q := 224) (j := 1) zwX12_know_224 rfl)
theorem dX12_know_226 : decode cX12_know 226 = .ok (.iastore, 1) := z_o79 (z_wat (q := 224) (j := 2) zwX12_know_224 rfl)
theorem dX12_know_227 : decode cX12_know 227 = .ok (.aload_n 0, 1) := z_o42 (z_wat (q := 224) (j := 3) zwX12_know_224 rfl)
theorem dX12_know_228 : decode cX12_know 228 = .ok (.getfield 32, 3) := z_o180 (z_wat (q := 224) (j := 4) zwX12_know_224 rfl) (z_wat (q := 224) (j := 5) zwX12_know_224 rfl) (z_wat (q := 224) (j := 6) zwX12_know_224 rfl) rfl
theorem dX12_know_231 : decode cX12_know 231 = .ok (.aload_n 0, 1) := z_o42 (z_wat (q := 224) (j := 7) zwX12_know_224 rfl)
theorem dX12_know_232 : decode cX12_know 232 = .ok (.getfield 19, 3) := z_o180 (z_wat (q := 224) (j := 8) zwX12_know_224 rfl) (z_wat (q := 224) (j := 9) zwX12_know_224 rfl) (z_wat (q := 224) (j := 10) zwX12_know_224 rfl) rfl
theorem dX12_know_235 : decode cX12_know 235 = .ok (.iload_n 3, 1) := z_o29 (z_wat (q := 224) (j := 11) zwX12_know_224 rfl)
theorem dX12_know_236 : decode cX12_know 236 = .ok (.iaload, 1) := z_o46 (z_wat (q := 224) (j := 12) zwX12_know_224 rfl)
theorem dX12_know_237 : decode cX12_know 237 = .ok (.iload 4, 2) := z_o21 (z_wat (q := 224) (j := 13) zwX12_know_224 rfl) (z_wat (q := 224) (j := 14) zwX12_know_224 rfl)
theorem dX12_know_239 : decode cX12_know 239 = .ok (.iastore, 1) := z_o79 (z_wat (q := 224) (j := 15) zwX12_know_224 rfl)
theorem dX12_know_240 : decode cX12_know 240 = .ok (.iconst 1, 1) := z_o4 (z_wat (q := 224) (j := 16) zwX12_know_224 rfl)
theorem dX12_know_241 : decode cX12_know 241 = .ok (.istore_n 2, 1) := z_o61 (z_wat (q := 224) (j := 17) zwX12_know_224 rfl)
theorem dX12_know_242 : decode cX12_know 242 = .ok (.iinc 3 1, 3) := z_o132 (z_wat (q := 224) (j := 18) zwX12_know_224 rfl) (z_wat (q := 224) (j := 19) zwX12_know_224 rfl) (z_wat (q := 224) (j := 20) zwX12_know_224 rfl) rfl
theorem dX12_know_245 : decode cX12_know 245 = .ok (.goto (-138), 3) := z_o167 (z_wat (q := 224) (j := 21) zwX12_know_224 rfl) (z_wat (q := 224) (j := 22) zwX12_know_224 rfl) (z_wat (q := 224) (j := 23) zwX12_know_224 rfl) rfl
theorem dX12_know_248 : decode cX12_know 248 = .ok (.goto (-149), 3) := z_o167 (z_wat (q := 224) (j := 24) zwX12_know_224 rfl) (z_wat (q := 224) (j := 25) zwX12_know_224 rfl) (z_wat (q := 224) (j := 26) zwX12_know_224 rfl) rfl
theorem dX12_know_251 : decode cX12_know 251 = .ok (.aload_n 0, 1) := z_o42 (z_wat (q := 224) (j := 27) zwX12_know_224 rfl)
theorem dX12_know_252 : decode cX12_know 252 = .ok (.invokevirtual 161, 3) := z_o182 (z_wat (q := 224) (j := 28) zwX12_know_224 rfl) (z_wat (q := 224) (j := 29) zwX12_know_224 rfl) (z_wat (q := 224) (j := 30) zwX12_know_224 rfl) rfl
theorem dX12_know_255 : decode cX12_know 255 = .ok (.aload_n 0, 1) := z_o42 (z_wat (q := 224) (j := 31) zwX12_know_224 rfl)
theorem zwX12_know_256 : ((cX12_know.data.toList.drop 256).take 4).map UInt8.toNat = [182, 0, 164, 177] := by decide +kernel
theorem dX12_know_256 : decode cX12_know 256 = .ok (.invokevirtual 164, 3) := z_o182 (z_wat (q := 256) (j := 0) zwX12_know_256 rfl) (z_wat (q := 256) (j := 1) zwX12_know_256 rfl) (z_wat (q := 256) (j := 2) zwX12_know_256 rfl) rfl
theorem dX12_know_259 : decode cX12_know 259 = .ok (.return_, 1) := z_o177 (z_wat (q := 256) (j := 3) zwX12_know_256 rfl)
theorem zwX12_note_0 : ((cX12_note.data.toList.drop 0).take 34).map UInt8.toNat = [42, 3, 181, 0, 145, 27, 155, 0, 25, 27, 6, 163, 0, 20, 42, 180, 0, 154, 16, 80, 159, 0, 11, 42, 28, 182, 0, 157, 154, 0, 5, 2, 172, 27] := by decide +kernel
theorem dX12_note_0 : decode cX12_note 0 = .ok (.aload_n 0, 1) := z_o42 (z_wat (q := 0) (j := 0) zwX12_note_0 rfl)
theorem dX12_note_1 : decode cX12_note 1 = .ok (.iconst 0, 1) := z_o3 (z_wat (q := 0) (j := 1) zwX12_note_0 rfl)
theorem dX12_note_2 : decode cX12_note 2 = .ok (.putfield 145, 3) := z_o181 (z_wat (q := 0) (j := 2) zwX12_note_0 rfl) (z_wat (q := 0) (j := 3) zwX12_note_0 rfl) (z_wat (q := 0) (j := 4) zwX12_note_0 rfl) rfl
theorem dX12_note_5 : decode cX12_note 5 = .ok (.iload_n 1, 1) := z_o27 (z_wat (q := 0) (j := 5) zwX12_note_0 rfl)
theorem dX12_note_6 : decode cX12_note 6 = .ok (.ifCond .lt 25, 3) := z_o155 (z_wat (q := 0) (j := 6) zwX12_note_0 rfl) (z_wat (q := 0) (j := 7) zwX12_note_0 rfl) (z_wat (q := 0) (j := 8) zwX12_note_0 rfl) rfl
theorem dX12_note_9 : decode cX12_note 9 = .ok (.iload_n 1, 1) := z_o27 (z_wat (q := 0) (j := 9) zwX12_note_0 rfl)
theorem dX12_note_10 : decode cX12_note 10 = .ok (.iconst 3, 1) := z_o6 (z_wat (q := 0) (j := 10) zwX12_note_0 rfl)
theorem dX12_note_11 : decode cX12_note 11 = .ok (.if_icmp .gt 20, 3) := z_o163 (z_wat (q := 0) (j := 11) zwX12_note_0 rfl) (z_wat (q := 0) (j := 12) zwX12_note_0 rfl) (z_wat (q := 0) (j := 13) zwX12_note_0 rfl) rfl
theorem dX12_note_14 : decode cX12_note 14 = .ok (.aload_n 0, 1) := z_o42 (z_wat (q := 0) (j := 14) zwX12_note_0 rfl)
theorem dX12_note_15 : decode cX12_note 15 = .ok (.getfield 154, 3) := z_o180 (z_wat (q := 0) (j := 15) zwX12_note_0 rfl) (z_wat (q := 0) (j := 16) zwX12_note_0 rfl) (z_wat (q := 0) (j := 17) zwX12_note_0 rfl) rfl
theorem dX12_note_18 : decode cX12_note 18 = .ok (.bipush 80, 2) := z_o16 (z_wat (q := 0) (j := 18) zwX12_note_0 rfl) (z_wat (q := 0) (j := 19) zwX12_note_0 rfl) rfl
theorem dX12_note_20 : decode cX12_note 20 = .ok (.if_icmp .eq 11, 3) := z_o159 (z_wat (q := 0) (j := 20) zwX12_note_0 rfl) (z_wat (q := 0) (j := 21) zwX12_note_0 rfl) (z_wat (q := 0) (j := 22) zwX12_note_0 rfl) rfl
theorem dX12_note_23 : decode cX12_note 23 = .ok (.aload_n 0, 1) := z_o42 (z_wat (q := 0) (j := 23) zwX12_note_0 rfl)
theorem dX12_note_24 : decode cX12_note 24 = .ok (.iload_n 2, 1) := z_o28 (z_wat (q := 0) (j := 24) zwX12_note_0 rfl)
theorem dX12_note_25 : decode cX12_note 25 = .ok (.invokevirtual 157, 3) := z_o182 (z_wat (q := 0) (j := 25) zwX12_note_0 rfl) (z_wat (q := 0) (j := 26) zwX12_note_0 rfl) (z_wat (q := 0) (j := 27) zwX12_note_0 rfl) rfl
theorem dX12_note_28 : decode cX12_note 28 = .ok (.ifCond .ne 5, 3) := z_o154 (z_wat (q := 0) (j := 28) zwX12_note_0 rfl) (z_wat (q := 0) (j := 29) zwX12_note_0 rfl) (z_wat (q := 0) (j := 30) zwX12_note_0 rfl) rfl
theorem dX12_note_31 : decode cX12_note 31 = .ok (.iconst (-1), 1) := z_o2 (z_wat (q := 0) (j := 31) zwX12_note_0 rfl)
theorem zwX12_note_32 : ((cX12_note.data.toList.drop 32).take 34).map UInt8.toNat = [172, 27, 6, 162, 0, 19, 42, 29, 182, 0, 157, 153, 0, 29, 28, 29, 160, 0, 26, 167, 0, 21, 29, 155, 0, 17, 29, 21, 4, 163, 0, 11, 21, 4] := by decide +kernel
theorem dX12_note_32 : decode cX12_note 32 = .ok (.ireturn, 1) := z_o172 (z_wat (q := 32) (j := 0) zwX12_note_32 rfl)
theorem dX12_note_33 : decode cX12_note 33 = .ok (.iload_n 1, 1) := z_o27 (z_wat (q := 32) (j := 1) zwX12_note_32 rfl)
theorem dX12_note_34 : decode cX12_note 34 = .ok (.iconst 3, 1) := z_o6 (z_wat (q := 32) (j := 2) zwX12_note_32 rfl)
theorem dX12_note_35 : decode cX12_note 35 = .ok (.if_icmp .ge 19, 3) := z_o162 (z_wat (q := 32) (j := 3) zwX12_note_32 rfl) (z_wat (q := 32) (j := 4) zwX12_note_32 rfl) (z_wat (q := 32) (j := 5) zwX12_note_32 rfl) rfl
theorem dX12_note_38 : decode cX12_note 38 = .ok (.aload_n 0, 1) := z_o42 (z_wat (q := 32) (j := 6) zwX12_note_32 rfl)
theorem dX12_note_39 : decode cX12_note 39 = .ok (.iload_n 3, 1) := z_o29 (z_wat (q := 32) (j := 7) zwX12_note_32 rfl)
theorem dX12_note_40 : decode cX12_note 40 = .ok (.invokevirtual 157, 3) := z_o182 (z_wat (q := 32) (j := 8) zwX12_note_32 rfl) (z_wat (q := 32) (j := 9) zwX12_note_32 rfl) (z_wat (q := 32) (j := 10) zwX12_note_32 rfl) rfl
theorem dX12_note_43 : decode cX12_note 43 = .ok (.ifCond .eq 29, 3) := z_o153 (z_wat (q := 32) (j := 11) zwX12_note_32 rfl) (z_wat (q := 32) (j := 12) zwX12_note_32 rfl) (z_wat (q := 32) (j := 13) zwX12_note_32 rfl) rfl
theorem dX12_note_46 : decode cX12_note 46 = .ok (.iload_n 2, 1) := z_o28 (z_wat (q := 32) (j := 14) zwX12_note_32 rfl)
theorem dX12_note_47 : decode cX12_note 47 = .ok (.iload_n 3, 1) := z_o29 (z_wat (q := 32) (j := 15) zwX12_note_32 rfl)
theorem dX12_note_48 : decode cX12_note 48 = .ok (.if_icmp .ne 26, 3) := z_o160 (z_wat (q := 32) (j := 16) zwX12_note_32 rfl) (z_wat (q := 32) (j := 17) zwX12_note_32 rfl) (z_wat (q := 32) (j := 18) zwX12_note_32 rfl) rfl
theorem dX12_note_51 : decode cX12_note 51 = .ok (.goto 21, 3) := z_o167 (z_wat (q := 32) (j := 19) zwX12_note_32 rfl) (z_wat (q := 32) (j := 20) zwX12_note_32 rfl) (z_wat (q := 32) (j := 21) zwX12_note_32 rfl) rfl
theorem dX12_note_54 : decode cX12_note 54 = .ok (.iload_n 3, 1) := z_o29 (z_wat (q := 32) (j := 22) zwX12_note_32 rfl)
theorem dX12_note_55 : decode cX12_note 55 = .ok (.ifCond .lt 17, 3) := z_o155 (z_wat (q := 32) (j := 23) zwX12_note_32 rfl) (z_wat (q := 32) (j := 24) zwX12_note_32 rfl) (z_wat (q := 32) (j := 25) zwX12_note_32 rfl) rfl
theorem dX12_note_58 : decode cX12_note 58 = .ok (.iload_n 3, 1) := z_o29 (z_wat (q := 32) (j := 26) zwX12_note_32 rfl)
theorem dX12_note_59 : decode cX12_note 59 = .ok (.iload 4, 2) := z_o21 (z_wat (q := 32) (j := 27) zwX12_note_32 rfl) (z_wat (q := 32) (j := 28) zwX12_note_32 rfl)
theorem dX12_note_61 : decode cX12_note 61 = .ok (.if_icmp .gt 11, 3) := z_o163 (z_wat (q := 32) (j := 29) zwX12_note_32 rfl) (z_wat (q := 32) (j := 30) zwX12_note_32 rfl) (z_wat (q := 32) (j := 31) zwX12_note_32 rfl) rfl
theorem zwX12_note_64 : ((cX12_note.data.toList.drop 64).take 34).map UInt8.toNat = [21, 4, 17, 39, 15, 164, 0, 5, 2, 172, 42, 180, 0, 13, 42, 180, 0, 154, 27, 79, 42, 180, 0, 16, 42, 180, 0, 154, 28, 79, 42, 180, 0, 19] := by decide +kernel
theorem dX12_note_64 : decode cX12_note 64 = .ok (.iload 4, 2) := z_o21 (z_wat (q := 64) (j := 0) zwX12_note_64 rfl) (z_wat (q := 64) (j := 1) zwX12_note_64 rfl)
theorem dX12_note_66 : decode cX12_note 66 = .ok (.sipush 9999, 3) := z_o17 (z_wat (q := 64) (j := 2) zwX12_note_64 rfl) (z_wat (q := 64) (j := 3) zwX12_note_64 rfl) (z_wat (q := 64) (j := 4) zwX12_note_64 rfl) rfl
theorem dX12_note_69 : decode cX12_note 69 = .ok (.if_icmp .le 5, 3) := z_o164 (z_wat (q := 64) (j := 5) zwX12_note_64 rfl) (z_wat (q := 64) (j := 6) zwX12_note_64 rfl) (z_wat (q := 64) (j := 7) zwX12_note_64 rfl) rfl
theorem dX12_note_72 : decode cX12_note 72 = .ok (.iconst (-1), 1) := z_o2 (z_wat (q := 64) (j := 8) zwX12_note_64 rfl)
theorem dX12_note_73 : decode cX12_note 73 = .ok (.ireturn, 1) := z_o172 (z_wat (q := 64) (j := 9) zwX12_note_64 rfl)
theorem dX12_note_74 : decode cX12_note 74 = .ok (.aload_n 0, 1) := z_o42 (z_wat (q := 64) (j := 10) zwX12_note_64 rfl)
theorem dX12_note_75 : decode cX12_note 75 = .ok (.getfield 13, 3) := z_o180 (z_wat (q := 64) (j := 11) zwX12_note_64 rfl) (z_wat (q := 64) (j := 12) zwX12_note_64 rfl) (z_wat (q := 64) (j := 13) zwX12_note_64 rfl) rfl
theorem dX12_note_78 : decode cX12_note 78 = .ok (.aload_n 0, 1) := z_o42 (z_wat (q := 64) (j := 14) zwX12_note_64 rfl)
theorem dX12_note_79 : decode cX12_note 79 = .ok (.getfield 154, 3) := z_o180 (z_wat (q := 64) (j := 15) zwX12_note_64 rfl) (z_wat (q := 64) (j := 16) zwX12_note_64 rfl) (z_wat (q := 64) (j := 17) zwX12_note_64 rfl) rfl
theorem dX12_note_82 : decode cX12_note 82 = .ok (.iload_n 1, 1) := z_o27 (z_wat (q := 64) (j := 18) zwX12_note_64 rfl)
theorem dX12_note_83 : decode cX12_note 83 = .ok (.iastore, 1) := z_o79 (z_wat (q := 64) (j := 19) zwX12_note_64 rfl)
theorem dX12_note_84 : decode cX12_note 84 = .ok (.aload_n 0, 1) := z_o42 (z_wat (q := 64) (j := 20) zwX12_note_64 rfl)
theorem dX12_note_85 : decode cX12_note 85 = .ok (.getfield 16, 3) := z_o180 (z_wat (q := 64) (j := 21) zwX12_note_64 rfl) (z_wat (q := 64) (j := 22) zwX12_note_64 rfl) (z_wat (q := 64) (j := 23) zwX12_note_64 rfl) rfl
theorem dX12_note_88 : decode cX12_note 88 = .ok (.aload_n 0, 1) := z_o42 (z_wat (q := 64) (j := 24) zwX12_note_64 rfl)
theorem dX12_note_89 : decode cX12_note 89 = .ok (.getfield 154, 3) := z_o180 (z_wat (q := 64) (j := 25) zwX12_note_64 rfl) (z_wat (q := 64) (j := 26) zwX12_note_64 rfl) (z_wat (q := 64) (j := 27) zwX12_note_64 rfl) rfl
theorem dX12_note_92 : decode cX12_note 92 = .ok (.iload_n 2, 1) := z_o28 (z_wat (q := 64) (j := 28) zwX12_note_64 rfl)
theorem dX12_note_93 : decode cX12_note 93 = .ok (.iastore, 1) := z_o79 (z_wat (q := 64) (j := 29) zwX12_note_64 rfl)
theorem dX12_note_94 : decode cX12_note 94 = .ok (.aload_n 0, 1) := z_o42 (z_wat (q := 64) (j := 30) zwX12_note_64 rfl)
theorem dX12_note_95 : decode cX12_note 95 = .ok (.getfield 19, 3) := z_o180 (z_wat (q := 64) (j := 31) zwX12_note_64 rfl) (z_wat (q := 64) (j := 32) zwX12_note_64 rfl) (z_wat (q := 64) (j := 33) zwX12_note_64 rfl) rfl
theorem zwX12_note_96 : ((cX12_note.data.toList.drop 96).take 34).map UInt8.toNat = [0, 19, 42, 180, 0, 154, 29, 79, 42, 180, 0, 22, 42, 180, 0, 154, 21, 4, 79, 42, 89, 180, 0, 154, 4, 96, 181, 0, 154, 42, 180, 0, 154, 4] := by decide +kernel
theorem dX12_note_98 : decode cX12_note 98 = .ok (.aload_n 0, 1) := z_o42 (z_wat (q := 96) (j := 2) zwX12_note_96 rfl)
theorem dX12_note_99 : decode cX12_note 99 = .ok (.getfield 154, 3) := z_o180 (z_wat (q := 96) (j := 3) zwX12_note_96 rfl) (z_wat (q := 96) (j := 4) zwX12_note_96 rfl) (z_wat (q := 96) (j := 5) zwX12_note_96 rfl) rfl
theorem dX12_note_102 : decode cX12_note 102 = .ok (.iload_n 3, 1) := z_o29 (z_wat (q := 96) (j := 6) zwX12_note_96 rfl)
theorem dX12_note_103 : decode cX12_note 103 = .ok (.iastore, 1) := z_o79 (z_wat (q := 96) (j := 7) zwX12_note_96 rfl)
theorem dX12_note_104 : decode cX12_note 104 = .ok (.aload_n 0, 1) := z_o42 (z_wat (q := 96) (j := 8) zwX12_note_96 rfl)
theorem dX12_note_105 : decode cX12_note 105 = .ok (.getfield 22, 3) := z_o180 (z_wat (q := 96) (j := 9) zwX12_note_96 rfl) (z_wat (q := 96) (j := 10) zwX12_note_96 rfl) (z_wat (q := 96) (j := 11) zwX12_note_96 rfl) rfl
theorem dX12_note_108 : decode cX12_note 108 = .ok (.aload_n 0, 1) := z_o42 (z_wat (q := 96) (j := 12) zwX12_note_96 rfl)
theorem dX12_note_109 : decode cX12_note 109 = .ok (.getfield 154, 3) := z_o180 (z_wat (q := 96) (j := 13) zwX12_note_96 rfl) (z_wat (q := 96) (j := 14) zwX12_note_96 rfl) (z_wat (q := 96) (j := 15) zwX12_note_96 rfl) rfl
theorem dX12_note_112 : decode cX12_note 112 = .ok (.iload 4, 2) := z_o21 (z_wat (q := 96) (j := 16) zwX12_note_96 rfl) (z_wat (q := 96) (j := 17) zwX12_note_96 rfl)
theorem dX12_note_114 : decode cX12_note 114 = .ok (.iastore, 1) := z_o79 (z_wat (q := 96) (j := 18) zwX12_note_96 rfl)
theorem dX12_note_115 : decode cX12_note 115 = .ok (.aload_n 0, 1) := z_o42 (z_wat (q := 96) (j := 19) zwX12_note_96 rfl)
theorem dX12_note_116 : decode cX12_note 116 = .ok (.dup, 1) := z_o89 (z_wat (q := 96) (j := 20) zwX12_note_96 rfl)
theorem dX12_note_117 : decode cX12_note 117 = .ok (.getfield 154, 3) := z_o180 (z_wat (q := 96) (j := 21) zwX12_note_96 rfl) (z_wat (q := 96) (j := 22) zwX12_note_96 rfl) (z_wat (q := 96) (j := 23) zwX12_note_96 rfl) rfl
theorem dX12_note_120 : decode cX12_note 120 = .ok (.iconst 1, 1) := z_o4 (z_wat (q := 96) (j := 24) zwX12_note_96 rfl)
theorem dX12_note_121 : decode cX12_note 121 = .ok (.iadd, 1) := z_o96 (z_wat (q := 96) (j := 25) zwX12_note_96 rfl)
theorem dX12_note_122 : decode cX12_note 122 = .ok (.putfield 154, 3) := z_o181 (z_wat (q := 96) (j := 26) zwX12_note_96 rfl) (z_wat (q := 96) (j := 27) zwX12_note_96 rfl) (z_wat (q := 96) (j := 28) zwX12_note_96 rfl) rfl
theorem dX12_note_125 : decode cX12_note 125 = .ok (.aload_n 0, 1) := z_o42 (z_wat (q := 96) (j := 29) zwX12_note_96 rfl)
theorem dX12_note_126 : decode cX12_note 126 = .ok (.getfield 154, 3) := z_o180 (z_wat (q := 96) (j := 30) zwX12_note_96 rfl) (z_wat (q := 96) (j := 31) zwX12_note_96 rfl) (z_wat (q := 96) (j := 32) zwX12_note_96 rfl) rfl
theorem zwX12_note_128 : ((cX12_note.data.toList.drop 128).take 4).map UInt8.toNat = [154, 4, 100, 172] := by decide +kernel
theorem dX12_note_129 : decode cX12_note 129 = .ok (.iconst 1, 1) := z_o4 (z_wat (q := 128) (j := 1) zwX12_note_128 rfl)
theorem dX12_note_130 : decode cX12_note 130 = .ok (.isub, 1) := z_o100 (z_wat (q := 128) (j := 2) zwX12_note_128 rfl)
theorem dX12_note_131 : decode cX12_note 131 = .ok (.ireturn, 1) := z_o172 (z_wat (q := 128) (j := 3) zwX12_note_128 rfl)
theorem zwX12_strike_0 : ((cX12_strike.data.toList.drop 0).take 34).map UInt8.toNat = [42, 3, 181, 0, 145, 27, 155, 0, 20, 27, 42, 180, 0, 154, 162, 0, 12, 42, 180, 0, 154, 16, 80, 160, 0, 5, 2, 172, 42, 180, 0, 13, 42, 180] := by decide +kernel
theorem dX12_strike_0 : decode cX12_strike 0 = .ok (.aload_n 0, 1) := z_o42 (z_wat (q := 0) (j := 0) zwX12_strike_0 rfl)
theorem dX12_strike_1 : decode cX12_strike 1 = .ok (.iconst 0, 1) := z_o3 (z_wat (q := 0) (j := 1) zwX12_strike_0 rfl)
theorem dX12_strike_2 : decode cX12_strike 2 = .ok (.putfield 145, 3) := z_o181 (z_wat (q := 0) (j := 2) zwX12_strike_0 rfl) (z_wat (q := 0) (j := 3) zwX12_strike_0 rfl) (z_wat (q := 0) (j := 4) zwX12_strike_0 rfl) rfl
theorem dX12_strike_5 : decode cX12_strike 5 = .ok (.iload_n 1, 1) := z_o27 (z_wat (q := 0) (j := 5) zwX12_strike_0 rfl)
theorem dX12_strike_6 : decode cX12_strike 6 = .ok (.ifCond .lt 20, 3) := z_o155 (z_wat (q := 0) (j := 6) zwX12_strike_0 rfl) (z_wat (q := 0) (j := 7) zwX12_strike_0 rfl) (z_wat (q := 0) (j := 8) zwX12_strike_0 rfl) rfl
theorem dX12_strike_9 : decode cX12_strike 9 = .ok (.iload_n 1, 1) := z_o27 (z_wat (q := 0) (j := 9) zwX12_strike_0 rfl)
theorem dX12_strike_10 : decode cX12_strike 10 = .ok (.aload_n 0, 1) := z_o42 (z_wat (q := 0) (j := 10) zwX12_strike_0 rfl)
theorem dX12_strike_11 : decode cX12_strike 11 = .ok (.getfield 154, 3) := z_o180 (z_wat (q := 0) (j := 11) zwX12_strike_0 rfl) (z_wat (q := 0) (j := 12) zwX12_strike_0 rfl) (z_wat (q := 0) (j := 13) zwX12_strike_0 rfl) rfl
theorem dX12_strike_14 : decode cX12_strike 14 = .ok (.if_icmp .ge 12, 3) := z_o162 (z_wat (q := 0) (j := 14) zwX12_strike_0 rfl) (z_wat (q := 0) (j := 15) zwX12_strike_0 rfl) (z_wat (q := 0) (j := 16) zwX12_strike_0 rfl) rfl
theorem dX12_strike_17 : decode cX12_strike 17 = .ok (.aload_n 0, 1) := z_o42 (z_wat (q := 0) (j := 17) zwX12_strike_0 rfl)
theorem dX12_strike_18 : decode cX12_strike 18 = .ok (.getfield 154, 3) := z_o180 (z_wat (q := 0) (j := 18) zwX12_strike_0 rfl) (z_wat (q := 0) (j := 19) zwX12_strike_0 rfl) (z_wat (q := 0) (j := 20) zwX12_strike_0 rfl) rfl
theorem dX12_strike_21 : decode cX12_strike 21 = .ok (.bipush 80, 2) := z_o16 (z_wat (q := 0) (j := 21) zwX12_strike_0 rfl) (z_wat (q := 0) (j := 22) zwX12_strike_0 rfl) rfl
theorem dX12_strike_23 : decode cX12_strike 23 = .ok (.if_icmp .ne 5, 3) := z_o160 (z_wat (q := 0) (j := 23) zwX12_strike_0 rfl) (z_wat (q := 0) (j := 24) zwX12_strike_0 rfl) (z_wat (q := 0) (j := 25) zwX12_strike_0 rfl) rfl
theorem dX12_strike_26 : decode cX12_strike 26 = .ok (.iconst (-1), 1) := z_o2 (z_wat (q := 0) (j := 26) zwX12_strike_0 rfl)
theorem dX12_strike_27 : decode cX12_strike 27 = .ok (.ireturn, 1) := z_o172 (z_wat (q := 0) (j := 27) zwX12_strike_0 rfl)
theorem dX12_strike_28 : decode cX12_strike 28 = .ok (.aload_n 0, 1) := z_o42 (z_wat (q := 0) (j := 28) zwX12_strike_0 rfl)
theorem dX12_strike_29 : decode cX12_strike 29 = .ok (.getfield 13, 3) := z_o180 (z_wat (q := 0) (j := 29) zwX12_strike_0 rfl) (z_wat (q := 0) (j := 30) zwX12_strike_0 rfl) (z_wat (q := 0) (j := 31) zwX12_strike_0 rfl) rfl
theorem zwX12_strike_32 : ((cX12_strike.data.toList.drop 32).take 34).map UInt8.toNat = [42, 180, 0, 154, 16, 9, 79, 42, 180, 0, 16, 42, 180, 0, 154, 27, 79, 42, 89, 180, 0, 154, 4, 96, 181, 0, 154, 42, 180, 0, 154, 4, 100, 172] := by decide +kernel
theorem dX12_strike_32 : decode cX12_strike 32 = .ok (.aload_n 0, 1) := z_o42 (z_wat (q := 32) (j := 0) zwX12_strike_32 rfl)
theorem dX12_strike_33 : decode cX12_strike 33 = .ok (.getfield 154, 3) := z_o180 (z_wat (q := 32) (j := 1) zwX12_strike_32 rfl) (z_wat (q := 32) (j := 2) zwX12_strike_32 rfl) (z_wat (q := 32) (j := 3) zwX12_strike_32 rfl) rfl
theorem dX12_strike_36 : decode cX12_strike 36 = .ok (.bipush 9, 2) := z_o16 (z_wat (q := 32) (j := 4) zwX12_strike_32 rfl) (z_wat (q := 32) (j := 5) zwX12_strike_32 rfl) rfl
theorem dX12_strike_38 : decode cX12_strike 38 = .ok (.iastore, 1) := z_o79 (z_wat (q := 32) (j := 6) zwX12_strike_32 rfl)
theorem dX12_strike_39 : decode cX12_strike 39 = .ok (.aload_n 0, 1) := z_o42 (z_wat (q := 32) (j := 7) zwX12_strike_32 rfl)
theorem dX12_strike_40 : decode cX12_strike 40 = .ok (.getfield 16, 3) := z_o180 (z_wat (q := 32) (j := 8) zwX12_strike_32 rfl) (z_wat (q := 32) (j := 9) zwX12_strike_32 rfl) (z_wat (q := 32) (j := 10) zwX12_strike_32 rfl) rfl
theorem dX12_strike_43 : decode cX12_strike 43 = .ok (.aload_n 0, 1) := z_o42 (z_wat (q := 32) (j := 11) zwX12_strike_32 rfl)
theorem dX12_strike_44 : decode cX12_strike 44 = .ok (.getfield 154, 3) := z_o180 (z_wat (q := 32) (j := 12) zwX12_strike_32 rfl) (z_wat (q := 32) (j := 13) zwX12_strike_32 rfl) (z_wat (q := 32) (j := 14) zwX12_strike_32 rfl) rfl
theorem dX12_strike_47 : decode cX12_strike 47 = .ok (.iload_n 1, 1) := z_o27 (z_wat (q := 32) (j := 15) zwX12_strike_32 rfl)
theorem dX12_strike_48 : decode cX12_strike 48 = .ok (.iastore, 1) := z_o79 (z_wat (q := 32) (j := 16) zwX12_strike_32 rfl)
theorem dX12_strike_49 : decode cX12_strike 49 = .ok (.aload_n 0, 1) := z_o42 (z_wat (q := 32) (j := 17) zwX12_strike_32 rfl)
theorem dX12_strike_50 : decode cX12_strike 50 = .ok (.dup, 1) := z_o89 (z_wat (q := 32) (j := 18) zwX12_strike_32 rfl)
theorem dX12_strike_51 : decode cX12_strike 51 = .ok (.getfield 154, 3) := z_o180 (z_wat (q := 32) (j := 19) zwX12_strike_32 rfl) (z_wat (q := 32) (j := 20) zwX12_strike_32 rfl) (z_wat (q := 32) (j := 21) zwX12_strike_32 rfl) rfl
theorem dX12_strike_54 : decode cX12_strike 54 = .ok (.iconst 1, 1) := z_o4 (z_wat (q := 32) (j := 22) zwX12_strike_32 rfl)
theorem dX12_strike_55 : decode cX12_strike 55 = .ok (.iadd, 1) := z_o96 (z_wat (q := 32) (j := 23) zwX12_strike_32 rfl)
theorem dX12_strike_56 : decode cX12_strike 56 = .ok (.putfield 154, 3) := z_o181 (z_wat (q := 32) (j := 24) zwX12_strike_32 rfl) (z_wat (q := 32) (j := 25) zwX12_strike_32 rfl) (z_wat (q := 32) (j := 26) zwX12_strike_32 rfl) rfl
theorem dX12_strike_59 : decode cX12_strike 59 = .ok (.aload_n 0, 1) := z_o42 (z_wat (q := 32) (j := 27) zwX12_strike_32 rfl)
theorem dX12_strike_60 : decode cX12_strike 60 = .ok (.getfield 154, 3) := z_o180 (z_wat (q := 32) (j := 28) zwX12_strike_32 rfl) (z_wat (q := 32) (j := 29) zwX12_strike_32 rfl) (z_wat (q := 32) (j := 30) zwX12_strike_32 rfl) rfl
theorem dX12_strike_63 : decode cX12_strike 63 = .ok (.iconst 1, 1) := z_o4 (z_wat (q := 32) (j := 31) zwX12_strike_32 rfl)
theorem zwX12_strike_64 : ((cX12_strike.data.toList.drop 64).take 2).map UInt8.toNat = [100, 172] := by decide +kernel
theorem dX12_strike_64 : decode cX12_strike 64 = .ok (.isub, 1) := z_o100 (z_wat (q := 64) (j := 0) zwX12_strike_64 rfl)
theorem dX12_strike_65 : decode cX12_strike 65 = .ok (.ireturn, 1) := z_o172 (z_wat (q := 64) (j := 1) zwX12_strike_64 rfl)
