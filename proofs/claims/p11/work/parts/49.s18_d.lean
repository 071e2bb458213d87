theorem zwX12_causeRead_0 : ((cX12_causeRead.data.toList.drop 0).take 34).map UInt8.toNat = [42, 180, 0, 221, 4, 160, 0, 12, 42, 180, 0, 214, 16, 6, 159, 0, 9, 42, 4, 182, 0, 240, 172, 42, 180, 1, 122, 16, 6, 160, 0, 9, 42, 5] := by decide +kernel
theorem dX12_causeRead_0 : decode cX12_causeRead 0 = .ok (.aload_n 0, 1) := z_o42 (z_wat (q := 0) (j := 0) zwX12_causeRead_0 rfl)
theorem dX12_causeRead_1 : decode cX12_causeRead 1 = .ok (.getfield 221, 3) := z_o180 (z_wat (q := 0) (j := 1) zwX12_causeRead_0 rfl) (z_wat (q := 0) (j := 2) zwX12_causeRead_0 rfl) (z_wat (q := 0) (j := 3) zwX12_causeRead_0 rfl) rfl
theorem dX12_causeRead_4 : decode cX12_causeRead 4 = .ok (.iconst 1, 1) := z_o4 (z_wat (q := 0) (j := 4) zwX12_causeRead_0 rfl)
theorem dX12_causeRead_5 : decode cX12_causeRead 5 = .ok (.if_icmp .ne 12, 3) := z_o160 (z_wat (q := 0) (j := 5) zwX12_causeRead_0 rfl) (z_wat (q := 0) (j := 6) zwX12_causeRead_0 rfl) (z_wat (q := 0) (j := 7) zwX12_causeRead_0 rfl) rfl
theorem dX12_causeRead_8 : decode cX12_causeRead 8 = .ok (.aload_n 0, 1) := z_o42 (z_wat (q := 0) (j := 8) zwX12_causeRead_0 rfl)
theorem dX12_causeRead_9 : decode cX12_causeRead 9 = .ok (.getfield 214, 3) := z_o180 (z_wat (q := 0) (j := 9) zwX12_causeRead_0 rfl) (z_wat (q := 0) (j := 10) zwX12_causeRead_0 rfl) (z_wat (q := 0) (j := 11) zwX12_causeRead_0 rfl) rfl
theorem dX12_causeRead_12 : decode cX12_causeRead 12 = .ok (.bipush 6, 2) := z_o16 (z_wat (q := 0) (j := 12) zwX12_causeRead_0 rfl) (z_wat (q := 0) (j := 13) zwX12_causeRead_0 rfl) rfl
theorem dX12_causeRead_14 : decode cX12_causeRead 14 = .ok (.if_icmp .eq 9, 3) := z_o159 (z_wat (q := 0) (j := 14) zwX12_causeRead_0 rfl) (z_wat (q := 0) (j := 15) zwX12_causeRead_0 rfl) (z_wat (q := 0) (j := 16) zwX12_causeRead_0 rfl) rfl
theorem dX12_causeRead_17 : decode cX12_causeRead 17 = .ok (.aload_n 0, 1) := z_o42 (z_wat (q := 0) (j := 17) zwX12_causeRead_0 rfl)
theorem dX12_causeRead_18 : decode cX12_causeRead 18 = .ok (.iconst 1, 1) := z_o4 (z_wat (q := 0) (j := 18) zwX12_causeRead_0 rfl)
theorem dX12_causeRead_19 : decode cX12_causeRead 19 = .ok (.invokevirtual 240, 3) := z_o182 (z_wat (q := 0) (j := 19) zwX12_causeRead_0 rfl) (z_wat (q := 0) (j := 20) zwX12_causeRead_0 rfl) (z_wat (q := 0) (j := 21) zwX12_causeRead_0 rfl) rfl
theorem dX12_causeRead_22 : decode cX12_causeRead 22 = .ok (.ireturn, 1) := z_o172 (z_wat (q := 0) (j := 22) zwX12_causeRead_0 rfl)
theorem dX12_causeRead_23 : decode cX12_causeRead 23 = .ok (.aload_n 0, 1) := z_o42 (z_wat (q := 0) (j := 23) zwX12_causeRead_0 rfl)
theorem dX12_causeRead_24 : decode cX12_causeRead 24 = .ok (.getfield 378, 3) := z_o180 (z_wat (q := 0) (j := 24) zwX12_causeRead_0 rfl) (z_wat (q := 0) (j := 25) zwX12_causeRead_0 rfl) (z_wat (q := 0) (j := 26) zwX12_causeRead_0 rfl) rfl
theorem dX12_causeRead_27 : decode cX12_causeRead 27 = .ok (.bipush 6, 2) := z_o16 (z_wat (q := 0) (j := 27) zwX12_causeRead_0 rfl) (z_wat (q := 0) (j := 28) zwX12_causeRead_0 rfl) rfl
theorem dX12_causeRead_29 : decode cX12_causeRead 29 = .ok (.if_icmp .ne 9, 3) := z_o160 (z_wat (q := 0) (j := 29) zwX12_causeRead_0 rfl) (z_wat (q := 0) (j := 30) zwX12_causeRead_0 rfl) (z_wat (q := 0) (j := 31) zwX12_causeRead_0 rfl) rfl
theorem zwX12_causeRead_32 : ((cX12_causeRead.data.toList.drop 32).take 34).map UInt8.toNat = [42, 5, 182, 0, 240, 172, 42, 3, 182, 0, 236, 42, 180, 0, 221, 5, 159, 0, 26, 42, 180, 0, 221, 4, 160, 0, 12, 42, 180, 0, 214, 16, 6, 161] := by decide +kernel
theorem dX12_causeRead_32 : decode cX12_causeRead 32 = .ok (.aload_n 0, 1) := z_o42 (z_wat (q := 32) (j := 0) zwX12_causeRead_32 rfl)
theorem dX12_causeRead_33 : decode cX12_causeRead 33 = .ok (.iconst 2, 1) := z_o5 (z_wat (q := 32) (j := 1) zwX12_causeRead_32 rfl)
theorem dX12_causeRead_34 : decode cX12_causeRead 34 = .ok (.invokevirtual 240, 3) := z_o182 (z_wat (q := 32) (j := 2) zwX12_causeRead_32 rfl) (z_wat (q := 32) (j := 3) zwX12_causeRead_32 rfl) (z_wat (q := 32) (j := 4) zwX12_causeRead_32 rfl) rfl
theorem dX12_causeRead_37 : decode cX12_causeRead 37 = .ok (.ireturn, 1) := z_o172 (z_wat (q := 32) (j := 5) zwX12_causeRead_32 rfl)
theorem dX12_causeRead_38 : decode cX12_causeRead 38 = .ok (.aload_n 0, 1) := z_o42 (z_wat (q := 32) (j := 6) zwX12_causeRead_32 rfl)
theorem dX12_causeRead_39 : decode cX12_causeRead 39 = .ok (.iconst 0, 1) := z_o3 (z_wat (q := 32) (j := 7) zwX12_causeRead_32 rfl)
theorem dX12_causeRead_40 : decode cX12_causeRead 40 = .ok (.invokevirtual 236, 3) := z_o182 (z_wat (q := 32) (j := 8) zwX12_causeRead_32 rfl) (z_wat (q := 32) (j := 9) zwX12_causeRead_32 rfl) (z_wat (q := 32) (j := 10) zwX12_causeRead_32 rfl) rfl
theorem dX12_causeRead_43 : decode cX12_causeRead 43 = .ok (.aload_n 0, 1) := z_o42 (z_wat (q := 32) (j := 11) zwX12_causeRead_32 rfl)
theorem dX12_causeRead_44 : decode cX12_causeRead 44 = .ok (.getfield 221, 3) := z_o180 (z_wat (q := 32) (j := 12) zwX12_causeRead_32 rfl) (z_wat (q := 32) (j := 13) zwX12_causeRead_32 rfl) (z_wat (q := 32) (j := 14) zwX12_causeRead_32 rfl) rfl
theorem dX12_causeRead_47 : decode cX12_causeRead 47 = .ok (.iconst 2, 1) := z_o5 (z_wat (q := 32) (j := 15) zwX12_causeRead_32 rfl)
theorem dX12_causeRead_48 : decode cX12_causeRead 48 = .ok (.if_icmp .eq 26, 3) := z_o159 (z_wat (q := 32) (j := 16) zwX12_causeRead_32 rfl) (z_wat (q := 32) (j := 17) zwX12_causeRead_32 rfl) (z_wat (q := 32) (j := 18) zwX12_causeRead_32 rfl) rfl
theorem dX12_causeRead_51 : decode cX12_causeRead 51 = .ok (.aload_n 0, 1) := z_o42 (z_wat (q := 32) (j := 19) zwX12_causeRead_32 rfl)
theorem dX12_causeRead_52 : decode cX12_causeRead 52 = .ok (.getfield 221, 3) := z_o180 (z_wat (q := 32) (j := 20) zwX12_causeRead_32 rfl) (z_wat (q := 32) (j := 21) zwX12_causeRead_32 rfl) (z_wat (q := 32) (j := 22) zwX12_causeRead_32 rfl) rfl
theorem dX12_causeRead_55 : decode cX12_causeRead 55 = .ok (.iconst 1, 1) := z_o4 (z_wat (q := 32) (j := 23) zwX12_causeRead_32 rfl)
theorem dX12_causeRead_56 : decode cX12_causeRead 56 = .ok (.if_icmp .ne 12, 3) := z_o160 (z_wat (q := 32) (j := 24) zwX12_causeRead_32 rfl) (z_wat (q := 32) (j := 25) zwX12_causeRead_32 rfl) (z_wat (q := 32) (j := 26) zwX12_causeRead_32 rfl) rfl
theorem dX12_causeRead_59 : decode cX12_causeRead 59 = .ok (.aload_n 0, 1) := z_o42 (z_wat (q := 32) (j := 27) zwX12_causeRead_32 rfl)
theorem dX12_causeRead_60 : decode cX12_causeRead 60 = .ok (.getfield 214, 3) := z_o180 (z_wat (q := 32) (j := 28) zwX12_causeRead_32 rfl) (z_wat (q := 32) (j := 29) zwX12_causeRead_32 rfl) (z_wat (q := 32) (j := 30) zwX12_causeRead_32 rfl) rfl
theorem dX12_causeRead_63 : decode cX12_causeRead 63 = .ok (.bipush 6, 2) := z_o16 (z_wat (q := 32) (j := 31) zwX12_causeRead_32 rfl) (z_wat (q := 32) (j := 32) zwX12_causeRead_32 rfl) rfl
theorem zwX12_causeRead_64 : ((cX12_causeRead.data.toList.drop 64).take 34).map UInt8.toNat = [6, 161, 0, 9, 42, 4, 182, 0, 240, 172, 42, 182, 1, 125, 153, 0, 9, 42, 6, 182, 0, 240, 172, 42, 180, 0, 102, 42, 180, 1, 122, 42, 180, 0] := by decide +kernel
theorem dX12_causeRead_65 : decode cX12_causeRead 65 = .ok (.if_icmp .lt 9, 3) := z_o161 (z_wat (q := 64) (j := 1) zwX12_causeRead_64 rfl) (z_wat (q := 64) (j := 2) zwX12_causeRead_64 rfl) (z_wat (q := 64) (j := 3) zwX12_causeRead_64 rfl) rfl
theorem dX12_causeRead_68 : decode cX12_causeRead 68 = .ok (.aload_n 0, 1) := z_o42 (z_wat (q := 64) (j := 4) zwX12_causeRead_64 rfl)
theorem dX12_causeRead_69 : decode cX12_causeRead 69 = .ok (.iconst 1, 1) := z_o4 (z_wat (q := 64) (j := 5) zwX12_causeRead_64 rfl)
theorem dX12_causeRead_70 : decode cX12_causeRead 70 = .ok (.invokevirtual 240, 3) := z_o182 (z_wat (q := 64) (j := 6) zwX12_causeRead_64 rfl) (z_wat (q := 64) (j := 7) zwX12_causeRead_64 rfl) (z_wat (q := 64) (j := 8) zwX12_causeRead_64 rfl) rfl
theorem dX12_causeRead_73 : decode cX12_causeRead 73 = .ok (.ireturn, 1) := z_o172 (z_wat (q := 64) (j := 9) zwX12_causeRead_64 rfl)
theorem dX12_causeRead_74 : decode cX12_causeRead 74 = .ok (.aload_n 0, 1) := z_o42 (z_wat (q := 64) (j := 10) zwX12_causeRead_64 rfl)
theorem dX12_causeRead_75 : decode cX12_causeRead 75 = .ok (.invokevirtual 381, 3) := z_o182 (z_wat (q := 64) (j := 11) zwX12_causeRead_64 rfl) (z_wat (q := 64) (j := 12) zwX12_causeRead_64 rfl) (z_wat (q := 64) (j := 13) zwX12_causeRead_64 rfl) rfl
theorem dX12_causeRead_78 : decode cX12_causeRead 78 = .ok (.ifCond .eq 9, 3) := z_o153 (z_wat (q := 64) (j := 14) zwX12_causeRead_64 rfl) (z_wat (q := 64) (j := 15) zwX12_causeRead_64 rfl) (z_wat (q := 64) (j := 16) zwX12_causeRead_64 rfl) rfl
theorem dX12_causeRead_81 : decode cX12_causeRead 81 = .ok (.aload_n 0, 1) := z_o42 (z_wat (q := 64) (j := 17) zwX12_causeRead_64 rfl)
theorem dX12_causeRead_82 : decode cX12_causeRead 82 = .ok (.iconst 3, 1) := z_o6 (z_wat (q := 64) (j := 18) zwX12_causeRead_64 rfl)
theorem dX12_causeRead_83 : decode cX12_causeRead 83 = .ok (.invokevirtual 240, 3) := z_o182 (z_wat (q := 64) (j := 19) zwX12_causeRead_64 rfl) (z_wat (q := 64) (j := 20) zwX12_causeRead_64 rfl) (z_wat (q := 64) (j := 21) zwX12_causeRead_64 rfl) rfl
theorem dX12_causeRead_86 : decode cX12_causeRead 86 = .ok (.ireturn, 1) := z_o172 (z_wat (q := 64) (j := 22) zwX12_causeRead_64 rfl)
theorem dX12_causeRead_87 : decode cX12_causeRead 87 = .ok (.aload_n 0, 1) := z_o42 (z_wat (q := 64) (j := 23) zwX12_causeRead_64 rfl)
theorem dX12_causeRead_88 : decode cX12_causeRead 88 = .ok (.getfield 102, 3) := z_o180 (z_wat (q := 64) (j := 24) zwX12_causeRead_64 rfl) (z_wat (q := 64) (j := 25) zwX12_causeRead_64 rfl) (z_wat (q := 64) (j := 26) zwX12_causeRead_64 rfl) rfl
theorem dX12_causeRead_91 : decode cX12_causeRead 91 = .ok (.aload_n 0, 1) := z_o42 (z_wat (q := 64) (j := 27) zwX12_causeRead_64 rfl)
theorem dX12_causeRead_92 : decode cX12_causeRead 92 = .ok (.getfield 378, 3) := z_o180 (z_wat (q := 64) (j := 28) zwX12_causeRead_64 rfl) (z_wat (q := 64) (j := 29) zwX12_causeRead_64 rfl) (z_wat (q := 64) (j := 30) zwX12_causeRead_64 rfl) rfl
theorem dX12_causeRead_95 : decode cX12_causeRead 95 = .ok (.aload_n 0, 1) := z_o42 (z_wat (q := 64) (j := 31) zwX12_causeRead_64 rfl)
theorem zwX12_causeRead_96 : ((cX12_causeRead.data.toList.drop 96).take 34).map UInt8.toNat = [180, 0, 207, 42, 180, 0, 201, 100, 79, 3, 60, 27, 42, 180, 0, 207, 42, 180, 0, 201, 100, 162, 0, 34, 42, 180, 0, 99, 16, 8, 42, 180, 1, 122] := by decide +kernel
theorem dX12_causeRead_96 : decode cX12_causeRead 96 = .ok (.getfield 207, 3) := z_o180 (z_wat (q := 96) (j := 0) zwX12_causeRead_96 rfl) (z_wat (q := 96) (j := 1) zwX12_causeRead_96 rfl) (z_wat (q := 96) (j := 2) zwX12_causeRead_96 rfl) rfl
theorem dX12_causeRead_99 : decode cX12_causeRead 99 = .ok (.aload_n 0, 1) := z_o42 (z_wat (q := 96) (j := 3) zwX12_causeRead_96 rfl)
theorem dX12_causeRead_100 : decode cX12_causeRead 100 = .ok (.getfield 201, 3) := z_o180 (z_wat (q := 96) (j := 4) zwX12_causeRead_96 rfl) (z_wat (q := 96) (j := 5) zwX12_causeRead_96 rfl) (z_wat (q := 96) (j := 6) zwX12_causeRead_96 rfl) rfl
theorem dX12_causeRead_103 : decode cX12_causeRead 103 = .ok (.isub, 1) := z_o100 (z_wat (q := 96) (j := 7) zwX12_causeRead_96 rfl)
theorem dX12_causeRead_104 : decode cX12_causeRead 104 = .ok (.iastore, 1) := z_o79 (z_wat (q := 96) (j := 8) zwX12_causeRead_96 rfl)
theorem dX12_causeRead_105 : decode cX12_causeRead 105 = .ok (.iconst 0, 1) := z_o3 (z_wat (q := 96) (j := 9) zwX12_causeRead_96 rfl)
theorem dX12_causeRead_106 : decode cX12_causeRead 106 = .ok (.istore_n 1, 1) := z_o60 (z_wat (q := 96) (j := 10) zwX12_causeRead_96 rfl)
theorem dX12_causeRead_107 : decode cX12_causeRead 107 = .ok (.iload_n 1, 1) := z_o27 (z_wat (q := 96) (j := 11) zwX12_causeRead_96 rfl)
theorem dX12_causeRead_108 : decode cX12_causeRead 108 = .ok (.aload_n 0, 1) := z_o42 (z_wat (q := 96) (j := 12) zwX12_causeRead_96 rfl)
theorem dX12_causeRead_109 : decode cX12_causeRead 109 = .ok (.getfield 207, 3) := z_o180 (z_wat (q := 96) (j := 13) zwX12_causeRead_96 rfl) (z_wat (q := 96) (j := 14) zwX12_causeRead_96 rfl) (z_wat (q := 96) (j := 15) zwX12_causeRead_96 rfl) rfl
theorem dX12_causeRead_112 : decode cX12_causeRead 112 = .ok (.aload_n 0, 1) := z_o42 (z_wat (q := 96) (j := 16) zwX12_causeRead_96 rfl)
theorem dX12_causeRead_113 : decode cX12_causeRead 113 = .ok (.getfield 201, 3) := z_o180 (z_wat (q := 96) (j := 17) zwX12_causeRead_96 rfl) (z_wat (q := 96) (j := 18) zwX12_causeRead_96 rfl) (z_wat (q := 96) (j := 19) zwX12_causeRead_96 rfl) rfl
theorem dX12_causeRead_116 : decode cX12_causeRead 116 = .ok (.isub, 1) := z_o100 (z_wat (q := 96) (j := 20) zwX12_causeRead_96 rfl)
theorem dX12_causeRead_117 : decode cX12_causeRead 117 = .ok (.if_icmp .ge 34, 3) := z_o162 (z_wat (q := 96) (j := 21) zwX12_causeRead_96 rfl) (z_wat (q := 96) (j := 22) zwX12_causeRead_96 rfl) (z_wat (q := 96) (j := 23) zwX12_causeRead_96 rfl) rfl
theorem dX12_causeRead_120 : decode cX12_causeRead 120 = .ok (.aload_n 0, 1) := z_o42 (z_wat (q := 96) (j := 24) zwX12_causeRead_96 rfl)
theorem dX12_causeRead_121 : decode cX12_causeRead 121 = .ok (.getfield 99, 3) := z_o180 (z_wat (q := 96) (j := 25) zwX12_causeRead_96 rfl) (z_wat (q := 96) (j := 26) zwX12_causeRead_96 rfl) (z_wat (q := 96) (j := 27) zwX12_causeRead_96 rfl) rfl
theorem dX12_causeRead_124 : decode cX12_causeRead 124 = .ok (.bipush 8, 2) := z_o16 (z_wat (q := 96) (j := 28) zwX12_causeRead_96 rfl) (z_wat (q := 96) (j := 29) zwX12_causeRead_96 rfl) rfl
theorem dX12_causeRead_126 : decode cX12_causeRead 126 = .ok (.aload_n 0, 1) := z_o42 (z_wat (q := 96) (j := 30) zwX12_causeRead_96 rfl)
theorem dX12_causeRead_127 : decode cX12_causeRead 127 = .ok (.getfield 378, 3) := z_o180 (z_wat (q := 96) (j := 31) zwX12_causeRead_96 rfl) (z_wat (q := 96) (j := 32) zwX12_causeRead_96 rfl) (z_wat (q := 96) (j := 33) zwX12_causeRead_96 rfl) rfl
theorem zwX12_causeRead_128 : ((cX12_causeRead.data.toList.drop 128).take 34).map UInt8.toNat = [1, 122, 104, 27, 96, 42, 180, 0, 7, 42, 180, 0, 201, 27, 96, 46, 79, 132, 1, 1, 167, 255, 215, 42, 3, 182, 0, 236, 42, 16, 58, 182, 0, 243] := by decide +kernel
theorem dX12_causeRead_130 : decode cX12_causeRead 130 = .ok (.imul, 1) := z_o104 (z_wat (q := 128) (j := 2) zwX12_causeRead_128 rfl)
theorem dX12_causeRead_131 : decode cX12_causeRead 131 = .ok (.iload_n 1, 1) := z_o27 (z_wat (q := 128) (j := 3) zwX12_causeRead_128 rfl)
theorem dX12_causeRead_132 : decode cX12_causeRead 132 = .ok (.iadd, 1) := z_o96 (z_wat (q := 128) (j := 4) zwX12_causeRead_128 rfl)
theorem dX12_causeRead_133 : decode cX12_causeRead 133 = .ok (.aload_n 0, 1) := z_o42 (z_wat (q := 128) (j := 5) zwX12_causeRead_128 rfl)
theorem dX12_causeRead_134 : decode cX12_causeRead 134 = .ok (.getfield 7, 3) := z_o180 (z_wat (q := 128) (j := 6) zwX12_causeRead_128 rfl) (z_wat (q := 128) (j := 7) zwX12_causeRead_128 rfl) (z_wat (q := 128) (j := 8) zwX12_causeRead_128 rfl) rfl
theorem dX12_causeRead_137 : decode cX12_causeRead 137 = .ok (.aload_n 0, 1) := z_o42 (z_wat (q := 128) (j := 9) zwX12_causeRead_128 rfl)
theorem dX12_causeRead_138 : decode cX12_causeRead 138 = .ok (.getfield 201, 3) := z_o180 (z_wat (q := 128) (j := 10) zwX12_causeRead_128 rfl) (z_wat (q := 128) (j := 11) zwX12_causeRead_128 rfl) (z_wat (q := 128) (j := 12) zwX12_causeRead_128 rfl) rfl
theorem dX12_causeRead_141 : decode cX12_causeRead 141 = .ok (.iload_n 1, 1) := z_o27 (z_wat (q := 128) (j := 13) zwX12_causeRead_128 rfl)
theorem dX12_causeRead_142 : decode cX12_causeRead 142 = .ok (.iadd, 1) := z_o96 (z_wat (q := 128) (j := 14) zwX12_causeRead_128 rfl)
theorem dX12_causeRead_143 : decode cX12_causeRead 143 = .ok (.iaload, 1) := z_o46 (z_wat (q := 128) (j := 15) zwX12_causeRead_128 rfl)
theorem dX12_causeRead_144 : decode cX12_causeRead 144 = .ok (.iastore, 1) := z_o79 (z_wat (q := 128) (j := 16) zwX12_causeRead_128 rfl)
theorem dX12_causeRead_145 : decode cX12_causeRead 145 = .ok (.iinc 1 1, 3) := z_o132 (z_wat (q := 128) (j := 17) zwX12_causeRead_128 rfl) (z_wat (q := 128) (j := 18) zwX12_causeRead_128 rfl) (z_wat (q := 128) (j := 19) zwX12_causeRead_128 rfl) rfl
theorem dX12_causeRead_148 : decode cX12_causeRead 148 = .ok (.goto (-41), 3) := z_o167 (z_wat (q := 128) (j := 20) zwX12_causeRead_128 rfl) (z_wat (q := 128) (j := 21) zwX12_causeRead_128 rfl) (z_wat (q := 128) (j := 22) zwX12_causeRead_128 rfl) rfl
theorem dX12_causeRead_151 : decode cX12_causeRead 151 = .ok (.aload_n 0, 1) := z_o42 (z_wat (q := 128) (j := 23) zwX12_causeRead_128 rfl)
theorem dX12_causeRead_152 : decode cX12_causeRead 152 = .ok (.iconst 0, 1) := z_o3 (z_wat (q := 128) (j := 24) zwX12_causeRead_128 rfl)
theorem dX12_causeRead_153 : decode cX12_causeRead 153 = .ok (.invokevirtual 236, 3) := z_o182 (z_wat (q := 128) (j := 25) zwX12_causeRead_128 rfl) (z_wat (q := 128) (j := 26) zwX12_causeRead_128 rfl) (z_wat (q := 128) (j := 27) zwX12_causeRead_128 rfl) rfl
theorem dX12_causeRead_156 : decode cX12_causeRead 156 = .ok (.aload_n 0, 1) := z_o42 (z_wat (q := 128) (j := 28) zwX12_causeRead_128 rfl)
theorem dX12_causeRead_157 : decode cX12_causeRead 157 = .ok (.bipush 58, 2) := z_o16 (z_wat (q := 128) (j := 29) zwX12_causeRead_128 rfl) (z_wat (q := 128) (j := 30) zwX12_causeRead_128 rfl) rfl
theorem dX12_causeRead_159 : decode cX12_causeRead 159 = .ok (.invokevirtual 243, 3) := z_o182 (z_wat (q := 128) (j := 31) zwX12_causeRead_128 rfl) (z_wat (q := 128) (j := 32) zwX12_causeRead_128 rfl) (z_wat (q := 128) (j := 33) zwX12_causeRead_128 rfl) rfl
theorem zwX12_causeRead_160 : ((cX12_causeRead.data.toList.drop 160).take 34).map UInt8.toNat = [0, 243, 154, 0, 9, 42, 4, 182, 0, 240, 172, 42, 3, 182, 0, 236, 42, 180, 0, 105, 16, 6, 42, 180, 1, 122, 96, 42, 180, 1, 64, 79, 42, 182] := by decide +kernel
theorem dX12_causeRead_162 : decode cX12_causeRead 162 = .ok (.ifCond .ne 9, 3) := z_o154 (z_wat (q := 160) (j := 2) zwX12_causeRead_160 rfl) (z_wat (q := 160) (j := 3) zwX12_causeRead_160 rfl) (z_wat (q := 160) (j := 4) zwX12_causeRead_160 rfl) rfl
theorem dX12_causeRead_165 : decode cX12_causeRead 165 = .ok (.aload_n 0, 1) := z_o42 (z_wat (q := 160) (j := 5) zwX12_causeRead_160 rfl)
theorem dX12_causeRead_166 : decode cX12_causeRead 166 = .ok (.iconst 1, 1) := z_o4 (z_wat (q := 160) (j := 6) zwX12_causeRead_160 rfl)
theorem dX12_causeRead_167 : decode cX12_causeRead 167 = .ok (.invokevirtual 240, 3) := z_o182 (z_wat (q := 160) (j := 7) zwX12_causeRead_160 rfl) (z_wat (q := 160) (j := 8) zwX12_causeRead_160 rfl) (z_wat (q := 160) (j := 9) zwX12_causeRead_160 rfl) rfl
theorem dX12_causeRead_170 : decode cX12_causeRead 170 = .ok (.ireturn, 1) := z_o172 (z_wat (q := 160) (j := 10) zwX12_causeRead_160 rfl)
theorem dX12_causeRead_171 : decode cX12_causeRead 171 = .ok (.aload_n 0, 1) := z_o42 (z_wat (q := 160) (j := 11) zwX12_causeRead_160 rfl)
theorem dX12_causeRead_172 : decode cX12_causeRead 172 = .ok (.iconst 0, 1) := z_o3 (z_wat (q := 160) (j := 12) zwX12_causeRead_160 rfl)
theorem dX12_causeRead_173 : decode cX12_causeRead 173 = .ok (.invokevirtual 236, 3) := z_o182 (z_wat (q := 160) (j := 13) zwX12_causeRead_160 rfl) (z_wat (q := 160) (j := 14) zwX12_causeRead_160 rfl) (z_wat (q := 160) (j := 15) zwX12_causeRead_160 rfl) rfl
theorem dX12_causeRead_176 : decode cX12_causeRead 176 = .ok (.aload_n 0, 1) := z_o42 (z_wat (q := 160) (j := 16) zwX12_causeRead_160 rfl)
theorem dX12_causeRead_177 : decode cX12_causeRead 177 = .ok (.getfield 105, 3) := z_o180 (z_wat (q := 160) (j := 17) zwX12_causeRead_160 rfl) (z_wat (q := 160) (j := 18) zwX12_causeRead_160 rfl) (z_wat (q := 160) (j := 19) zwX12_causeRead_160 rfl) rfl
theorem dX12_causeRead_180 : decode cX12_causeRead 180 = .ok (.bipush 6, 2) := z_o16 (z_wat (q := 160) (j := 20) zwX12_causeRead_160 rfl) (z_wat (q := 160) (j := 21) zwX12_causeRead_160 rfl) rfl
theorem dX12_causeRead_182 : decode cX12_causeRead 182 = .ok (.aload_n 0, 1) := z_o42 (z_wat (q := 160) (j := 22) zwX12_causeRead_160 rfl)
theorem dX12_causeRead_183 : decode cX12_causeRead 183 = .ok (.getfield 378, 3) := z_o180 (z_wat (q := 160) (j := 23) zwX12_causeRead_160 rfl) (z_wat (q := 160) (j := 24) zwX12_causeRead_160 rfl) (z_wat (q := 160) (j := 25) zwX12_causeRead_160 rfl) rfl
theorem dX12_causeRead_186 : decode cX12_causeRead 186 = .ok (.iadd, 1) := z_o96 (z_wat (q := 160) (j := 26) zwX12_causeRead_160 rfl)
theorem dX12_causeRead_187 : decode cX12_causeRead 187 = .ok (.aload_n 0, 1) := z_o42 (z_wat (q := 160) (j := 27) zwX12_causeRead_160 rfl)
theorem dX12_causeRead_188 : decode cX12_causeRead 188 = .ok (.getfield 320, 3) := z_o180 (z_wat (q := 160) (j := 28) zwX12_causeRead_160 rfl) (z_wat (q := 160) (j := 29) zwX12_causeRead_160 rfl) (z_wat (q := 160) (j := 30) zwX12_causeRead_160 rfl) rfl
theorem dX12_causeRead_191 : decode cX12_causeRead 191 = .ok (.iastore, 1) := z_o79 (z_wat (q := 160) (j := 31) zwX12_causeRead_160 rfl)
theorem zwX12_causeRead_192 : ((cX12_causeRead.data.toList.drop 192).take 34).map UInt8.toNat = [42, 182, 1, 128, 154, 0, 5, 3, 172, 42, 16, 59, 182, 0, 243, 154, 0, 9, 42, 4, 182, 0, 240, 172, 42, 3, 182, 0, 236, 42, 180, 0, 108, 16] := by decide +kernel
theorem dX12_causeRead_192 : decode cX12_causeRead 192 = .ok (.aload_n 0, 1) := z_o42 (z_wat (q := 192) (j := 0) zwX12_causeRead_192 rfl)
theorem dX12_causeRead_193 : decode cX12_causeRead 193 = .ok (.invokevirtual 384, 3) := z_o182 (z_wat (q := 192) (j := 1) zwX12_causeRead_192 rfl) (z_wat (q := 192) (j := 2) zwX12_causeRead_192 rfl) (z_wat (q := 192) (j := 3) zwX12_causeRead_192 rfl) rfl
theorem dX12_causeRead_196 : decode cX12_causeRead 196 = .ok (.ifCond .ne 5, 3) := z_o154 (z_wat (q := 192) (j := 4) zwX12_causeRead_192 rfl) (z_wat (q := 192) (j := 5) zwX12_causeRead_192 rfl) (z_wat (q := 192) (j := 6) zwX12_causeRead_192 rfl) rfl
theorem dX12_causeRead_199 : decode cX12_causeRead 199 = .ok (.iconst 0, 1) := z_o3 (z_wat (q := 192) (j := 7) zwX12_causeRead_192 rfl)
theorem dX12_causeRead_200 : decode cX12_causeRead 200 = .ok (.ireturn, 1) := z_o172 (z_wat (q := 192) (j := 8) zwX12_causeRead_192 rfl)
theorem dX12_causeRead_201 : decode cX12_causeRead 201 = .ok (.aload_n 0, 1) := z_o42 (z_wat (q := 192) (j := 9) zwX12_causeRead_192 rfl)
theorem dX12_causeRead_202 : decode cX12_causeRead 202 = .ok (.bipush 59, 2) := z_o16 (z_wat (q := 192) (j := 10) zwX12_causeRead_192 rfl) (z_wat (q := 192) (j := 11) zwX12_causeRead_192 rfl) rfl
theorem dX12_causeRead_204 : decode cX12_causeRead 204 = .ok (.invokevirtual 243, 3) := z_o182 (z_wat (q := 192) (j := 12) zwX12_causeRead_192 rfl) (z_wat (q := 192) (j := 13) zwX12_causeRead_192 rfl) (z_wat (q := 192) (j := 14) zwX12_causeRead_192 rfl) rfl
theorem dX12_causeRead_207 : decode cX12_causeRead 207 = .ok (.ifCond .ne 9, 3) := z_o154 (z_wat (q := 192) (j := 15) zwX12_causeRead_192 rfl) (z_wat (q := 192) (j := 16) zwX12_causeRead_192 rfl) (z_wat (q := 192) (j := 17) zwX12_causeRead_192 rfl) rfl
theorem dX12_causeRead_210 : decode cX12_causeRead 210 = .ok (.aload_n 0, 1) := z_o42 (z_wat (q := 192) (j := 18) zwX12_causeRead_192 rfl)
theorem dX12_causeRead_211 : decode cX12_causeRead 211 = .ok (.iconst 1, 1) := z_o4 (z_wat (q := 192) (j := 19) zwX12_causeRead_192 rfl)
theorem dX12_causeRead_212 : decode cX12_causeRead 212 = .ok (.invokevirtual 240, 3) := z_o182 (z_wat (q := 192) (j := 20) zwX12_causeRead_192 rfl) (z_wat (q := 192) (j := 21) zwX12_causeRead_192 rfl) (z_wat (q := 192) (j := 22) zwX12_causeRead_192 rfl) rfl
theorem dX12_causeRead_215 : decode cX12_causeRead 215 = .ok (.ireturn, 1) := z_o172 (z_wat (q := 192) (j := 23) zwX12_causeRead_192 rfl)
theorem dX12_causeRead_216 : decode cX12_causeRead 216 = .ok (.aload_n 0, 1) := z_o42 (z_wat (q := 192) (j := 24) zwX12_causeRead_192 rfl)
theorem dX12_causeRead_217 : decode cX12_causeRead 217 = .ok (.iconst 0, 1) := z_o3 (z_wat (q := 192) (j := 25) zwX12_causeRead_192 rfl)
theorem dX12_causeRead_218 : decode cX12_causeRead 218 = .ok (.invokevirtual 236, 3) := z_o182 (z_wat (q := 192) (j := 26) zwX12_causeRead_192 rfl) (z_wat (q := 192) (j := 27) zwX12_causeRead_192 rfl) (z_wat (q := 192) (j := 28) zwX12_causeRead_192 rfl) rfl
theorem dX12_causeRead_221 : decode cX12_causeRead 221 = .ok (.aload_n 0, 1) := z_o42 (z_wat (q := 192) (j := 29) zwX12_causeRead_192 rfl)
theorem dX12_causeRead_222 : decode cX12_causeRead 222 = .ok (.getfield 108, 3) := z_o180 (z_wat (q := 192) (j := 30) zwX12_causeRead_192 rfl) (z_wat (q := 192) (j := 31) zwX12_causeRead_192 rfl) (z_wat (q := 192) (j := 32) zwX12_causeRead_192 rfl) rfl
theorem zwX12_causeRead_224 : ((cX12_causeRead.data.toList.drop 224).take 34).map UInt8.toNat = [108, 16, 6, 42, 180, 1, 122, 96, 42, 180, 1, 64, 42, 180, 0, 105, 16, 6, 42, 180, 1, 122, 96, 46, 100, 79, 42, 89, 180, 1, 122, 4, 96, 181] := by decide +kernel
theorem dX12_causeRead_225 : decode cX12_causeRead 225 = .ok (.bipush 6, 2) := z_o16 (z_wat (q := 224) (j := 1) zwX12_causeRead_224 rfl) (z_wat (q := 224) (j := 2) zwX12_causeRead_224 rfl) rfl
theorem dX12_causeRead_227 : decode cX12_causeRead 227 = .ok (.aload_n 0, 1) := z_o42 (z_wat (q := 224) (j := 3) zwX12_causeRead_224 rfl)
theorem dX12_causeRead_228 : decode cX12_causeRead 228 = .ok (.getfield 378, 3) := z_o180 (z_wat (q := 224) (j := 4) zwX12_causeRead_224 rfl) (z_wat (q := 224) (j := 5) zwX12_causeRead_224 rfl) (z_wat (q := 224) (j := 6) zwX12_causeRead_224 rfl) rfl
theorem dX12_causeRead_231 : decode cX12_causeRead 231 = .ok (.iadd, 1) := z_o96 (z_wat (q := 224) (j := 7) zwX12_causeRead_224 rfl)
theorem dX12_causeRead_232 : decode cX12_causeRead 232 = .ok (.aload_n 0, 1) := z_o42 (z_wat (q := 224) (j := 8) zwX12_causeRead_224 rfl)
theorem dX12_causeRead_233 : decode cX12_causeRead 233 = .ok (.getfield 320, 3) := z_o180 (z_wat (q := 224) (j := 9) zwX12_causeRead_224 rfl) (z_wat (q := 224) (j := 10) zwX12_causeRead_224 rfl) (z_wat (q := 224) (j := 11) zwX12_causeRead_224 rfl) rfl
theorem dX12_causeRead_236 : decode cX12_causeRead 236 = .ok (.aload_n 0, 1) := z_o42 (z_wat (q := 224) (j := 12) zwX12_causeRead_224 rfl)
theorem dX12_causeRead_237 : decode cX12_causeRead 237 = .ok (.getfield 105, 3) := z_o180 (z_wat (q := 224) (j := 13) zwX12_causeRead_224 rfl) (z_wat (q := 224) (j := 14) zwX12_causeRead_224 rfl) (z_wat (q := 224) (j := 15) zwX12_causeRead_224 rfl) rfl
theorem dX12_causeRead_240 : decode cX12_causeRead 240 = .ok (.bipush 6, 2) := z_o16 (z_wat (q := 224) (j := 16) zwX12_causeRead_224 rfl) (z_wat (q := 224) (j := 17) zwX12_causeRead_224 rfl) rfl
theorem dX12_causeRead_242 : decode cX12_causeRead 242 = .ok (.aload_n 0, 1) := z_o42 (z_wat (q := 224) (j := 18) zwX12_causeRead_224 rfl)
theorem dX12_causeRead_243 : decode cX12_causeRead 243 = .ok (.getfield 378, 3) := z_o180 (z_wat (q := 224) (j := 19) zwX12_causeRead_224 rfl) (z_wat (q := 224) (j := 20) zwX12_causeRead_224 rfl) (z_wat (q := 224) (j := 21) zwX12_causeRead_224 rfl) rfl
theorem dX12_causeRead_246 : decode cX12_causeRead 246 = .ok (.iadd, 1) := z_o96 (z_wat (q := 224) (j := 22) zwX12_causeRead_224 rfl)
theorem dX12_causeRead_247 : decode cX12_causeRead 247 = .ok (.iaload, 1) := z_o46 (z_wat (q := 224) (j := 23) zwX12_causeRead_224 rfl)
theorem dX12_causeRead_248 : decode cX12_causeRead 248 = .ok (.isub, 1) := z_o100 (z_wat (q := 224) (j := 24) zwX12_causeRead_224 rfl)
theorem dX12_causeRead_249 : decode cX12_causeRead 249 = .ok (.iastore, 1) := z_o79 (z_wat (q := 224) (j := 25) zwX12_causeRead_224 rfl)
theorem dX12_causeRead_250 : decode cX12_causeRead 250 = .ok (.aload_n 0, 1) := z_o42 (z_wat (q := 224) (j := 26) zwX12_causeRead_224 rfl)
theorem dX12_causeRead_251 : decode cX12_causeRead 251 = .ok (.dup, 1) := z_o89 (z_wat (q := 224) (j := 27) zwX12_causeRead_224 rfl)
theorem dX12_causeRead_252 : decode cX12_causeRead 252 = .ok (.getfield 378, 3) := z_o180 (z_wat (q := 224) (j := 28) zwX12_causeRead_224 rfl) (z_wat (q := 224) (j := 29) zwX12_causeRead_224 rfl) (z_wat (q := 224) (j := 30) zwX12_causeRead_224 rfl) rfl
theorem dX12_causeRead_255 : decode cX12_causeRead 255 = .ok (.iconst 1, 1) := z_o4 (z_wat (q := 224) (j := 31) zwX12_causeRead_224 rfl)
theorem zwX12_causeRead_256 : ((cX12_causeRead.data.toList.drop 256).take 6).map UInt8.toNat = [96, 181, 1, 122, 4, 172] := by decide +kernel
theorem dX12_causeRead_256 : decode cX12_causeRead 256 = .ok (.iadd, 1) := z_o96 (z_wat (q := 256) (j := 0) zwX12_causeRead_256 rfl)
theorem dX12_causeRead_257 : decode cX12_causeRead 257 = .ok (.putfield 378, 3) := z_o181 (z_wat (q := 256) (j := 1) zwX12_causeRead_256 rfl) (z_wat (q := 256) (j := 2) zwX12_causeRead_256 rfl) (z_wat (q := 256) (j := 3) zwX12_causeRead_256 rfl) rfl
theorem dX12_causeRead_260 : decode cX12_causeRead 260 = .ok (.iconst 1, 1) := z_o4 (z_wat (q := 256) (j := 4) zwX12_causeRead_256 rfl)
theorem dX12_causeRead_261 : decode cX12_causeRead 261 = .ok (.ireturn, 1) := z_o172 (z_wat (q := 256) (j := 5) zwX12_causeRead_256 rfl)
theorem zwX12_expression_0 : ((cX12_expression.data.toList.drop 0).take 34).map UInt8.toNat = [42, 3, 181, 1, 70, 42, 3, 181, 1, 67, 42, 3, 181, 1, 86, 42, 3, 181, 1, 89, 42, 4, 181, 1, 100, 42, 4, 181, 1, 97, 4, 60, 42, 180] := by decide +kernel
theorem dX12_expression_0 : decode cX12_expression 0 = .ok (.aload_n 0, 1) := z_o42 (z_wat (q := 0) (j := 0) zwX12_expression_0 rfl)
theorem dX12_expression_1 : decode cX12_expression 1 = .ok (.iconst 0, 1) := z_o3 (z_wat (q := 0) (j := 1) zwX12_expression_0 rfl)
theorem dX12_expression_2 : decode cX12_expression 2 = .ok (.putfield 326, 3) := z_o181 (z_wat (q := 0) (j := 2) zwX12_expression_0 rfl) (z_wat (q := 0) (j := 3) zwX12_expression_0 rfl) (z_wat (q := 0) (j := 4) zwX12_expression_0 rfl) rfl
theorem dX12_expression_5 : decode cX12_expression 5 = .ok (.aload_n 0, 1) := z_o42 (z_wat (q := 0) (j := 5) zwX12_expression_0 rfl)
theorem dX12_expression_6 : decode cX12_expression 6 = .ok (.iconst 0, 1) := z_o3 (z_wat (q := 0) (j := 6) zwX12_expression_0 rfl)
theorem dX12_expression_7 : decode cX12_expression 7 = .ok (.putfield 323, 3) := z_o181 (z_wat (q := 0) (j := 7) zwX12_expression_0 rfl) (z_wat (q := 0) (j := 8) zwX12_expression_0 rfl) (z_wat (q := 0) (j := 9) zwX12_expression_0 rfl) rfl
theorem dX12_expression_10 : decode cX12_expression 10 = .ok (.aload_n 0, 1) := z_o42 (z_wat (q := 0) (j := 10) zwX12_expression_0 rfl)
theorem dX12_expression_11 : decode cX12_expression 11 = .ok (.iconst 0, 1) := z_o3 (z_wat (q := 0) (j := 11) zwX12_expression_0 rfl)
theorem dX12_expression_12 : decode cX12_expression 12 = .ok (.putfield 342, 3) := z_o181 (z_wat (q := 0) (j := 12) zwX12_expression_0 rfl) (z_wat (q := 0) (j := 13) zwX12_expression_0 rfl) (z_wat (q := 0) (j := 14) zwX12_expression_0 rfl) rfl
theorem dX12_expression_15 : decode cX12_expression 15 = .ok (.aload_n 0, 1) := z_o42 (z_wat (q := 0) (j := 15) zwX12_expression_0 rfl)
theorem dX12_expression_16 : decode cX12_expression 16 = .ok (.iconst 0, 1) := z_o3 (z_wat (q := 0) (j := 16) zwX12_expression_0 rfl)
theorem dX12_expression_17 : decode cX12_expression 17 = .ok (.putfield 345, 3) := z_o181 (z_wat (q := 0) (j := 17) zwX12_expression_0 rfl) (z_wat (q := 0) (j := 18) zwX12_expression_0 rfl) (z_wat (q := 0) (j := 19) zwX12_expression_0 rfl) rfl
theorem dX12_expression_20 : decode cX12_expression 20 = .ok (.aload_n 0, 1) := z_o42 (z_wat (q := 0) (j := 20) zwX12_expression_0 rfl)
theorem dX12_expression_21 : decode cX12_expression 21 = .ok (.iconst 1, 1) := z_o4 (z_wat (q := 0) (j := 21) zwX12_expression_0 rfl)
theorem dX12_expression_22 : decode cX12_expression 22 = .ok (.putfield 356, 3) := z_o181 (z_wat (q := 0) (j := 22) zwX12_expression_0 rfl) (z_wat (q := 0) (j := 23) zwX12_expression_0 rfl) (z_wat (q := 0) (j := 24) zwX12_expression_0 rfl) rfl
theorem dX12_expression_25 : decode cX12_expression 25 = .ok (.aload_n 0, 1) := z_o42 (z_wat (q := 0) (j := 25) zwX12_expression_0 rfl)
theorem dX12_expression_26 : decode cX12_expression 26 = .ok (.iconst 1, 1) := z_o4 (z_wat (q := 0) (j := 26) zwX12_expression_0 rfl)
theorem dX12_expression_27 : decode cX12_expression 27 = .ok (.putfield 353, 3) := z_o181 (z_wat (q := 0) (j := 27) zwX12_expression_0 rfl) (z_wat (q := 0) (j := 28) zwX12_expression_0 rfl) (z_wat (q := 0) (j := 29) zwX12_expression_0 rfl) rfl
theorem dX12_expression_30 : decode cX12_expression 30 = .ok (.iconst 1, 1) := z_o4 (z_wat (q := 0) (j := 30) zwX12_expression_0 rfl)
theorem dX12_expression_31 : decode cX12_expression 31 = .ok (.istore_n 1, 1) := z_o60 (z_wat (q := 0) (j := 31) zwX12_expression_0 rfl)
theorem zwX12_expression_32 : ((cX12_expression.data.toList.drop 32).take 34).map UInt8.toNat = [42, 180, 1, 100, 153, 0, 11, 42, 182, 1, 110, 60, 167, 0, 69, 42, 182, 1, 113, 155, 0, 15, 42, 42, 182, 1, 113, 182, 1, 116, 60, 167, 0, 50] := by decide +kernel
theorem dX12_expression_32 : decode cX12_expression 32 = .ok (.aload_n 0, 1) := z_o42 (z_wat (q := 32) (j := 0) zwX12_expression_32 rfl)
theorem dX12_expression_33 : decode cX12_expression 33 = .ok (.getfield 356, 3) := z_o180 (z_wat (q := 32) (j := 1) zwX12_expression_32 rfl) (z_wat (q := 32) (j := 2) zwX12_expression_32 rfl) (z_wat (q := 32) (j := 3) zwX12_expression_32 rfl) rfl
theorem dX12_expression_36 : decode cX12_expression 36 = .ok (.ifCond .eq 11, 3) := z_o153 (z_wat (q := 32) (j := 4) zwX12_expression_32 rfl) (z_wat (q := 32) (j := 5) zwX12_expression_32 rfl) (z_wat (q := 32) (j := 6) zwX12_expression_32 rfl) rfl
theorem dX12_expression_39 : decode cX12_expression 39 = .ok (.aload_n 0, 1) := z_o42 (z_wat (q := 32) (j := 7) zwX12_expression_32 rfl)
theorem dX12_expression_40 : decode cX12_expression 40 = .ok (.invokevirtual 366, 3) := z_o182 (z_wat (q := 32) (j := 8) zwX12_expression_32 rfl) (z_wat (q := 32) (j := 9) zwX12_expression_32 rfl) (z_wat (q := 32) (j := 10) zwX12_expression_32 rfl) rfl
theorem dX12_expression_43 : decode cX12_expression 43 = .ok (.istore_n 1, 1) := z_o60 (z_wat (q := 32) (j := 11) zwX12_expression_32 rfl)
theorem dX12_expression_44 : decode cX12_expression 44 = .ok (.goto 69, 3) := z_o167 (z_wat (q := 32) (j := 12) zwX12_expression_32 rfl) (z_wat (q := 32) (j := 13) zwX12_expression_32 rfl) (z_wat (q := 32) (j := 14) zwX12_expression_32 rfl) rfl
theorem dX12_expression_47 : decode cX12_expression 47 = .ok (.aload_n 0, 1) := z_o42 (z_wat (q := 32) (j := 15) zwX12_expression_32 rfl)
theorem dX12_expression_48 : decode cX12_expression 48 = .ok (.invokevirtual 369, 3) := z_o182 (z_wat (q := 32) (j := 16) zwX12_expression_32 rfl) (z_wat (q := 32) (j := 17) zwX12_expression_32 rfl) (z_wat (q := 32) (j := 18) zwX12_expression_32 rfl) rfl
theorem dX12_expression_51 : decode cX12_expression 51 = .ok (.ifCond .lt 15, 3) := z_o155 (z_wat (q := 32) (j := 19) zwX12_expression_32 rfl) (z_wat (q := 32) (j := 20) zwX12_expression_32 rfl) (z_wat (q := 32) (j := 21) zwX12_expression_32 rfl) rfl
theorem dX12_expression_54 : decode cX12_expression 54 = .ok (.aload_n 0, 1) := z_o42 (z_wat (q := 32) (j := 22) zwX12_expression_32 rfl)
theorem dX12_expression_55 : decode cX12_expression 55 = .ok (.aload_n 0, 1) := z_o42 (z_wat (q := 32) (j := 23) zwX12_expression_32 rfl)
theorem dX12_expression_56 : decode cX12_expression 56 = .ok (.invokevirtual 369, 3) := z_o182 (z_wat (q := 32) (j := 24) zwX12_expression_32 rfl) (z_wat (q := 32) (j := 25) zwX12_expression_32 rfl) (z_wat (q := 32) (j := 26) zwX12_expression_32 rfl) rfl
theorem dX12_expression_59 : decode cX12_expression 59 = .ok (.invokevirtual 372, 3) := z_o182 (z_wat (q := 32) (j := 27) zwX12_expression_32 rfl) (z_wat (q := 32) (j := 28) zwX12_expression_32 rfl) (z_wat (q := 32) (j := 29) zwX12_expression_32 rfl) rfl
theorem dX12_expression_62 : decode cX12_expression 62 = .ok (.istore_n 1, 1) := z_o60 (z_wat (q := 32) (j := 30) zwX12_expression_32 rfl)
theorem dX12_expression_63 : decode cX12_expression 63 = .ok (.goto 50, 3) := z_o167 (z_wat (q := 32) (j := 31) zwX12_expression_32 rfl) (z_wat (q := 32) (j := 32) zwX12_expression_32 rfl) (z_wat (q := 32) (j := 33) zwX12_expression_32 rfl) rfl
theorem zwX12_expression_64 : ((cX12_expression.data.toList.drop 64).take 34).map UInt8.toNat = [0, 50, 42, 16, 41, 182, 0, 243, 153, 0, 18, 42, 180, 1, 86, 158, 0, 11, 42, 182, 1, 119, 60, 167, 0, 26, 42, 180, 1, 86, 158, 0, 12, 42] := by decide +kernel
theorem dX12_expression_66 : decode cX12_expression 66 = .ok (.aload_n 0, 1) := z_o42 (z_wat (q := 64) (j := 2) zwX12_expression_64 rfl)
theorem dX12_expression_67 : decode cX12_expression 67 = .ok (.bipush 41, 2) := z_o16 (z_wat (q := 64) (j := 3) zwX12_expression_64 rfl) (z_wat (q := 64) (j := 4) zwX12_expression_64 rfl) rfl
theorem dX12_expression_69 : decode cX12_expression 69 = .ok (.invokevirtual 243, 3) := z_o182 (z_wat (q := 64) (j := 5) zwX12_expression_64 rfl) (z_wat (q := 64) (j := 6) zwX12_expression_64 rfl) (z_wat (q := 64) (j := 7) zwX12_expression_64 rfl) rfl
theorem dX12_expression_72 : decode cX12_expression 72 = .ok (.ifCond .eq 18, 3) := z_o153 (z_wat (q := 64) (j := 8) zwX12_expression_64 rfl) (z_wat (q := 64) (j := 9) zwX12_expression_64 rfl) (z_wat (q := 64) (j := 10) zwX12_expression_64 rfl) rfl
theorem dX12_expression_75 : decode cX12_expression 75 = .ok (.aload_n 0, 1) := z_o42 (z_wat (q := 64) (j := 11) zwX12_expression_64 rfl)
theorem dX12_expression_76 : decode cX12_expression 76 = .ok (.getfield 342, 3) := z_o180 (z_wat (q := 64) (j := 12) zwX12_expression_64 rfl) (z_wat (q := 64) (j := 13) zwX12_expression_64 rfl) (z_wat (q := 64) (j := 14) zwX12_expression_64 rfl) rfl
theorem dX12_expression_79 : decode cX12_expression 79 = .ok (.ifCond .le 11, 3) := z_o158 (z_wat (q := 64) (j := 15) zwX12_expression_64 rfl) (z_wat (q := 64) (j := 16) zwX12_expression_64 rfl) (z_wat (q := 64) (j := 17) zwX12_expression_64 rfl) rfl
theorem dX12_expression_82 : decode cX12_expression 82 = .ok (.aload_n 0, 1) := z_o42 (z_wat (q := 64) (j := 18) zwX12_expression_64 rfl)
theorem dX12_expression_83 : decode cX12_expression 83 = .ok (.invokevirtual 375, 3) := z_o182 (z_wat (q := 64) (j := 19) zwX12_expression_64 rfl) (z_wat (q := 64) (j := 20) zwX12_expression_64 rfl) (z_wat (q := 64) (j := 21) zwX12_expression_64 rfl) rfl
theorem dX12_expression_86 : decode cX12_expression 86 = .ok (.istore_n 1, 1) := z_o60 (z_wat (q := 64) (j := 22) zwX12_expression_64 rfl)
theorem dX12_expression_87 : decode cX12_expression 87 = .ok (.goto 26, 3) := z_o167 (z_wat (q := 64) (j := 23) zwX12_expression_64 rfl) (z_wat (q := 64) (j := 24) zwX12_expression_64 rfl) (z_wat (q := 64) (j := 25) zwX12_expression_64 rfl) rfl
theorem dX12_expression_90 : decode cX12_expression 90 = .ok (.aload_n 0, 1) := z_o42 (z_wat (q := 64) (j := 26) zwX12_expression_64 rfl)
theorem dX12_expression_91 : decode cX12_expression 91 = .ok (.getfield 342, 3) := z_o180 (z_wat (q := 64) (j := 27) zwX12_expression_64 rfl) (z_wat (q := 64) (j := 28) zwX12_expression_64 rfl) (z_wat (q := 64) (j := 29) zwX12_expression_64 rfl) rfl
theorem dX12_expression_94 : decode cX12_expression 94 = .ok (.ifCond .le 12, 3) := z_o158 (z_wat (q := 64) (j := 30) zwX12_expression_64 rfl) (z_wat (q := 64) (j := 31) zwX12_expression_64 rfl) (z_wat (q := 64) (j := 32) zwX12_expression_64 rfl) rfl
theorem zwX12_expression_96 : ((cX12_expression.data.toList.drop 96).take 26).map UInt8.toNat = [12, 42, 4, 182, 0, 240, 60, 167, 0, 10, 42, 4, 182, 1, 107, 4, 172, 27, 154, 0, 5, 3, 172, 167, 255, 167] := by decide +kernel
theorem dX12_expression_97 : decode cX12_expression 97 = .ok (.aload_n 0, 1) := z_o42 (z_wat (q := 96) (j := 1) zwX12_expression_96 rfl)
theorem dX12_expression_98 : decode cX12_expression 98 = .ok (.iconst 1, 1) := z_o4 (z_wat (q := 96) (j := 2) zwX12_expression_96 rfl)
theorem dX12_expression_99 : decode cX12_expression 99 = .ok (.invokevirtual 240, 3) := z_o182 (z_wat (q := 96) (j := 3) zwX12_expression_96 rfl) (z_wat (q := 96) (j := 4) zwX12_expression_96 rfl) (z_wat (q := 96) (j := 5) zwX12_expression_96 rfl) rfl
theorem dX12_expression_102 : decode cX12_expression 102 = .ok (.istore_n 1, 1) := z_o60 (z_wat (q := 96) (j := 6) zwX12_expression_96 rfl)
theorem dX12_expression_103 : decode cX12_expression 103 = .ok (.goto 10, 3) := z_o167 (z_wat (q := 96) (j := 7) zwX12_expression_96 rfl) (z_wat (q := 96) (j := 8) zwX12_expression_96 rfl) (z_wat (q := 96) (j := 9) zwX12_expression_96 rfl) rfl
theorem dX12_expression_106 : decode cX12_expression 106 = .ok (.aload_n 0, 1) := z_o42 (z_wat (q := 96) (j := 10) zwX12_expression_96 rfl)
theorem dX12_expression_107 : decode cX12_expression 107 = .ok (.iconst 1, 1) := z_o4 (z_wat (q := 96) (j := 11) zwX12_expression_96 rfl)
theorem dX12_expression_108 : decode cX12_expression 108 = .ok (.invokevirtual 363, 3) := z_o182 (z_wat (q := 96) (j := 12) zwX12_expression_96 rfl) (z_wat (q := 96) (j := 13) zwX12_expression_96 rfl) (z_wat (q := 96) (j := 14) zwX12_expression_96 rfl) rfl
theorem dX12_expression_111 : decode cX12_expression 111 = .ok (.iconst 1, 1) := z_o4 (z_wat (q := 96) (j := 15) zwX12_expression_96 rfl)
theorem dX12_expression_112 : decode cX12_expression 112 = .ok (.ireturn, 1) := z_o172 (z_wat (q := 96) (j := 16) zwX12_expression_96 rfl)
theorem dX12_expression_113 : decode cX12_expression 113 = .ok (.iload_n 1, 1) := z_o27 (z_wat (q := 96) (j := 17) zwX12_expression_96 rfl)
theorem dX12_expression_114 : decode cX12_expression 114 = .ok (.ifCond .ne 5, 3) := z_o154 (z_wat (q := 96) (j := 18) zwX12_expression_96 rfl) (z_wat (q := 96) (j := 19) zwX12_expression_96 rfl) (z_wat (q := 96) (j := 20) zwX12_expression_96 rfl) rfl
theorem dX12_expression_117 : decode cX12_expression 117 = .ok (.iconst 0, 1) := z_o3 (z_wat (q := 96) (j := 21) zwX12_expression_96 rfl)
theorem dX12_expression_118 : decode cX12_expression 118 = .ok (.ireturn, 1) := z_o172 (z_wat (q := 96) (j := 22) zwX12_expression_96 rfl)
theorem dX12_expression_119 : decode cX12_expression 119 = .ok (.goto (-89), 3) := z_o167 (z_wat (q := 96) (j := 23) zwX12_expression_96 rfl) (z_wat (q := 96) (j := 24) zwX12_expression_96 rfl) (z_wat (q := 96) (j := 25) zwX12_expression_96 rfl) rfl
theorem zwX12_isTold_0 : ((cX12_isTold.data.toList.drop 0).take 34).map UInt8.toNat = [3, 60, 27, 42, 180, 1, 122, 162, 0, 92, 42, 180, 0, 102, 27, 46, 42, 180, 0, 207, 42, 180, 0, 201, 100, 160, 0, 7, 4, 167, 0, 4, 3, 61] := by decide +kernel
theorem dX12_isTold_0 : decode cX12_isTold 0 = .ok (.iconst 0, 1) := z_o3 (z_wat (q := 0) (j := 0) zwX12_isTold_0 rfl)
theorem dX12_isTold_1 : decode cX12_isTold 1 = .ok (.istore_n 1, 1) := z_o60 (z_wat (q := 0) (j := 1) zwX12_isTold_0 rfl)
theorem dX12_isTold_2 : decode cX12_isTold 2 = .ok (.iload_n 1, 1) := z_o27 (z_wat (q := 0) (j := 2) zwX12_isTold_0 rfl)
theorem dX12_isTold_3 : decode cX12_isTold 3 = .ok (.aload_n 0, 1) := z_o42 (z_wat (q := 0) (j := 3) zwX12_isTold_0 rfl)
theorem dX12_isTold_4 : decode cX12_isTold 4 = .ok (.getfield 378, 3) := z_o180 (z_wat (q := 0) (j := 4) zwX12_isTold_0 rfl) (z_wat (q := 0) (j := 5) zwX12_isTold_0 rfl) (z_wat (q := 0) (j := 6) zwX12_isTold_0 rfl) rfl
theorem dX12_isTold_7 : decode cX12_isTold 7 = .ok (.if_icmp .ge 92, 3) := z_o162 (z_wat (q := 0) (j := 7) zwX12_isTold_0 rfl) (z_wat (q := 0) (j := 8) zwX12_isTold_0 rfl) (z_wat (q := 0) (j := 9) zwX12_isTold_0 rfl) rfl
theorem dX12_isTold_10 : decode cX12_isTold 10 = .ok (.aload_n 0, 1) := z_o42 (z_wat (q := 0) (j := 10) zwX12_isTold_0 rfl)
theorem dX12_isTold_11 : decode cX12_isTold 11 = .ok (.getfield 102, 3) := z_o180 (z_wat (q := 0) (j := 11) zwX12_isTold_0 rfl) (z_wat (q := 0) (j := 12) zwX12_isTold_0 rfl) (z_wat (q := 0) (j := 13) zwX12_isTold_0 rfl) rfl
theorem dX12_isTold_14 : decode cX12_isTold 14 = .ok (.iload_n 1, 1) := z_o27 (z_wat (q := 0) (j := 14) zwX12_isTold_0 rfl)
theorem dX12_isTold_15 : decode cX12_isTold 15 = .ok (.iaload, 1) := z_o46 (z_wat (q := 0) (j := 15) zwX12_isTold_0 rfl)
theorem dX12_isTold_16 : decode cX12_isTold 16 = .ok (.aload_n 0, 1) := z_o42 (z_wat (q := 0) (j := 16) zwX12_isTold_0 rfl)
theorem dX12_isTold_17 : decode cX12_isTold 17 = .ok (.getfield 207, 3) := z_o180 (z_wat (q := 0) (j := 17) zwX12_isTold_0 rfl) (z_wat (q := 0) (j := 18) zwX12_isTold_0 rfl) (z_wat (q := 0) (j := 19) zwX12_isTold_0 rfl) rfl
theorem dX12_isTold_20 : decode cX12_isTold 20 = .ok (.aload_n 0, 1) := z_o42 (z_wat (q := 0) (j := 20) zwX12_isTold_0 rfl)
theorem dX12_isTold_21 : decode cX12_isTold 21 = .ok (.getfield 201, 3) := z_o180 (z_wat (q := 0) (j := 21) zwX12_isTold_0 rfl) (z_wat (q := 0) (j := 22) zwX12_isTold_0 rfl) (z_wat (q := 0) (j := 23) zwX12_isTold_0 rfl) rfl
theorem dX12_isTold_24 : decode cX12_isTold 24 = .ok (.isub, 1) := z_o100 (z_wat (q := 0) (j := 24) zwX12_isTold_0 rfl)
theorem dX12_isTold_25 : decode cX12_isTold 25 = .ok (.if_icmp .ne 7, 3) := z_o160 (z_wat (q := 0) (j := 25) zwX12_isTold_0 rfl) (z_wat (q := 0) (j := 26) zwX12_isTold_0 rfl) (z_wat (q := 0) (j := 27) zwX12_isTold_0 rfl) rfl
theorem dX12_isTold_28 : decode cX12_isTold 28 = .ok (.iconst 1, 1) := z_o4 (z_wat (q := 0) (j := 28) zwX12_isTold_0 rfl)
theorem dX12_isTold_29 : decode cX12_isTold 29 = .ok (.goto 4, 3) := z_o167 (z_wat (q := 0) (j := 29) zwX12_isTold_0 rfl) (z_wat (q := 0) (j := 30) zwX12_isTold_0 rfl) (z_wat (q := 0) (j := 31) zwX12_isTold_0 rfl) rfl
theorem zwX12_isTold_32 : ((cX12_isTold.data.toList.drop 32).take 34).map UInt8.toNat = [3, 61, 3, 62, 29, 42, 180, 0, 102, 27, 46, 162, 0, 44, 28, 153, 0, 40, 42, 180, 0, 99, 16, 8, 27, 104, 29, 96, 46, 42, 180, 0, 7, 42] := by decide +kernel
theorem dX12_isTold_32 : decode cX12_isTold 32 = .ok (.iconst 0, 1) := z_o3 (z_wat (q := 32) (j := 0) zwX12_isTold_32 rfl)
theorem dX12_isTold_33 : decode cX12_isTold 33 = .ok (.istore_n 2, 1) := z_o61 (z_wat (q := 32) (j := 1) zwX12_isTold_32 rfl)
theorem dX12_isTold_34 : decode cX12_isTold 34 = .ok (.iconst 0, 1) := z_o3 (z_wat (q := 32) (j := 2) zwX12_isTold_32 rfl)
theorem dX12_isTold_35 : decode cX12_isTold 35 = .ok (.istore_n 3, 1) := z_o62 (z_wat (q := 32) (j := 3) zwX12_isTold_32 rfl)
theorem dX12_isTold_36 : decode cX12_isTold 36 = .ok (.iload_n 3, 1) := z_o29 (z_wat (q := 32) (j := 4) zwX12_isTold_32 rfl)
theorem dX12_isTold_37 : decode cX12_isTold 37 = .ok (.aload_n 0, 1) := z_o42 (z_wat (q := 32) (j := 5) zwX12_isTold_32 rfl)
theorem dX12_isTold_38 : decode cX12_isTold 38 = .ok (.getfield 102, 3) := z_o180 (z_wat (q := 32) (j := 6) zwX12_isTold_32 rfl) (z_wat (q := 32) (j := 7) zwX12_isTold_32 rfl) (z_wat (q := 32) (j := 8) zwX12_isTold_32 rfl) rfl
theorem dX12_isTold_41 : decode cX12_isTold 41 = .ok (.iload_n 1, 1) := z_o27 (z_wat (q := 32) (j := 9) zwX12_isTold_32 rfl)
theorem dX12_isTold_42 : decode cX12_isTold 42 = .ok (.iaload, 1) := z_o46 (z_wat (q := 32) (j := 10) zwX12_isTold_32 rfl)
theorem dX12_isTold_43 : decode cX12_isTold 43 = .ok (.if_icmp .ge 44, 3) := z_o162 (z_wat (q := 32) (j := 11) zwX12_isTold_32 rfl) (z_wat (q := 32) (j := 12) zwX12_isTold_32 rfl) (z_wat (q := 32) (j := 13) zwX12_isTold_32 rfl) rfl
theorem dX12_isTold_46 : decode cX12_isTold 46 = .ok (.iload_n 2, 1) := z_o28 (z_wat (q := 32) (j := 14) zwX12_isTold_32 rfl)
theorem dX12_isTold_47 : decode cX12_isTold 47 = .ok (.ifCond .eq 40, 3) := z_o153 (z_wat (q := 32) (j := 15) zwX12_isTold_32 rfl) (z_wat (q := 32) (j := 16) zwX12_isTold_32 rfl) (z_wat (q := 32) (j := 17) zwX12_isTold_32 rfl) rfl
theorem dX12_isTold_50 : decode cX12_isTold 50 = .ok (.aload_n 0, 1) := z_o42 (z_wat (q := 32) (j := 18) zwX12_isTold_32 rfl)
theorem dX12_isTold_51 : decode cX12_isTold 51 = .ok (.getfield 99, 3) := z_o180 (z_wat (q := 32) (j := 19) zwX12_isTold_32 rfl) (z_wat (q := 32) (j := 20) zwX12_isTold_32 rfl) (z_wat (q := 32) (j := 21) zwX12_isTold_32 rfl) rfl
theorem dX12_isTold_54 : decode cX12_isTold 54 = .ok (.bipush 8, 2) := z_o16 (z_wat (q := 32) (j := 22) zwX12_isTold_32 rfl) (z_wat (q := 32) (j := 23) zwX12_isTold_32 rfl) rfl
theorem dX12_isTold_56 : decode cX12_isTold 56 = .ok (.iload_n 1, 1) := z_o27 (z_wat (q := 32) (j := 24) zwX12_isTold_32 rfl)
theorem dX12_isTold_57 : decode cX12_isTold 57 = .ok (.imul, 1) := z_o104 (z_wat (q := 32) (j := 25) zwX12_isTold_32 rfl)
theorem dX12_isTold_58 : decode cX12_isTold 58 = .ok (.iload_n 3, 1) := z_o29 (z_wat (q := 32) (j := 26) zwX12_isTold_32 rfl)
theorem dX12_isTold_59 : decode cX12_isTold 59 = .ok (.iadd, 1) := z_o96 (z_wat (q := 32) (j := 27) zwX12_isTold_32 rfl)
theorem dX12_isTold_60 : decode cX12_isTold 60 = .ok (.iaload, 1) := z_o46 (z_wat (q := 32) (j := 28) zwX12_isTold_32 rfl)
theorem dX12_isTold_61 : decode cX12_isTold 61 = .ok (.aload_n 0, 1) := z_o42 (z_wat (q := 32) (j := 29) zwX12_isTold_32 rfl)
theorem dX12_isTold_62 : decode cX12_isTold 62 = .ok (.getfield 7, 3) := z_o180 (z_wat (q := 32) (j := 30) zwX12_isTold_32 rfl) (z_wat (q := 32) (j := 31) zwX12_isTold_32 rfl) (z_wat (q := 32) (j := 32) zwX12_isTold_32 rfl) rfl
theorem zwX12_isTold_64 : ((cX12_isTold.data.toList.drop 64).take 34).map UInt8.toNat = [7, 42, 180, 0, 201, 29, 96, 46, 160, 0, 7, 4, 167, 0, 4, 3, 61, 132, 3, 1, 167, 255, 208, 28, 153, 0, 5, 4, 172, 132, 1, 1, 167, 255] := by decide +kernel
theorem dX12_isTold_65 : decode cX12_isTold 65 = .ok (.aload_n 0, 1) := z_o42 (z_wat (q := 64) (j := 1) zwX12_isTold_64 rfl)
theorem dX12_isTold_66 : decode cX12_isTold 66 = .ok (.getfield 201, 3) := z_o180 (z_wat (q := 64) (j := 2) zwX12_isTold_64 rfl) (z_wat (q := 64) (j := 3) zwX12_isTold_64 rfl) (z_wat (q := 64) (j := 4) zwX12_isTold_64 rfl) rfl
theorem dX12_isTold_69 : decode cX12_isTold 69 = .ok (.iload_n 3, 1) := z_o29 (z_wat (q := 64) (j := 5) zwX12_isTold_64 rfl)
theorem dX12_isTold_70 : decode cX12_isTold 70 = .ok (.iadd, 1) := z_o96 (z_wat (q := 64) (j := 6) zwX12_isTold_64 rfl)
theorem dX12_isTold_71 : decode cX12_isTold 71 = .ok (.iaload, 1) := z_o46 (z_wat (q := 64) (j := 7) zwX12_isTold_64 rfl)
theorem dX12_isTold_72 : decode cX12_isTold 72 = .ok (.if_icmp .ne 7, 3) := z_o160 (z_wat (q := 64) (j := 8) zwX12_isTold_64 rfl) (z_wat (q := 64) (j := 9) zwX12_isTold_64 rfl) (z_wat (q := 64) (j := 10) zwX12_isTold_64 rfl) rfl
theorem dX12_isTold_75 : decode cX12_isTold 75 = .ok (.iconst 1, 1) := z_o4 (z_wat (q := 64) (j := 11) zwX12_isTold_64 rfl)
theorem dX12_isTold_76 : decode cX12_isTold 76 = .ok (.goto 4, 3) := z_o167 (z_wat (q := 64) (j := 12) zwX12_isTold_64 rfl) (z_wat (q := 64) (j := 13) zwX12_isTold_64 rfl) (z_wat (q := 64) (j := 14) zwX12_isTold_64 rfl) rfl
theorem dX12_isTold_79 : decode cX12_isTold 79 = .ok (.iconst 0, 1) := z_o3 (z_wat (q := 64) (j := 15) zwX12_isTold_64 rfl)
theorem dX12_isTold_80 : decode cX12_isTold 80 = .ok (.istore_n 2, 1) := z_o61 (z_wat (q := 64) (j := 16) zwX12_isTold_64 rfl)
theorem dX12_isTold_81 : decode cX12_isTold 81 = .ok (.iinc 3 1, 3) := z_o132 (z_wat (q := 64) (j := 17) zwX12_isTold_64 rfl) (z_wat (q := 64) (j := 18) zwX12_isTold_64 rfl) (z_wat (q := 64) (j := 19) zwX12_isTold_64 rfl) rfl
theorem dX12_isTold_84 : decode cX12_isTold 84 = .ok (.goto (-48), 3) := z_o167 (z_wat (q := 64) (j := 20) zwX12_isTold_64 rfl) (z_wat (q := 64) (j := 21) zwX12_isTold_64 rfl) (z_wat (q := 64) (j := 22) zwX12_isTold_64 rfl) rfl
theorem dX12_isTold_87 : decode cX12_isTold 87 = .ok (.iload_n 2, 1) := z_o28 (z_wat (q := 64) (j := 23) zwX12_isTold_64 rfl)
theorem dX12_isTold_88 : decode cX12_isTold 88 = .ok (.ifCond .eq 5, 3) := z_o153 (z_wat (q := 64) (j := 24) zwX12_isTold_64 rfl) (z_wat (q := 64) (j := 25) zwX12_isTold_64 rfl) (z_wat (q := 64) (j := 26) zwX12_isTold_64 rfl) rfl
theorem dX12_isTold_91 : decode cX12_isTold 91 = .ok (.iconst 1, 1) := z_o4 (z_wat (q := 64) (j := 27) zwX12_isTold_64 rfl)
theorem dX12_isTold_92 : decode cX12_isTold 92 = .ok (.ireturn, 1) := z_o172 (z_wat (q := 64) (j := 28) zwX12_isTold_64 rfl)
theorem dX12_isTold_93 : decode cX12_isTold 93 = .ok (.iinc 1 1, 3) := z_o132 (z_wat (q := 64) (j := 29) zwX12_isTold_64 rfl) (z_wat (q := 64) (j := 30) zwX12_isTold_64 rfl) (z_wat (q := 64) (j := 31) zwX12_isTold_64 rfl) rfl
theorem zwX12_isTold_96 : ((cX12_isTold.data.toList.drop 96).take 5).map UInt8.toNat = [167, 255, 162, 3, 172] := by decide +kernel
theorem dX12_isTold_96 : decode cX12_isTold 96 = .ok (.goto (-94), 3) := z_o167 (z_wat (q := 96) (j := 0) zwX12_isTold_96 rfl) (z_wat (q := 96) (j := 1) zwX12_isTold_96 rfl) (z_wat (q := 96) (j := 2) zwX12_isTold_96 rfl) rfl
theorem dX12_isTold_99 : decode cX12_isTold 99 = .ok (.iconst 0, 1) := z_o3 (z_wat (q := 96) (j := 3) zwX12_isTold_96 rfl)
theorem dX12_isTold_100 : decode cX12_isTold 100 = .ok (.ireturn, 1) := z_o172 (z_wat (q := 96) (j := 4) zwX12_isTold_96 rfl)
theorem zwX12_rules_0 : ((cX12_rules.data.toList.drop 0).take 34).map UInt8.toNat = [42, 3, 181, 0, 145, 27, 155, 0, 11, 27, 42, 180, 0, 148, 164, 0, 6, 16, 254, 172, 42, 27, 3, 182, 0, 250, 42, 3, 181, 1, 122, 42, 3, 181] := by decide +kernel
theorem dX12_rules_0 : decode cX12_rules 0 = .ok (.aload_n 0, 1) := z_o42 (z_wat (q := 0) (j := 0) zwX12_rules_0 rfl)
theorem dX12_rules_1 : decode cX12_rules 1 = .ok (.iconst 0, 1) := z_o3 (z_wat (q := 0) (j := 1) zwX12_rules_0 rfl)
theorem dX12_rules_2 : decode cX12_rules 2 = .ok (.putfield 145, 3) := z_o181 (z_wat (q := 0) (j := 2) zwX12_rules_0 rfl) (z_wat (q := 0) (j := 3) zwX12_rules_0 rfl) (z_wat (q := 0) (j := 4) zwX12_rules_0 rfl) rfl
theorem dX12_rules_5 : decode cX12_rules 5 = .ok (.iload_n 1, 1) := z_o27 (z_wat (q := 0) (j := 5) zwX12_rules_0 rfl)
theorem dX12_rules_6 : decode cX12_rules 6 = .ok (.ifCond .lt 11, 3) := z_o155 (z_wat (q := 0) (j := 6) zwX12_rules_0 rfl) (z_wat (q := 0) (j := 7) zwX12_rules_0 rfl) (z_wat (q := 0) (j := 8) zwX12_rules_0 rfl) rfl
theorem dX12_rules_9 : decode cX12_rules 9 = .ok (.iload_n 1, 1) := z_o27 (z_wat (q := 0) (j := 9) zwX12_rules_0 rfl)
theorem dX12_rules_10 : decode cX12_rules 10 = .ok (.aload_n 0, 1) := z_o42 (z_wat (q := 0) (j := 10) zwX12_rules_0 rfl)
theorem dX12_rules_11 : decode cX12_rules 11 = .ok (.getfield 148, 3) := z_o180 (z_wat (q := 0) (j := 11) zwX12_rules_0 rfl) (z_wat (q := 0) (j := 12) zwX12_rules_0 rfl) (z_wat (q := 0) (j := 13) zwX12_rules_0 rfl) rfl
theorem dX12_rules_14 : decode cX12_rules 14 = .ok (.if_icmp .le 6, 3) := z_o164 (z_wat (q := 0) (j := 14) zwX12_rules_0 rfl) (z_wat (q := 0) (j := 15) zwX12_rules_0 rfl) (z_wat (q := 0) (j := 16) zwX12_rules_0 rfl) rfl
theorem dX12_rules_17 : decode cX12_rules 17 = .ok (.bipush (-2), 2) := z_o16 (z_wat (q := 0) (j := 17) zwX12_rules_0 rfl) (z_wat (q := 0) (j := 18) zwX12_rules_0 rfl) rfl
theorem dX12_rules_19 : decode cX12_rules 19 = .ok (.ireturn, 1) := z_o172 (z_wat (q := 0) (j := 19) zwX12_rules_0 rfl)
theorem dX12_rules_20 : decode cX12_rules 20 = .ok (.aload_n 0, 1) := z_o42 (z_wat (q := 0) (j := 20) zwX12_rules_0 rfl)
theorem dX12_rules_21 : decode cX12_rules 21 = .ok (.iload_n 1, 1) := z_o27 (z_wat (q := 0) (j := 21) zwX12_rules_0 rfl)
theorem dX12_rules_22 : decode cX12_rules 22 = .ok (.iconst 0, 1) := z_o3 (z_wat (q := 0) (j := 22) zwX12_rules_0 rfl)
theorem dX12_rules_23 : decode cX12_rules 23 = .ok (.invokevirtual 250, 3) := z_o182 (z_wat (q := 0) (j := 23) zwX12_rules_0 rfl) (z_wat (q := 0) (j := 24) zwX12_rules_0 rfl) (z_wat (q := 0) (j := 25) zwX12_rules_0 rfl) rfl
theorem dX12_rules_26 : decode cX12_rules 26 = .ok (.aload_n 0, 1) := z_o42 (z_wat (q := 0) (j := 26) zwX12_rules_0 rfl)
theorem dX12_rules_27 : decode cX12_rules 27 = .ok (.iconst 0, 1) := z_o3 (z_wat (q := 0) (j := 27) zwX12_rules_0 rfl)
theorem dX12_rules_28 : decode cX12_rules 28 = .ok (.putfield 378, 3) := z_o181 (z_wat (q := 0) (j := 28) zwX12_rules_0 rfl) (z_wat (q := 0) (j := 29) zwX12_rules_0 rfl) (z_wat (q := 0) (j := 30) zwX12_rules_0 rfl) rfl
theorem dX12_rules_31 : decode cX12_rules 31 = .ok (.aload_n 0, 1) := z_o42 (z_wat (q := 0) (j := 31) zwX12_rules_0 rfl)
theorem zwX12_rules_32 : ((cX12_rules.data.toList.drop 32).take 34).map UInt8.toNat = [3, 181, 1, 61, 42, 3, 181, 1, 64, 42, 180, 0, 221, 153, 0, 12, 42, 182, 1, 131, 154, 255, 245, 2, 172, 42, 42, 180, 1, 122, 181, 1, 134, 42] := by decide +kernel
theorem dX12_rules_32 : decode cX12_rules 32 = .ok (.iconst 0, 1) := z_o3 (z_wat (q := 32) (j := 0) zwX12_rules_32 rfl)
theorem dX12_rules_33 : decode cX12_rules 33 = .ok (.putfield 317, 3) := z_o181 (z_wat (q := 32) (j := 1) zwX12_rules_32 rfl) (z_wat (q := 32) (j := 2) zwX12_rules_32 rfl) (z_wat (q := 32) (j := 3) zwX12_rules_32 rfl) rfl
theorem dX12_rules_36 : decode cX12_rules 36 = .ok (.aload_n 0, 1) := z_o42 (z_wat (q := 32) (j := 4) zwX12_rules_32 rfl)
theorem dX12_rules_37 : decode cX12_rules 37 = .ok (.iconst 0, 1) := z_o3 (z_wat (q := 32) (j := 5) zwX12_rules_32 rfl)
theorem dX12_rules_38 : decode cX12_rules 38 = .ok (.putfield 320, 3) := z_o181 (z_wat (q := 32) (j := 6) zwX12_rules_32 rfl) (z_wat (q := 32) (j := 7) zwX12_rules_32 rfl) (z_wat (q := 32) (j := 8) zwX12_rules_32 rfl) rfl
theorem dX12_rules_41 : decode cX12_rules 41 = .ok (.aload_n 0, 1) := z_o42 (z_wat (q := 32) (j := 9) zwX12_rules_32 rfl)
theorem dX12_rules_42 : decode cX12_rules 42 = .ok (.getfield 221, 3) := z_o180 (z_wat (q := 32) (j := 10) zwX12_rules_32 rfl) (z_wat (q := 32) (j := 11) zwX12_rules_32 rfl) (z_wat (q := 32) (j := 12) zwX12_rules_32 rfl) rfl
theorem dX12_rules_45 : decode cX12_rules 45 = .ok (.ifCond .eq 12, 3) := z_o153 (z_wat (q := 32) (j := 13) zwX12_rules_32 rfl) (z_wat (q := 32) (j := 14) zwX12_rules_32 rfl) (z_wat (q := 32) (j := 15) zwX12_rules_32 rfl) rfl
theorem dX12_rules_48 : decode cX12_rules 48 = .ok (.aload_n 0, 1) := z_o42 (z_wat (q := 32) (j := 16) zwX12_rules_32 rfl)
theorem dX12_rules_49 : decode cX12_rules 49 = .ok (.invokevirtual 387, 3) := z_o182 (z_wat (q := 32) (j := 17) zwX12_rules_32 rfl) (z_wat (q := 32) (j := 18) zwX12_rules_32 rfl) (z_wat (q := 32) (j := 19) zwX12_rules_32 rfl) rfl
theorem dX12_rules_52 : decode cX12_rules 52 = .ok (.ifCond .ne (-11), 3) := z_o154 (z_wat (q := 32) (j := 20) zwX12_rules_32 rfl) (z_wat (q := 32) (j := 21) zwX12_rules_32 rfl) (z_wat (q := 32) (j := 22) zwX12_rules_32 rfl) rfl
theorem dX12_rules_55 : decode cX12_rules 55 = .ok (.iconst (-1), 1) := z_o2 (z_wat (q := 32) (j := 23) zwX12_rules_32 rfl)
theorem dX12_rules_56 : decode cX12_rules 56 = .ok (.ireturn, 1) := z_o172 (z_wat (q := 32) (j := 24) zwX12_rules_32 rfl)
theorem dX12_rules_57 : decode cX12_rules 57 = .ok (.aload_n 0, 1) := z_o42 (z_wat (q := 32) (j := 25) zwX12_rules_32 rfl)
theorem dX12_rules_58 : decode cX12_rules 58 = .ok (.aload_n 0, 1) := z_o42 (z_wat (q := 32) (j := 26) zwX12_rules_32 rfl)
theorem dX12_rules_59 : decode cX12_rules 59 = .ok (.getfield 378, 3) := z_o180 (z_wat (q := 32) (j := 27) zwX12_rules_32 rfl) (z_wat (q := 32) (j := 28) zwX12_rules_32 rfl) (z_wat (q := 32) (j := 29) zwX12_rules_32 rfl) rfl
theorem dX12_rules_62 : decode cX12_rules 62 = .ok (.putfield 390, 3) := z_o181 (z_wat (q := 32) (j := 30) zwX12_rules_32 rfl) (z_wat (q := 32) (j := 31) zwX12_rules_32 rfl) (z_wat (q := 32) (j := 32) zwX12_rules_32 rfl) rfl
theorem zwX12_rules_64 : ((cX12_rules.data.toList.drop 64).take 34).map UInt8.toNat = [134, 42, 42, 180, 1, 61, 181, 1, 137, 3, 61, 28, 16, 6, 162, 0, 39, 42, 180, 0, 105, 28, 42, 180, 0, 105, 16, 6, 28, 96, 46, 79, 42, 180] := by decide +kernel
theorem dX12_rules_65 : decode cX12_rules 65 = .ok (.aload_n 0, 1) := z_o42 (z_wat (q := 64) (j := 1) zwX12_rules_64 rfl)
theorem dX12_rules_66 : decode cX12_rules 66 = .ok (.aload_n 0, 1) := z_o42 (z_wat (q := 64) (j := 2) zwX12_rules_64 rfl)
theorem dX12_rules_67 : decode cX12_rules 67 = .ok (.getfield 317, 3) := z_o180 (z_wat (q := 64) (j := 3) zwX12_rules_64 rfl) (z_wat (q := 64) (j := 4) zwX12_rules_64 rfl) (z_wat (q := 64) (j := 5) zwX12_rules_64 rfl) rfl
theorem dX12_rules_70 : decode cX12_rules 70 = .ok (.putfield 393, 3) := z_o181 (z_wat (q := 64) (j := 6) zwX12_rules_64 rfl) (z_wat (q := 64) (j := 7) zwX12_rules_64 rfl) (z_wat (q := 64) (j := 8) zwX12_rules_64 rfl) rfl
theorem dX12_rules_73 : decode cX12_rules 73 = .ok (.iconst 0, 1) := z_o3 (z_wat (q := 64) (j := 9) zwX12_rules_64 rfl)
theorem dX12_rules_74 : decode cX12_rules 74 = .ok (.istore_n 2, 1) := z_o61 (z_wat (q := 64) (j := 10) zwX12_rules_64 rfl)
theorem dX12_rules_75 : decode cX12_rules 75 = .ok (.iload_n 2, 1) := z_o28 (z_wat (q := 64) (j := 11) zwX12_rules_64 rfl)
theorem dX12_rules_76 : decode cX12_rules 76 = .ok (.bipush 6, 2) := z_o16 (z_wat (q := 64) (j := 12) zwX12_rules_64 rfl) (z_wat (q := 64) (j := 13) zwX12_rules_64 rfl) rfl
theorem dX12_rules_78 : decode cX12_rules 78 = .ok (.if_icmp .ge 39, 3) := z_o162 (z_wat (q := 64) (j := 14) zwX12_rules_64 rfl) (z_wat (q := 64) (j := 15) zwX12_rules_64 rfl) (z_wat (q := 64) (j := 16) zwX12_rules_64 rfl) rfl
theorem dX12_rules_81 : decode cX12_rules 81 = .ok (.aload_n 0, 1) := z_o42 (z_wat (q := 64) (j := 17) zwX12_rules_64 rfl)
theorem dX12_rules_82 : decode cX12_rules 82 = .ok (.getfield 105, 3) := z_o180 (z_wat (q := 64) (j := 18) zwX12_rules_64 rfl) (z_wat (q := 64) (j := 19) zwX12_rules_64 rfl) (z_wat (q := 64) (j := 20) zwX12_rules_64 rfl) rfl
theorem dX12_rules_85 : decode cX12_rules 85 = .ok (.iload_n 2, 1) := z_o28 (z_wat (q := 64) (j := 21) zwX12_rules_64 rfl)
theorem dX12_rules_86 : decode cX12_rules 86 = .ok (.aload_n 0, 1) := z_o42 (z_wat (q := 64) (j := 22) zwX12_rules_64 rfl)
theorem dX12_rules_87 : decode cX12_rules 87 = .ok (.getfield 105, 3) := z_o180 (z_wat (q := 64) (j := 23) zwX12_rules_64 rfl) (z_wat (q := 64) (j := 24) zwX12_rules_64 rfl) (z_wat (q := 64) (j := 25) zwX12_rules_64 rfl) rfl
theorem dX12_rules_90 : decode cX12_rules 90 = .ok (.bipush 6, 2) := z_o16 (z_wat (q := 64) (j := 26) zwX12_rules_64 rfl) (z_wat (q := 64) (j := 27) zwX12_rules_64 rfl) rfl
theorem dX12_rules_92 : decode cX12_rules 92 = .ok (.iload_n 2, 1) := z_o28 (z_wat (q := 64) (j := 28) zwX12_rules_64 rfl)
theorem dX12_rules_93 : decode cX12_rules 93 = .ok (.iadd, 1) := z_o96 (z_wat (q := 64) (j := 29) zwX12_rules_64 rfl)
theorem dX12_rules_94 : decode cX12_rules 94 = .ok (.iaload, 1) := z_o46 (z_wat (q := 64) (j := 30) zwX12_rules_64 rfl)
theorem dX12_rules_95 : decode cX12_rules 95 = .ok (.iastore, 1) := z_o79 (z_wat (q := 64) (j := 31) zwX12_rules_64 rfl)
theorem zwX12_rules_96 : ((cX12_rules.data.toList.drop 96).take 34).map UInt8.toNat = [42, 180, 0, 108, 28, 42, 180, 0, 108, 16, 6, 28, 96, 46, 79, 132, 2, 1, 167, 255, 217, 3, 61, 28, 42, 180, 1, 137, 162, 0, 108, 42, 180, 0] := by decide +kernel
theorem dX12_rules_96 : decode cX12_rules 96 = .ok (.aload_n 0, 1) := z_o42 (z_wat (q := 96) (j := 0) zwX12_rules_96 rfl)
theorem dX12_rules_97 : decode cX12_rules 97 = .ok (.getfield 108, 3) := z_o180 (z_wat (q := 96) (j := 1) zwX12_rules_96 rfl) (z_wat (q := 96) (j := 2) zwX12_rules_96 rfl) (z_wat (q := 96) (j := 3) zwX12_rules_96 rfl) rfl
theorem dX12_rules_100 : decode cX12_rules 100 = .ok (.iload_n 2, 1) := z_o28 (z_wat (q := 96) (j := 4) zwX12_rules_96 rfl)
theorem dX12_rules_101 : decode cX12_rules 101 = .ok (.aload_n 0, 1) := z_o42 (z_wat (q := 96) (j := 5) zwX12_rules_96 rfl)
theorem dX12_rules_102 : decode cX12_rules 102 = .ok (.getfield 108, 3) := z_o180 (z_wat (q := 96) (j := 6) zwX12_rules_96 rfl) (z_wat (q := 96) (j := 7) zwX12_rules_96 rfl) (z_wat (q := 96) (j := 8) zwX12_rules_96 rfl) rfl
theorem dX12_rules_105 : decode cX12_rules 105 = .ok (.bipush 6, 2) := z_o16 (z_wat (q := 96) (j := 9) zwX12_rules_96 rfl) (z_wat (q := 96) (j := 10) zwX12_rules_96 rfl) rfl
theorem dX12_rules_107 : decode cX12_rules 107 = .ok (.iload_n 2, 1) := z_o28 (z_wat (q := 96) (j := 11) zwX12_rules_96 rfl)
theorem dX12_rules_108 : decode cX12_rules 108 = .ok (.iadd, 1) := z_o96 (z_wat (q := 96) (j := 12) zwX12_rules_96 rfl)
theorem dX12_rules_109 : decode cX12_rules 109 = .ok (.iaload, 1) := z_o46 (z_wat (q := 96) (j := 13) zwX12_rules_96 rfl)
theorem dX12_rules_110 : decode cX12_rules 110 = .ok (.iastore, 1) := z_o79 (z_wat (q := 96) (j := 14) zwX12_rules_96 rfl)
theorem dX12_rules_111 : decode cX12_rules 111 = .ok (.iinc 2 1, 3) := z_o132 (z_wat (q := 96) (j := 15) zwX12_rules_96 rfl) (z_wat (q := 96) (j := 16) zwX12_rules_96 rfl) (z_wat (q := 96) (j := 17) zwX12_rules_96 rfl) rfl
theorem dX12_rules_114 : decode cX12_rules 114 = .ok (.goto (-39), 3) := z_o167 (z_wat (q := 96) (j := 18) zwX12_rules_96 rfl) (z_wat (q := 96) (j := 19) zwX12_rules_96 rfl) (z_wat (q := 96) (j := 20) zwX12_rules_96 rfl) rfl
theorem dX12_rules_117 : decode cX12_rules 117 = .ok (.iconst 0, 1) := z_o3 (z_wat (q := 96) (j := 21) zwX12_rules_96 rfl)
theorem dX12_rules_118 : decode cX12_rules 118 = .ok (.istore_n 2, 1) := z_o61 (z_wat (q := 96) (j := 22) zwX12_rules_96 rfl)
theorem dX12_rules_119 : decode cX12_rules 119 = .ok (.iload_n 2, 1) := z_o28 (z_wat (q := 96) (j := 23) zwX12_rules_96 rfl)
theorem dX12_rules_120 : decode cX12_rules 120 = .ok (.aload_n 0, 1) := z_o42 (z_wat (q := 96) (j := 24) zwX12_rules_96 rfl)
theorem dX12_rules_121 : decode cX12_rules 121 = .ok (.getfield 393, 3) := z_o180 (z_wat (q := 96) (j := 25) zwX12_rules_96 rfl) (z_wat (q := 96) (j := 26) zwX12_rules_96 rfl) (z_wat (q := 96) (j := 27) zwX12_rules_96 rfl) rfl
theorem dX12_rules_124 : decode cX12_rules 124 = .ok (.if_icmp .ge 108, 3) := z_o162 (z_wat (q := 96) (j := 28) zwX12_rules_96 rfl) (z_wat (q := 96) (j := 29) zwX12_rules_96 rfl) (z_wat (q := 96) (j := 30) zwX12_rules_96 rfl) rfl
theorem dX12_rules_127 : decode cX12_rules 127 = .ok (.aload_n 0, 1) := z_o42 (z_wat (q := 96) (j := 31) zwX12_rules_96 rfl)
theorem zwX12_rules_128 : ((cX12_rules.data.toList.drop 128).take 34).map UInt8.toNat = [180, 0, 111, 28, 42, 180, 0, 111, 16, 96, 28, 96, 46, 79, 42, 180, 0, 114, 28, 42, 180, 0, 114, 16, 96, 28, 96, 46, 16, 96, 100, 79, 42, 180] := by decide +kernel
theorem dX12_rules_128 : decode cX12_rules 128 = .ok (.getfield 111, 3) := z_o180 (z_wat (q := 128) (j := 0) zwX12_rules_128 rfl) (z_wat (q := 128) (j := 1) zwX12_rules_128 rfl) (z_wat (q := 128) (j := 2) zwX12_rules_128 rfl) rfl
theorem dX12_rules_131 : decode cX12_rules 131 = .ok (.iload_n 2, 1) := z_o28 (z_wat (q := 128) (j := 3) zwX12_rules_128 rfl)
theorem dX12_rules_132 : decode cX12_rules 132 = .ok (.aload_n 0, 1) := z_o42 (z_wat (q := 128) (j := 4) zwX12_rules_128 rfl)
theorem dX12_rules_133 : decode cX12_rules 133 = .ok (.getfield 111, 3) := z_o180 (z_wat (q := 128) (j := 5) zwX12_rules_128 rfl) (z_wat (q := 128) (j := 6) zwX12_rules_128 rfl) (z_wat (q := 128) (j := 7) zwX12_rules_128 rfl) rfl
theorem dX12_rules_136 : decode cX12_rules 136 = .ok (.bipush 96, 2) := z_o16 (z_wat (q := 128) (j := 8) zwX12_rules_128 rfl) (z_wat (q := 128) (j := 9) zwX12_rules_128 rfl) rfl
theorem dX12_rules_138 : decode cX12_rules 138 = .ok (.iload_n 2, 1) := z_o28 (z_wat (q := 128) (j := 10) zwX12_rules_128 rfl)
theorem dX12_rules_139 : decode cX12_rules 139 = .ok (.iadd, 1) := z_o96 (z_wat (q := 128) (j := 11) zwX12_rules_128 rfl)
theorem dX12_rules_140 : decode cX12_rules 140 = .ok (.iaload, 1) := z_o46 (z_wat (q := 128) (j := 12) zwX12_rules_128 rfl)
theorem dX12_rules_141 : decode cX12_rules 141 = .ok (.iastore, 1) := z_o79 (z_wat (q := 128) (j := 13) zwX12_rules_128 rfl)
theorem dX12_rules_142 : decode cX12_rules 142 = .ok (.aload_n 0, 1) := z_o42 (z_wat (q := 128) (j := 14) zwX12_rules_128 rfl)
theorem dX12_rules_143 : decode cX12_rules 143 = .ok (.getfield 114, 3) := z_o180 (z_wat (q := 128) (j := 15) zwX12_rules_128 rfl) (z_wat (q := 128) (j := 16) zwX12_rules_128 rfl) (z_wat (q := 128) (j := 17) zwX12_rules_128 rfl) rfl
theorem dX12_rules_146 : decode cX12_rules 146 = .ok (.iload_n 2, 1) := z_o28 (z_wat (q := 128) (j := 18) zwX12_rules_128 rfl)
theorem dX12_rules_147 : decode cX12_rules 147 = .ok (.aload_n 0, 1) := z_o42 (z_wat (q := 128) (j := 19) zwX12_rules_128 rfl)
theorem dX12_rules_148 : decode cX12_rules 148 = .ok (.getfield 114, 3) := z_o180 (z_wat (q := 128) (j := 20) zwX12_rules_128 rfl) (z_wat (q := 128) (j := 21) zwX12_rules_128 rfl) (z_wat (q := 128) (j := 22) zwX12_rules_128 rfl) rfl
theorem dX12_rules_151 : decode cX12_rules 151 = .ok (.bipush 96, 2) := z_o16 (z_wat (q := 128) (j := 23) zwX12_rules_128 rfl) (z_wat (q := 128) (j := 24) zwX12_rules_128 rfl) rfl
theorem dX12_rules_153 : decode cX12_rules 153 = .ok (.iload_n 2, 1) := z_o28 (z_wat (q := 128) (j := 25) zwX12_rules_128 rfl)
theorem dX12_rules_154 : decode cX12_rules 154 = .ok (.iadd, 1) := z_o96 (z_wat (q := 128) (j := 26) zwX12_rules_128 rfl)
theorem dX12_rules_155 : decode cX12_rules 155 = .ok (.iaload, 1) := z_o46 (z_wat (q := 128) (j := 27) zwX12_rules_128 rfl)
theorem dX12_rules_156 : decode cX12_rules 156 = .ok (.bipush 96, 2) := z_o16 (z_wat (q := 128) (j := 28) zwX12_rules_128 rfl) (z_wat (q := 128) (j := 29) zwX12_rules_128 rfl) rfl
theorem dX12_rules_158 : decode cX12_rules 158 = .ok (.isub, 1) := z_o100 (z_wat (q := 128) (j := 30) zwX12_rules_128 rfl)
theorem dX12_rules_159 : decode cX12_rules 159 = .ok (.iastore, 1) := z_o79 (z_wat (q := 128) (j := 31) zwX12_rules_128 rfl)
theorem zwX12_rules_160 : ((cX12_rules.data.toList.drop 160).take 34).map UInt8.toNat = [42, 180, 0, 117, 28, 42, 180, 0, 117, 16, 96, 28, 96, 46, 16, 96, 100, 79, 42, 180, 0, 120, 28, 42, 180, 0, 120, 16, 96, 28, 96, 46, 79, 42] := by decide +kernel
theorem dX12_rules_160 : decode cX12_rules 160 = .ok (.aload_n 0, 1) := z_o42 (z_wat (q := 160) (j := 0) zwX12_rules_160 rfl)
theorem dX12_rules_161 : decode cX12_rules 161 = .ok (.getfield 117, 3) := z_o180 (z_wat (q := 160) (j := 1) zwX12_rules_160 rfl) (z_wat (q := 160) (j := 2) zwX12_rules_160 rfl) (z_wat (q := 160) (j := 3) zwX12_rules_160 rfl) rfl
theorem dX12_rules_164 : decode cX12_rules 164 = .ok (.iload_n 2, 1) := z_o28 (z_wat (q := 160) (j := 4) zwX12_rules_160 rfl)
theorem dX12_rules_165 : decode cX12_rules 165 = .ok (.aload_n 0, 1) := z_o42 (z_wat (q := 160) (j := 5) zwX12_rules_160 rfl)
theorem dX12_rules_166 : decode cX12_rules 166 = .ok (.getfield 117, 3) := z_o180 (z_wat (q := 160) (j := 6) zwX12_rules_160 rfl) (z_wat (q := 160) (j := 7) zwX12_rules_160 rfl) (z_wat (q := 160) (j := 8) zwX12_rules_160 rfl) rfl
theorem dX12_rules_169 : decode cX12_rules 169 = .ok (.bipush 96, 2) := z_o16 (z_wat (q := 160) (j := 9) zwX12_rules_160 rfl) (z_wat (q := 160) (j := 10) zwX12_rules_160 rfl) rfl
theorem dX12_rules_171 : decode cX12_rules 171 = .ok (.iload_n 2, 1) := z_o28 (z_wat (q := 160) (j := 11) zwX12_rules_160 rfl)
theorem dX12_rules_172 : decode cX12_rules 172 = .ok (.iadd, 1) := z_o96 (z_wat (q := 160) (j := 12) zwX12_rules_160 rfl)
theorem dX12_rules_173 : decode cX12_rules 173 = .ok (.iaload, 1) := z_o46 (z_wat (q := 160) (j := 13) zwX12_rules_160 rfl)
theorem dX12_rules_174 : decode cX12_rules 174 = .ok (.bipush 96, 2) := z_o16 (z_wat (q := 160) (j := 14) zwX12_rules_160 rfl) (z_wat (q := 160) (j := 15) zwX12_rules_160 rfl) rfl
theorem dX12_rules_176 : decode cX12_rules 176 = .ok (.isub, 1) := z_o100 (z_wat (q := 160) (j := 16) zwX12_rules_160 rfl)
theorem dX12_rules_177 : decode cX12_rules 177 = .ok (.iastore, 1) := z_o79 (z_wat (q := 160) (j := 17) zwX12_rules_160 rfl)
theorem dX12_rules_178 : decode cX12_rules 178 = .ok (.aload_n 0, 1) := z_o42 (z_wat (q := 160) (j := 18) zwX12_rules_160 rfl)
theorem dX12_rules_179 : decode cX12_rules 179 = .ok (.getfield 120, 3) := z_o180 (z_wat (q := 160) (j := 19) zwX12_rules_160 rfl) (z_wat (q := 160) (j := 20) zwX12_rules_160 rfl) (z_wat (q := 160) (j := 21) zwX12_rules_160 rfl) rfl
theorem dX12_rules_182 : decode cX12_rules 182 = .ok (.iload_n 2, 1) := z_o28 (z_wat (q := 160) (j := 22) zwX12_rules_160 rfl)
theorem dX12_rules_183 : decode cX12_rules 183 = .ok (.aload_n 0, 1) := z_o42 (z_wat (q := 160) (j := 23) zwX12_rules_160 rfl)
theorem dX12_rules_184 : decode cX12_rules 184 = .ok (.getfield 120, 3) := z_o180 (z_wat (q := 160) (j := 24) zwX12_rules_160 rfl) (z_wat (q := 160) (j := 25) zwX12_rules_160 rfl) (z_wat (q := 160) (j := 26) zwX12_rules_160 rfl) rfl
theorem dX12_rules_187 : decode cX12_rules 187 = .ok (.bipush 96, 2) := z_o16 (z_wat (q := 160) (j := 27) zwX12_rules_160 rfl) (z_wat (q := 160) (j := 28) zwX12_rules_160 rfl) rfl
theorem dX12_rules_189 : decode cX12_rules 189 = .ok (.iload_n 2, 1) := z_o28 (z_wat (q := 160) (j := 29) zwX12_rules_160 rfl)
theorem dX12_rules_190 : decode cX12_rules 190 = .ok (.iadd, 1) := z_o96 (z_wat (q := 160) (j := 30) zwX12_rules_160 rfl)
theorem dX12_rules_191 : decode cX12_rules 191 = .ok (.iaload, 1) := z_o46 (z_wat (q := 160) (j := 31) zwX12_rules_160 rfl)
theorem zwX12_rules_192 : ((cX12_rules.data.toList.drop 192).take 34).map UInt8.toNat = [79, 42, 180, 0, 123, 28, 42, 180, 0, 123, 16, 96, 28, 96, 51, 84, 42, 180, 0, 126, 28, 42, 180, 0, 126, 16, 96, 28, 96, 46, 16, 96, 100, 79] := by decide +kernel
theorem dX12_rules_192 : decode cX12_rules 192 = .ok (.iastore, 1) := z_o79 (z_wat (q := 192) (j := 0) zwX12_rules_192 rfl)
theorem dX12_rules_193 : decode cX12_rules 193 = .ok (.aload_n 0, 1) := z_o42 (z_wat (q := 192) (j := 1) zwX12_rules_192 rfl)
theorem dX12_rules_194 : decode cX12_rules 194 = .ok (.getfield 123, 3) := z_o180 (z_wat (q := 192) (j := 2) zwX12_rules_192 rfl) (z_wat (q := 192) (j := 3) zwX12_rules_192 rfl) (z_wat (q := 192) (j := 4) zwX12_rules_192 rfl) rfl
theorem dX12_rules_197 : decode cX12_rules 197 = .ok (.iload_n 2, 1) := z_o28 (z_wat (q := 192) (j := 5) zwX12_rules_192 rfl)
theorem dX12_rules_198 : decode cX12_rules 198 = .ok (.aload_n 0, 1) := z_o42 (z_wat (q := 192) (j := 6) zwX12_rules_192 rfl)
theorem dX12_rules_199 : decode cX12_rules 199 = .ok (.getfield 123, 3) := z_o180 (z_wat (q := 192) (j := 7) zwX12_rules_192 rfl) (z_wat (q := 192) (j := 8) zwX12_rules_192 rfl) (z_wat (q := 192) (j := 9) zwX12_rules_192 rfl) rfl
theorem dX12_rules_202 : decode cX12_rules 202 = .ok (.bipush 96, 2) := z_o16 (z_wat (q := 192) (j := 10) zwX12_rules_192 rfl) (z_wat (q := 192) (j := 11) zwX12_rules_192 rfl) rfl
theorem dX12_rules_204 : decode cX12_rules 204 = .ok (.iload_n 2, 1) := z_o28 (z_wat (q := 192) (j := 12) zwX12_rules_192 rfl)
theorem dX12_rules_205 : decode cX12_rules 205 = .ok (.iadd, 1) := z_o96 (z_wat (q := 192) (j := 13) zwX12_rules_192 rfl)
theorem dX12_rules_206 : decode cX12_rules 206 = .ok (.baload, 1) := z_o51 (z_wat (q := 192) (j := 14) zwX12_rules_192 rfl)
theorem dX12_rules_207 : decode cX12_rules 207 = .ok (.bastore, 1) := z_o84 (z_wat (q := 192) (j := 15) zwX12_rules_192 rfl)
theorem dX12_rules_208 : decode cX12_rules 208 = .ok (.aload_n 0, 1) := z_o42 (z_wat (q := 192) (j := 16) zwX12_rules_192 rfl)
theorem dX12_rules_209 : decode cX12_rules 209 = .ok (.getfield 126, 3) := z_o180 (z_wat (q := 192) (j := 17) zwX12_rules_192 rfl) (z_wat (q := 192) (j := 18) zwX12_rules_192 rfl) (z_wat (q := 192) (j := 19) zwX12_rules_192 rfl) rfl
theorem dX12_rules_212 : decode cX12_rules 212 = .ok (.iload_n 2, 1) := z_o28 (z_wat (q := 192) (j := 20) zwX12_rules_192 rfl)
theorem dX12_rules_213 : decode cX12_rules 213 = .ok (.aload_n 0, 1) := z_o42 (z_wat (q := 192) (j := 21) zwX12_rules_192 rfl)
theorem dX12_rules_214 : decode cX12_rules 214 = .ok (.getfield 126, 3) := z_o180 (z_wat (q := 192) (j := 22) zwX12_rules_192 rfl) (z_wat (q := 192) (j := 23) zwX12_rules_192 rfl) (z_wat (q := 192) (j := 24) zwX12_rules_192 rfl) rfl
theorem dX12_rules_217 : decode cX12_rules 217 = .ok (.bipush 96, 2) := z_o16 (z_wat (q := 192) (j := 25) zwX12_rules_192 rfl) (z_wat (q := 192) (j := 26) zwX12_rules_192 rfl) rfl
theorem dX12_rules_219 : decode cX12_rules 219 = .ok (.iload_n 2, 1) := z_o28 (z_wat (q := 192) (j := 27) zwX12_rules_192 rfl)
theorem dX12_rules_220 : decode cX12_rules 220 = .ok (.iadd, 1) := z_o96 (z_wat (q := 192) (j := 28) zwX12_rules_192 rfl)
theorem dX12_rules_221 : decode cX12_rules 221 = .ok (.iaload, 1) := z_o46 (z_wat (q := 192) (j := 29) zwX12_rules_192 rfl)
theorem dX12_rules_222 : decode cX12_rules 222 = .ok (.bipush 96, 2) := z_o16 (z_wat (q := 192) (j := 30) zwX12_rules_192 rfl) (z_wat (q := 192) (j := 31) zwX12_rules_192 rfl) rfl
theorem zwX12_rules_224 : ((cX12_rules.data.toList.drop 224).take 13).map UInt8.toNat = [100, 79, 132, 2, 1, 167, 255, 146, 42, 180, 1, 134, 172] := by decide +kernel
theorem dX12_rules_224 : decode cX12_rules 224 = .ok (.isub, 1) := z_o100 (z_wat (q := 224) (j := 0) zwX12_rules_224 rfl)
theorem dX12_rules_225 : decode cX12_rules 225 = .ok (.iastore, 1) := z_o79 (z_wat (q := 224) (j := 1) zwX12_rules_224 rfl)
theorem dX12_rules_226 : decode cX12_rules 226 = .ok (.iinc 2 1, 3) := z_o132 (z_wat (q := 224) (j := 2) zwX12_rules_224 rfl) (z_wat (q := 224) (j := 3) zwX12_rules_224 rfl) (z_wat (q := 224) (j := 4) zwX12_rules_224 rfl) rfl
theorem dX12_rules_229 : decode cX12_rules 229 = .ok (.goto (-110), 3) := z_o167 (z_wat (q := 224) (j := 5) zwX12_rules_224 rfl) (z_wat (q := 224) (j := 6) zwX12_rules_224 rfl) (z_wat (q := 224) (j := 7) zwX12_rules_224 rfl) rfl
theorem dX12_rules_232 : decode cX12_rules 232 = .ok (.aload_n 0, 1) := z_o42 (z_wat (q := 224) (j := 8) zwX12_rules_224 rfl)
theorem dX12_rules_233 : decode cX12_rules 233 = .ok (.getfield 390, 3) := z_o180 (z_wat (q := 224) (j := 9) zwX12_rules_224 rfl) (z_wat (q := 224) (j := 10) zwX12_rules_224 rfl) (z_wat (q := 224) (j := 11) zwX12_rules_224 rfl) rfl
theorem dX12_rules_236 : decode cX12_rules 236 = .ok (.ireturn, 1) := z_o172 (z_wat (q := 224) (j := 12) zwX12_rules_224 rfl)
